section
-- ===== PART A: goes FIRST, ahead of the names: the tables' words, and 'selects' of the private methods out of them =====
/-- a private method of a class that the tables say can be made, by its rows of tables_1 -/
def lw_okq (q : MethodName × Nat) : Prop := (q.1.cls ≠ "java/lang/invoke/MethodHandle" ∧ q.1.cls ≠ "java/lang/invoke/VarHandle") ∧ Cond.instantiable q.1.cls q.2 ∈ tables_1 ∧ Cond.privateMethod q.1 ∈ tables_1 ∧ Cond.instanceMethod q.1 ∈ tables_1
theorem lw_p0 : lw_okq (⟨"PurserLedgers", "newTrial", "()LPurserLedgers$Books;"⟩, 5) := ⟨⟨by decide +kernel, by decide +kernel⟩, List.mem_of_getElem? (i := 15) (by decide +kernel), List.mem_of_getElem? (i := 287) (by decide +kernel), List.mem_of_getElem? (i := 288) (by decide +kernel)⟩
theorem lw_p1 : lw_okq (⟨"PurserLedgers", "settleTrial", "(I)I"⟩, 5) := ⟨⟨by decide +kernel, by decide +kernel⟩, List.mem_of_getElem? (i := 15) (by decide +kernel), List.mem_of_getElem? (i := 330) (by decide +kernel), List.mem_of_getElem? (i := 331) (by decide +kernel)⟩
theorem lw_p2 : lw_okq (⟨"PurserLedgers$Books", "reasonAgainst", "(LPurserLedgers$Sailor;LPurserLedgers$Item;I)I"⟩, 10) := ⟨⟨by decide +kernel, by decide +kernel⟩, List.mem_of_getElem? (i := 23) (by decide +kernel), List.mem_of_getElem? (i := 379) (by decide +kernel), List.mem_of_getElem? (i := 380) (by decide +kernel)⟩
theorem lw_p3 : lw_okq (⟨"PurserLedgers$Order", "readSign", "(LPurserLedgers$Text;I)Z"⟩, 3) := ⟨⟨by decide +kernel, by decide +kernel⟩, List.mem_of_getElem? (i := 233) (by decide +kernel), List.mem_of_getElem? (i := 721) (by decide +kernel), List.mem_of_getElem? (i := 722) (by decide +kernel)⟩
theorem lw_p4 : lw_okq (⟨"PurserLedgers$Order", "readNumber", "(LPurserLedgers$Text;)I"⟩, 3) := ⟨⟨by decide +kernel, by decide +kernel⟩, List.mem_of_getElem? (i := 233) (by decide +kernel), List.mem_of_getElem? (i := 725) (by decide +kernel), List.mem_of_getElem? (i := 726) (by decide +kernel)⟩
theorem lw_p5 : lw_okq (⟨"PurserLedgers$Order", "number", "(I)I"⟩, 3) := ⟨⟨by decide +kernel, by decide +kernel⟩, List.mem_of_getElem? (i := 233) (by decide +kernel), List.mem_of_getElem? (i := 735) (by decide +kernel), List.mem_of_getElem? (i := 736) (by decide +kernel)⟩
theorem lw_p6 : lw_okq (⟨"PurserLedgersModel", "noSign", "(II)I"⟩, 13) := ⟨⟨by decide +kernel, by decide +kernel⟩, List.mem_of_getElem? (i := 765) (by decide +kernel), List.mem_of_getElem? (i := 820) (by decide +kernel), List.mem_of_getElem? (i := 821) (by decide +kernel)⟩
theorem lw_p7 : lw_okq (⟨"PurserLedgersModel", "isAtSea", "()Z"⟩, 13) := ⟨⟨by decide +kernel, by decide +kernel⟩, List.mem_of_getElem? (i := 765) (by decide +kernel), List.mem_of_getElem? (i := 828) (by decide +kernel), List.mem_of_getElem? (i := 829) (by decide +kernel)⟩
theorem lw_p8 : lw_okq (⟨"PurserLedgersModel", "record", "([I)V"⟩, 13) := ⟨⟨by decide +kernel, by decide +kernel⟩, List.mem_of_getElem? (i := 765) (by decide +kernel), List.mem_of_getElem? (i := 833) (by decide +kernel), List.mem_of_getElem? (i := 834) (by decide +kernel)⟩
theorem lw_p9 : lw_okq (⟨"PurserLedgersModel", "doSign", "(II)I"⟩, 13) := ⟨⟨by decide +kernel, by decide +kernel⟩, List.mem_of_getElem? (i := 765) (by decide +kernel), List.mem_of_getElem? (i := 837) (by decide +kernel), List.mem_of_getElem? (i := 838) (by decide +kernel)⟩
theorem lw_p10 : lw_okq (⟨"PurserLedgersModel", "clear", "(I)V"⟩, 13) := ⟨⟨by decide +kernel, by decide +kernel⟩, List.mem_of_getElem? (i := 765) (by decide +kernel), List.mem_of_getElem? (i := 841) (by decide +kernel), List.mem_of_getElem? (i := 842) (by decide +kernel)⟩
theorem lw_p11 : lw_okq (⟨"PurserLedgersModel", "put", "(III)V"⟩, 13) := ⟨⟨by decide +kernel, by decide +kernel⟩, List.mem_of_getElem? (i := 765) (by decide +kernel), List.mem_of_getElem? (i := 845) (by decide +kernel), List.mem_of_getElem? (i := 846) (by decide +kernel)⟩
theorem lw_p12 : lw_okq (⟨"PurserLedgersModel", "noStock", "(III)I"⟩, 13) := ⟨⟨by decide +kernel, by decide +kernel⟩, List.mem_of_getElem? (i := 765) (by decide +kernel), List.mem_of_getElem? (i := 853) (by decide +kernel), List.mem_of_getElem? (i := 854) (by decide +kernel)⟩
theorem lw_p13 : lw_okq (⟨"PurserLedgersModel", "ofItem", "(II)I"⟩, 13) := ⟨⟨by decide +kernel, by decide +kernel⟩, List.mem_of_getElem? (i := 765) (by decide +kernel), List.mem_of_getElem? (i := 860) (by decide +kernel), List.mem_of_getElem? (i := 861) (by decide +kernel)⟩
theorem lw_p14 : lw_okq (⟨"PurserLedgersModel", "doStock", "(III)I"⟩, 13) := ⟨⟨by decide +kernel, by decide +kernel⟩, List.mem_of_getElem? (i := 765) (by decide +kernel), List.mem_of_getElem? (i := 864) (by decide +kernel), List.mem_of_getElem? (i := 865) (by decide +kernel)⟩
theorem lw_p15 : lw_okq (⟨"PurserLedgersModel", "spend", "(I)V"⟩, 13) := ⟨⟨by decide +kernel, by decide +kernel⟩, List.mem_of_getElem? (i := 765) (by decide +kernel), List.mem_of_getElem? (i := 868) (by decide +kernel), List.mem_of_getElem? (i := 869) (by decide +kernel)⟩
def lw_privs_1 : List (MethodName × Nat) := [(⟨"PurserLedgers", "newTrial", "()LPurserLedgers$Books;"⟩, 5), (⟨"PurserLedgers", "settleTrial", "(I)I"⟩, 5), (⟨"PurserLedgers$Books", "reasonAgainst", "(LPurserLedgers$Sailor;LPurserLedgers$Item;I)I"⟩, 10), (⟨"PurserLedgers$Order", "readSign", "(LPurserLedgers$Text;I)Z"⟩, 3), (⟨"PurserLedgers$Order", "readNumber", "(LPurserLedgers$Text;)I"⟩, 3), (⟨"PurserLedgers$Order", "number", "(I)I"⟩, 3), (⟨"PurserLedgersModel", "noSign", "(II)I"⟩, 13), (⟨"PurserLedgersModel", "isAtSea", "()Z"⟩, 13), (⟨"PurserLedgersModel", "record", "([I)V"⟩, 13), (⟨"PurserLedgersModel", "doSign", "(II)I"⟩, 13), (⟨"PurserLedgersModel", "clear", "(I)V"⟩, 13), (⟨"PurserLedgersModel", "put", "(III)V"⟩, 13), (⟨"PurserLedgersModel", "noStock", "(III)I"⟩, 13), (⟨"PurserLedgersModel", "ofItem", "(II)I"⟩, 13), (⟨"PurserLedgersModel", "doStock", "(III)I"⟩, 13), (⟨"PurserLedgersModel", "spend", "(I)V"⟩, 13)]
theorem lw_r1 : ∀ q ∈ lw_privs_1, lw_okq q := List.forall_mem_cons.mpr ⟨lw_p0, List.forall_mem_cons.mpr ⟨lw_p1, List.forall_mem_cons.mpr ⟨lw_p2, List.forall_mem_cons.mpr ⟨lw_p3, List.forall_mem_cons.mpr ⟨lw_p4, List.forall_mem_cons.mpr ⟨lw_p5, List.forall_mem_cons.mpr ⟨lw_p6, List.forall_mem_cons.mpr ⟨lw_p7, List.forall_mem_cons.mpr ⟨lw_p8, List.forall_mem_cons.mpr ⟨lw_p9, List.forall_mem_cons.mpr ⟨lw_p10, List.forall_mem_cons.mpr ⟨lw_p11, List.forall_mem_cons.mpr ⟨lw_p12, List.forall_mem_cons.mpr ⟨lw_p13, List.forall_mem_cons.mpr ⟨lw_p14, List.forall_mem_cons.mpr ⟨lw_p15, fun _ h => absurd h List.not_mem_nil⟩⟩⟩⟩⟩⟩⟩⟩⟩⟩⟩⟩⟩⟩⟩⟩
theorem lw_p16 : lw_okq (⟨"PurserLedgersModel", "noSell", "(III)I"⟩, 13) := ⟨⟨by decide +kernel, by decide +kernel⟩, List.mem_of_getElem? (i := 765) (by decide +kernel), List.mem_of_getElem? (i := 876) (by decide +kernel), List.mem_of_getElem? (i := 877) (by decide +kernel)⟩
theorem lw_p17 : lw_okq (⟨"PurserLedgersModel", "isSailor", "(I)Z"⟩, 13) := ⟨⟨by decide +kernel, by decide +kernel⟩, List.mem_of_getElem? (i := 765) (by decide +kernel), List.mem_of_getElem? (i := 880) (by decide +kernel), List.mem_of_getElem? (i := 881) (by decide +kernel)⟩
theorem lw_p18 : lw_okq (⟨"PurserLedgersModel", "whyNot", "(III)I"⟩, 13) := ⟨⟨by decide +kernel, by decide +kernel⟩, List.mem_of_getElem? (i := 765) (by decide +kernel), List.mem_of_getElem? (i := 884) (by decide +kernel), List.mem_of_getElem? (i := 885) (by decide +kernel)⟩
theorem lw_p19 : lw_okq (⟨"PurserLedgersModel", "of", "(II)I"⟩, 13) := ⟨⟨by decide +kernel, by decide +kernel⟩, List.mem_of_getElem? (i := 765) (by decide +kernel), List.mem_of_getElem? (i := 888) (by decide +kernel), List.mem_of_getElem? (i := 889) (by decide +kernel)⟩
theorem lw_p20 : lw_okq (⟨"PurserLedgersModel", "balance", "(I)I"⟩, 13) := ⟨⟨by decide +kernel, by decide +kernel⟩, List.mem_of_getElem? (i := 765) (by decide +kernel), List.mem_of_getElem? (i := 892) (by decide +kernel), List.mem_of_getElem? (i := 893) (by decide +kernel)⟩
theorem lw_p21 : lw_okq (⟨"PurserLedgersModel", "isGone", "(I)Z"⟩, 13) := ⟨⟨by decide +kernel, by decide +kernel⟩, List.mem_of_getElem? (i := 765) (by decide +kernel), List.mem_of_getElem? (i := 896) (by decide +kernel), List.mem_of_getElem? (i := 897) (by decide +kernel)⟩
theorem lw_p22 : lw_okq (⟨"PurserLedgersModel", "earned", "(I)I"⟩, 13) := ⟨⟨by decide +kernel, by decide +kernel⟩, List.mem_of_getElem? (i := 765) (by decide +kernel), List.mem_of_getElem? (i := 900) (by decide +kernel), List.mem_of_getElem? (i := 901) (by decide +kernel)⟩
theorem lw_p23 : lw_okq (⟨"PurserLedgersModel", "charged", "(I)I"⟩, 13) := ⟨⟨by decide +kernel, by decide +kernel⟩, List.mem_of_getElem? (i := 765) (by decide +kernel), List.mem_of_getElem? (i := 907) (by decide +kernel), List.mem_of_getElem? (i := 908) (by decide +kernel)⟩
theorem lw_p24 : lw_okq (⟨"PurserLedgersModel", "doSell", "(III)I"⟩, 13) := ⟨⟨by decide +kernel, by decide +kernel⟩, List.mem_of_getElem? (i := 765) (by decide +kernel), List.mem_of_getElem? (i := 911) (by decide +kernel), List.mem_of_getElem? (i := 912) (by decide +kernel)⟩
theorem lw_p25 : lw_okq (⟨"PurserLedgersModel", "charge", "(III)V"⟩, 13) := ⟨⟨by decide +kernel, by decide +kernel⟩, List.mem_of_getElem? (i := 765) (by decide +kernel), List.mem_of_getElem? (i := 915) (by decide +kernel), List.mem_of_getElem? (i := 916) (by decide +kernel)⟩
theorem lw_p26 : lw_okq (⟨"PurserLedgersModel", "write", "(III)V"⟩, 13) := ⟨⟨by decide +kernel, by decide +kernel⟩, List.mem_of_getElem? (i := 765) (by decide +kernel), List.mem_of_getElem? (i := 919) (by decide +kernel), List.mem_of_getElem? (i := 920) (by decide +kernel)⟩
theorem lw_p27 : lw_okq (⟨"PurserLedgersModel", "noAdvance", "(II)I"⟩, 13) := ⟨⟨by decide +kernel, by decide +kernel⟩, List.mem_of_getElem? (i := 765) (by decide +kernel), List.mem_of_getElem? (i := 927) (by decide +kernel), List.mem_of_getElem? (i := 928) (by decide +kernel)⟩
theorem lw_p28 : lw_okq (⟨"PurserLedgersModel", "doAdvance", "(II)I"⟩, 13) := ⟨⟨by decide +kernel, by decide +kernel⟩, List.mem_of_getElem? (i := 765) (by decide +kernel), List.mem_of_getElem? (i := 931) (by decide +kernel), List.mem_of_getElem? (i := 932) (by decide +kernel)⟩
theorem lw_p29 : lw_okq (⟨"PurserLedgersModel", "noFine", "(II)I"⟩, 13) := ⟨⟨by decide +kernel, by decide +kernel⟩, List.mem_of_getElem? (i := 765) (by decide +kernel), List.mem_of_getElem? (i := 939) (by decide +kernel), List.mem_of_getElem? (i := 940) (by decide +kernel)⟩
theorem lw_p30 : lw_okq (⟨"PurserLedgersModel", "doFine", "(II)I"⟩, 13) := ⟨⟨by decide +kernel, by decide +kernel⟩, List.mem_of_getElem? (i := 765) (by decide +kernel), List.mem_of_getElem? (i := 943) (by decide +kernel), List.mem_of_getElem? (i := 944) (by decide +kernel)⟩
theorem lw_p31 : lw_okq (⟨"PurserLedgersModel", "ofWatch", "(II)I"⟩, 13) := ⟨⟨by decide +kernel, by decide +kernel⟩, List.mem_of_getElem? (i := 765) (by decide +kernel), List.mem_of_getElem? (i := 951) (by decide +kernel), List.mem_of_getElem? (i := 952) (by decide +kernel)⟩
def lw_privs_2 : List (MethodName × Nat) := [(⟨"PurserLedgersModel", "noSell", "(III)I"⟩, 13), (⟨"PurserLedgersModel", "isSailor", "(I)Z"⟩, 13), (⟨"PurserLedgersModel", "whyNot", "(III)I"⟩, 13), (⟨"PurserLedgersModel", "of", "(II)I"⟩, 13), (⟨"PurserLedgersModel", "balance", "(I)I"⟩, 13), (⟨"PurserLedgersModel", "isGone", "(I)Z"⟩, 13), (⟨"PurserLedgersModel", "earned", "(I)I"⟩, 13), (⟨"PurserLedgersModel", "charged", "(I)I"⟩, 13), (⟨"PurserLedgersModel", "doSell", "(III)I"⟩, 13), (⟨"PurserLedgersModel", "charge", "(III)V"⟩, 13), (⟨"PurserLedgersModel", "write", "(III)V"⟩, 13), (⟨"PurserLedgersModel", "noAdvance", "(II)I"⟩, 13), (⟨"PurserLedgersModel", "doAdvance", "(II)I"⟩, 13), (⟨"PurserLedgersModel", "noFine", "(II)I"⟩, 13), (⟨"PurserLedgersModel", "doFine", "(II)I"⟩, 13), (⟨"PurserLedgersModel", "ofWatch", "(II)I"⟩, 13)]
theorem lw_r2 : ∀ q ∈ lw_privs_2, lw_okq q := List.forall_mem_cons.mpr ⟨lw_p16, List.forall_mem_cons.mpr ⟨lw_p17, List.forall_mem_cons.mpr ⟨lw_p18, List.forall_mem_cons.mpr ⟨lw_p19, List.forall_mem_cons.mpr ⟨lw_p20, List.forall_mem_cons.mpr ⟨lw_p21, List.forall_mem_cons.mpr ⟨lw_p22, List.forall_mem_cons.mpr ⟨lw_p23, List.forall_mem_cons.mpr ⟨lw_p24, List.forall_mem_cons.mpr ⟨lw_p25, List.forall_mem_cons.mpr ⟨lw_p26, List.forall_mem_cons.mpr ⟨lw_p27, List.forall_mem_cons.mpr ⟨lw_p28, List.forall_mem_cons.mpr ⟨lw_p29, List.forall_mem_cons.mpr ⟨lw_p30, List.forall_mem_cons.mpr ⟨lw_p31, fun _ h => absurd h List.not_mem_nil⟩⟩⟩⟩⟩⟩⟩⟩⟩⟩⟩⟩⟩⟩⟩⟩
theorem lw_p32 : lw_okq (⟨"PurserLedgersModel", "isFined", "(II)Z"⟩, 13) := ⟨⟨by decide +kernel, by decide +kernel⟩, List.mem_of_getElem? (i := 765) (by decide +kernel), List.mem_of_getElem? (i := 955) (by decide +kernel), List.mem_of_getElem? (i := 956) (by decide +kernel)⟩
theorem lw_p33 : lw_okq (⟨"PurserLedgersModel", "partOf", "(III)I"⟩, 13) := ⟨⟨by decide +kernel, by decide +kernel⟩, List.mem_of_getElem? (i := 765) (by decide +kernel), List.mem_of_getElem? (i := 959) (by decide +kernel), List.mem_of_getElem? (i := 960) (by decide +kernel)⟩
theorem lw_p34 : lw_okq (⟨"PurserLedgersModel", "noLeave", "(I)I"⟩, 13) := ⟨⟨by decide +kernel, by decide +kernel⟩, List.mem_of_getElem? (i := 765) (by decide +kernel), List.mem_of_getElem? (i := 967) (by decide +kernel), List.mem_of_getElem? (i := 968) (by decide +kernel)⟩
theorem lw_p35 : lw_okq (⟨"PurserLedgersModel", "inPlace", "(I)I"⟩, 13) := ⟨⟨by decide +kernel, by decide +kernel⟩, List.mem_of_getElem? (i := 765) (by decide +kernel), List.mem_of_getElem? (i := 971) (by decide +kernel), List.mem_of_getElem? (i := 972) (by decide +kernel)⟩
theorem lw_p36 : lw_okq (⟨"PurserLedgersModel", "aboardOf", "(I)I"⟩, 13) := ⟨⟨by decide +kernel, by decide +kernel⟩, List.mem_of_getElem? (i := 765) (by decide +kernel), List.mem_of_getElem? (i := 975) (by decide +kernel), List.mem_of_getElem? (i := 976) (by decide +kernel)⟩
theorem lw_p37 : lw_okq (⟨"PurserLedgersModel", "doLeave", "(I)I"⟩, 13) := ⟨⟨by decide +kernel, by decide +kernel⟩, List.mem_of_getElem? (i := 765) (by decide +kernel), List.mem_of_getElem? (i := 979) (by decide +kernel), List.mem_of_getElem? (i := 980) (by decide +kernel)⟩
theorem lw_p38 : lw_okq (⟨"PurserLedgersModel", "noBack", "(II)I"⟩, 13) := ⟨⟨by decide +kernel, by decide +kernel⟩, List.mem_of_getElem? (i := 765) (by decide +kernel), List.mem_of_getElem? (i := 987) (by decide +kernel), List.mem_of_getElem? (i := 988) (by decide +kernel)⟩
theorem lw_p39 : lw_okq (⟨"PurserLedgersModel", "doBack", "(II)I"⟩, 13) := ⟨⟨by decide +kernel, by decide +kernel⟩, List.mem_of_getElem? (i := 765) (by decide +kernel), List.mem_of_getElem? (i := 991) (by decide +kernel), List.mem_of_getElem? (i := 992) (by decide +kernel)⟩
theorem lw_p40 : lw_okq (⟨"PurserLedgersModel", "noSail", "()I"⟩, 13) := ⟨⟨by decide +kernel, by decide +kernel⟩, List.mem_of_getElem? (i := 765) (by decide +kernel), List.mem_of_getElem? (i := 999) (by decide +kernel), List.mem_of_getElem? (i := 1000) (by decide +kernel)⟩
theorem lw_p41 : lw_okq (⟨"PurserLedgersModel", "doSail", "()I"⟩, 13) := ⟨⟨by decide +kernel, by decide +kernel⟩, List.mem_of_getElem? (i := 765) (by decide +kernel), List.mem_of_getElem? (i := 1003) (by decide +kernel), List.mem_of_getElem? (i := 1004) (by decide +kernel)⟩
theorem lw_p42 : lw_okq (⟨"PurserLedgersModel", "noPort", "()I"⟩, 13) := ⟨⟨by decide +kernel, by decide +kernel⟩, List.mem_of_getElem? (i := 765) (by decide +kernel), List.mem_of_getElem? (i := 1011) (by decide +kernel), List.mem_of_getElem? (i := 1012) (by decide +kernel)⟩
theorem lw_p43 : lw_okq (⟨"PurserLedgersModel", "doPort", "()I"⟩, 13) := ⟨⟨by decide +kernel, by decide +kernel⟩, List.mem_of_getElem? (i := 765) (by decide +kernel), List.mem_of_getElem? (i := 1015) (by decide +kernel), List.mem_of_getElem? (i := 1016) (by decide +kernel)⟩
theorem lw_p44 : lw_okq (⟨"PurserLedgersModel", "noDays", "(I)I"⟩, 13) := ⟨⟨by decide +kernel, by decide +kernel⟩, List.mem_of_getElem? (i := 765) (by decide +kernel), List.mem_of_getElem? (i := 1023) (by decide +kernel), List.mem_of_getElem? (i := 1024) (by decide +kernel)⟩
theorem lw_p45 : lw_okq (⟨"PurserLedgersModel", "doDays", "(I)I"⟩, 13) := ⟨⟨by decide +kernel, by decide +kernel⟩, List.mem_of_getElem? (i := 765) (by decide +kernel), List.mem_of_getElem? (i := 1027) (by decide +kernel), List.mem_of_getElem? (i := 1028) (by decide +kernel)⟩
theorem lw_p46 : lw_okq (⟨"PurserLedgersModel", "pay", "(II)V"⟩, 13) := ⟨⟨by decide +kernel, by decide +kernel⟩, List.mem_of_getElem? (i := 765) (by decide +kernel), List.mem_of_getElem? (i := 1035) (by decide +kernel), List.mem_of_getElem? (i := 1036) (by decide +kernel)⟩
theorem lw_p47 : lw_okq (⟨"PurserLedgersModel", "noPayOff", "()I"⟩, 13) := ⟨⟨by decide +kernel, by decide +kernel⟩, List.mem_of_getElem? (i := 765) (by decide +kernel), List.mem_of_getElem? (i := 1043) (by decide +kernel), List.mem_of_getElem? (i := 1044) (by decide +kernel)⟩
def lw_privs_3 : List (MethodName × Nat) := [(⟨"PurserLedgersModel", "isFined", "(II)Z"⟩, 13), (⟨"PurserLedgersModel", "partOf", "(III)I"⟩, 13), (⟨"PurserLedgersModel", "noLeave", "(I)I"⟩, 13), (⟨"PurserLedgersModel", "inPlace", "(I)I"⟩, 13), (⟨"PurserLedgersModel", "aboardOf", "(I)I"⟩, 13), (⟨"PurserLedgersModel", "doLeave", "(I)I"⟩, 13), (⟨"PurserLedgersModel", "noBack", "(II)I"⟩, 13), (⟨"PurserLedgersModel", "doBack", "(II)I"⟩, 13), (⟨"PurserLedgersModel", "noSail", "()I"⟩, 13), (⟨"PurserLedgersModel", "doSail", "()I"⟩, 13), (⟨"PurserLedgersModel", "noPort", "()I"⟩, 13), (⟨"PurserLedgersModel", "doPort", "()I"⟩, 13), (⟨"PurserLedgersModel", "noDays", "(I)I"⟩, 13), (⟨"PurserLedgersModel", "doDays", "(I)I"⟩, 13), (⟨"PurserLedgersModel", "pay", "(II)V"⟩, 13), (⟨"PurserLedgersModel", "noPayOff", "()I"⟩, 13)]
theorem lw_r3 : ∀ q ∈ lw_privs_3, lw_okq q := List.forall_mem_cons.mpr ⟨lw_p32, List.forall_mem_cons.mpr ⟨lw_p33, List.forall_mem_cons.mpr ⟨lw_p34, List.forall_mem_cons.mpr ⟨lw_p35, List.forall_mem_cons.mpr ⟨lw_p36, List.forall_mem_cons.mpr ⟨lw_p37, List.forall_mem_cons.mpr ⟨lw_p38, List.forall_mem_cons.mpr ⟨lw_p39, List.forall_mem_cons.mpr ⟨lw_p40, List.forall_mem_cons.mpr ⟨lw_p41, List.forall_mem_cons.mpr ⟨lw_p42, List.forall_mem_cons.mpr ⟨lw_p43, List.forall_mem_cons.mpr ⟨lw_p44, List.forall_mem_cons.mpr ⟨lw_p45, List.forall_mem_cons.mpr ⟨lw_p46, List.forall_mem_cons.mpr ⟨lw_p47, fun _ h => absurd h List.not_mem_nil⟩⟩⟩⟩⟩⟩⟩⟩⟩⟩⟩⟩⟩⟩⟩⟩
theorem lw_p48 : lw_okq (⟨"PurserLedgersModel", "doPayOff", "()I"⟩, 13) := ⟨⟨by decide +kernel, by decide +kernel⟩, List.mem_of_getElem? (i := 765) (by decide +kernel), List.mem_of_getElem? (i := 1047) (by decide +kernel), List.mem_of_getElem? (i := 1048) (by decide +kernel)⟩
theorem lw_p49 : lw_okq (⟨"PurserLedgersModel", "putAside", "()V"⟩, 13) := ⟨⟨by decide +kernel, by decide +kernel⟩, List.mem_of_getElem? (i := 765) (by decide +kernel), List.mem_of_getElem? (i := 1119) (by decide +kernel), List.mem_of_getElem? (i := 1120) (by decide +kernel)⟩
theorem lw_p50 : lw_okq (⟨"PurserLedgersModel", "doText", "()Z"⟩, 13) := ⟨⟨by decide +kernel, by decide +kernel⟩, List.mem_of_getElem? (i := 765) (by decide +kernel), List.mem_of_getElem? (i := 1123) (by decide +kernel), List.mem_of_getElem? (i := 1124) (by decide +kernel)⟩
theorem lw_p51 : lw_okq (⟨"PurserLedgersModel", "readOrder", "(I)I"⟩, 13) := ⟨⟨by decide +kernel, by decide +kernel⟩, List.mem_of_getElem? (i := 765) (by decide +kernel), List.mem_of_getElem? (i := 1127) (by decide +kernel), List.mem_of_getElem? (i := 1128) (by decide +kernel)⟩
theorem lw_p52 : lw_okq (⟨"PurserLedgersModel", "at", "(I)I"⟩, 13) := ⟨⟨by decide +kernel, by decide +kernel⟩, List.mem_of_getElem? (i := 765) (by decide +kernel), List.mem_of_getElem? (i := 1131) (by decide +kernel), List.mem_of_getElem? (i := 1132) (by decide +kernel)⟩
theorem lw_p53 : lw_okq (⟨"PurserLedgersModel", "noOrder", "()I"⟩, 13) := ⟨⟨by decide +kernel, by decide +kernel⟩, List.mem_of_getElem? (i := 765) (by decide +kernel), List.mem_of_getElem? (i := 1138) (by decide +kernel), List.mem_of_getElem? (i := 1139) (by decide +kernel)⟩
theorem lw_p54 : lw_okq (⟨"PurserLedgersModel", "doOrder", "()I"⟩, 13) := ⟨⟨by decide +kernel, by decide +kernel⟩, List.mem_of_getElem? (i := 765) (by decide +kernel), List.mem_of_getElem? (i := 1142) (by decide +kernel), List.mem_of_getElem? (i := 1143) (by decide +kernel)⟩
theorem lw_p55 : lw_okq (⟨"PurserLedgersModel", "putBack", "()V"⟩, 13) := ⟨⟨by decide +kernel, by decide +kernel⟩, List.mem_of_getElem? (i := 765) (by decide +kernel), List.mem_of_getElem? (i := 1146) (by decide +kernel), List.mem_of_getElem? (i := 1147) (by decide +kernel)⟩
def lw_privs_4 : List (MethodName × Nat) := [(⟨"PurserLedgersModel", "doPayOff", "()I"⟩, 13), (⟨"PurserLedgersModel", "putAside", "()V"⟩, 13), (⟨"PurserLedgersModel", "doText", "()Z"⟩, 13), (⟨"PurserLedgersModel", "readOrder", "(I)I"⟩, 13), (⟨"PurserLedgersModel", "at", "(I)I"⟩, 13), (⟨"PurserLedgersModel", "noOrder", "()I"⟩, 13), (⟨"PurserLedgersModel", "doOrder", "()I"⟩, 13), (⟨"PurserLedgersModel", "putBack", "()V"⟩, 13)]
theorem lw_r4 : ∀ q ∈ lw_privs_4, lw_okq q := List.forall_mem_cons.mpr ⟨lw_p48, List.forall_mem_cons.mpr ⟨lw_p49, List.forall_mem_cons.mpr ⟨lw_p50, List.forall_mem_cons.mpr ⟨lw_p51, List.forall_mem_cons.mpr ⟨lw_p52, List.forall_mem_cons.mpr ⟨lw_p53, List.forall_mem_cons.mpr ⟨lw_p54, List.forall_mem_cons.mpr ⟨lw_p55, fun _ h => absurd h List.not_mem_nil⟩⟩⟩⟩⟩⟩⟩⟩
def lw_privs : List (MethodName × Nat) := lw_privs_1 ++ (lw_privs_2 ++ (lw_privs_3 ++ (lw_privs_4)))
def lw_tbl : List Cond := k2_sels lw_privs ++ tables_1
theorem lw_privs_ok : ∀ q ∈ lw_privs, lw_okq q := by
  show ∀ q ∈ lw_privs_1 ++ (lw_privs_2 ++ (lw_privs_3 ++ (lw_privs_4))), lw_okq q
  exact List.forall_mem_append.mpr ⟨lw_r1, List.forall_mem_append.mpr ⟨lw_r2, List.forall_mem_append.mpr ⟨lw_r3, lw_r4⟩⟩⟩
/-- the streams that the claim lets the run draw from -/
abbrev lw_cs : List Choice := [Jvm.Choice.named "NaN.bits"]
theorem lw_bits : nanBits ∈ lw_cs := by first | decide | exact List.mem_cons_self | simp [lw_cs, nanBits]
-- ===== end of PART A; then your names; then what follows =====
def RX0 : String := "PurserLedgers$Books"
def TX0 : u_T := fun k => match k with
  | 0 => ("PurserLedgers$Books", "crew", "[LPurserLedgers$Sailor;", true)
  | 1 => ("PurserLedgers$Books", "chest", "[LPurserLedgers$Item;", true)
  | 2 => ("PurserLedgers$Books", "settings", "[I", true)
  | 3 => ("PurserLedgers$Books", "entries", "LPurserLedgers$Entries;", true)
  | 4 => ("PurserLedgers$Books", "totals", "LPurserLedgers$Totals;", true)
  | 5 => ("PurserLedgers$Books", "signed", "I", false)
  | 6 => ("PurserLedgers$Books", "voyage", "I", false)
  | 7 => ("PurserLedgers$Books", "voyageDays", "I", false)
  | 8 => ("PurserLedgers$Books", "ports", "I", false)
  | _ => ("PurserLedgers$Books", "atSea", "Z", false)
def tyX0 : Nat → FieldType := fun k => match k with
  | 0 => .array (.object "PurserLedgers$Sailor")
  | 1 => .array (.object "PurserLedgers$Item")
  | 2 => .array .int
  | 3 => .object "PurserLedgers$Entries"
  | 4 => .object "PurserLedgers$Totals"
  | 5 => .int
  | 6 => .int
  | 7 => .int
  | 8 => .int
  | _ => .boolean
abbrev wsX00 : List Cond := u_ws RX0 TX0 10
theorem nmX0 : ∀ a, a < 10 → ∀ b, b < 10 → a ≠ b → (TX0 a).2.1 ≠ (TX0 b).2.1 := by decide +kernel
theorem tyX0_ok : ∀ k, k < 10 → parseFieldDescriptor (TX0 k).2.2.1 = some (tyX0 k) := by decide +kernel
abbrev cX0_init : ByteArray := prog_2_method_1_code
def yX0_init : MethodName := ⟨RX0, "<init>", "()V"⟩
abbrev cX0_copyFrom : ByteArray := prog_2_method_2_code
def yX0_copyFrom : MethodName := ⟨RX0, "copyFrom", "(LPurserLedgers$Books;)V"⟩
abbrev cX0_findSailor : ByteArray := prog_2_method_3_code
def yX0_findSailor : MethodName := ⟨RX0, "findSailor", "(I)LPurserLedgers$Sailor;"⟩
abbrev cX0_findItem : ByteArray := prog_2_method_4_code
def yX0_findItem : MethodName := ⟨RX0, "findItem", "(I)LPurserLedgers$Item;"⟩
abbrev cX0_setting : ByteArray := prog_2_method_5_code
def yX0_setting : MethodName := ⟨RX0, "setting", "(I)I"⟩
abbrev cX0_signOn : ByteArray := prog_2_method_6_code
def yX0_signOn : MethodName := ⟨RX0, "signOn", "(II)I"⟩
abbrev cX0_buyForChest : ByteArray := prog_2_method_7_code
def yX0_buyForChest : MethodName := ⟨RX0, "buyForChest", "(III)I"⟩
abbrev cX0_sellFromChest : ByteArray := prog_2_method_8_code
def yX0_sellFromChest : MethodName := ⟨RX0, "sellFromChest", "(III)I"⟩
abbrev cX0_reasonNotToSell : ByteArray := prog_2_method_9_code
def yX0_reasonNotToSell : MethodName := ⟨RX0, "reasonNotToSell", "(III)I"⟩
abbrev cX0_reasonAgainst : ByteArray := prog_2_method_10_code
def yX0_reasonAgainst : MethodName := ⟨RX0, "reasonAgainst", "(LPurserLedgers$Sailor;LPurserLedgers$Item;I)I"⟩
abbrev cX0_couldBuy : ByteArray := prog_2_method_11_code
def yX0_couldBuy : MethodName := ⟨RX0, "couldBuy", "(II)I"⟩
abbrev cX0_advanceTo : ByteArray := prog_2_method_12_code
def yX0_advanceTo : MethodName := ⟨RX0, "advanceTo", "(II)I"⟩
abbrev cX0_fineOne : ByteArray := prog_2_method_13_code
def yX0_fineOne : MethodName := ⟨RX0, "fineOne", "(II)I"⟩
abbrev cX0_chargeFine : ByteArray := prog_2_method_14_code
def yX0_chargeFine : MethodName := ⟨RX0, "chargeFine", "(ILPurserLedgers$Sailor;I)V"⟩
abbrev cX0_fineAll : ByteArray := prog_2_method_15_code
def yX0_fineAll : MethodName := ⟨RX0, "fineAll", "(II)I"⟩
abbrev cX0_couldAllBeFined : ByteArray := prog_2_method_16_code
def yX0_couldAllBeFined : MethodName := ⟨RX0, "couldAllBeFined", "(III)Z"⟩
abbrev cX0_sizeOfWatch : ByteArray := prog_2_method_17_code
def yX0_sizeOfWatch : MethodName := ⟨RX0, "sizeOfWatch", "(I)I"⟩
abbrev cX0_letAshore : ByteArray := prog_2_method_18_code
def yX0_letAshore : MethodName := ⟨RX0, "letAshore", "(I)I"⟩
abbrev cX0_comeBack : ByteArray := prog_2_method_19_code
def yX0_comeBack : MethodName := ⟨RX0, "comeBack", "(II)I"⟩
abbrev cX0_putToSea : ByteArray := prog_2_method_20_code
def yX0_putToSea : MethodName := ⟨RX0, "putToSea", "()I"⟩
abbrev cX0_comeIntoPort : ByteArray := prog_2_method_21_code
def yX0_comeIntoPort : MethodName := ⟨RX0, "comeIntoPort", "()I"⟩
abbrev cX0_passDays : ByteArray := prog_2_method_22_code
def yX0_passDays : MethodName := ⟨RX0, "passDays", "(I)I"⟩
abbrev cX0_sendAway : ByteArray := prog_2_method_23_code
def yX0_sendAway : MethodName := ⟨RX0, "sendAway", "(I)I"⟩
abbrev cX0_payTo : ByteArray := prog_2_method_24_code
def yX0_payTo : MethodName := ⟨RX0, "payTo", "(ILPurserLedgers$Sailor;I)V"⟩
abbrev cX0_endVoyage : ByteArray := prog_2_method_25_code
def yX0_endVoyage : MethodName := ⟨RX0, "endVoyage", "()I"⟩
abbrev cX0_changeSetting : ByteArray := prog_2_method_26_code
def yX0_changeSetting : MethodName := ⟨RX0, "changeSetting", "(II)I"⟩
abbrev cX0_daysUntilClear : ByteArray := prog_2_method_27_code
def yX0_daysUntilClear : MethodName := ⟨RX0, "daysUntilClear", "(I)I"⟩
abbrev cX0_tellPayingOff : ByteArray := prog_2_method_28_code
def yX0_tellPayingOff : MethodName := ⟨RX0, "tellPayingOff", "(I)I"⟩
abbrev cX0_wouldBePaid : ByteArray := prog_2_method_29_code
def yX0_wouldBePaid : MethodName := ⟨RX0, "wouldBePaid", "()I"⟩
abbrev cX0_debtsTogether : ByteArray := prog_2_method_30_code
def yX0_debtsTogether : MethodName := ⟨RX0, "debtsTogether", "()I"⟩
abbrev cX0_setOfDebtors : ByteArray := prog_2_method_31_code
def yX0_setOfDebtors : MethodName := ⟨RX0, "setOfDebtors", "()I"⟩
abbrev cX0_setOf : ByteArray := prog_2_method_32_code
def yX0_setOf : MethodName := ⟨RX0, "setOf", "(I)I"⟩
abbrev cX0_sailorByBalance : ByteArray := prog_2_method_33_code
def yX0_sailorByBalance : MethodName := ⟨RX0, "sailorByBalance", "(I)I"⟩
abbrev cX0_poorerThan : ByteArray := prog_2_method_34_code
def yX0_poorerThan : MethodName := ⟨RX0, "poorerThan", "(II)I"⟩
abbrev cX0_chargedShare : ByteArray := prog_2_method_35_code
def yX0_chargedShare : MethodName := ⟨RX0, "chargedShare", "()I"⟩
abbrev cX0_tell : ByteArray := prog_2_method_36_code
def yX0_tell : MethodName := ⟨RX0, "tell", "(I)I"⟩
abbrev cX0_tellCoins : ByteArray := prog_2_method_37_code
def yX0_tellCoins : MethodName := ⟨RX0, "tellCoins", "(I)I"⟩
def RX1 : String := "PurserLedgers$Entries"
def TX1 : u_T := fun k => match k with
  | 0 => ("PurserLedgers$Entries", "sailors", "[I", true)
  | 1 => ("PurserLedgers$Entries", "kinds", "[I", true)
  | 2 => ("PurserLedgers$Entries", "coins", "[I", true)
  | _ => ("PurserLedgers$Entries", "kept", "I", false)
def tyX1 : Nat → FieldType := fun k => match k with
  | 0 => .array .int
  | 1 => .array .int
  | 2 => .array .int
  | _ => .int
abbrev wsX10 : List Cond := u_ws RX1 TX1 4
theorem nmX1 : ∀ a, a < 4 → ∀ b, b < 4 → a ≠ b → (TX1 a).2.1 ≠ (TX1 b).2.1 := by decide +kernel
theorem tyX1_ok : ∀ k, k < 4 → parseFieldDescriptor (TX1 k).2.2.1 = some (tyX1 k) := by decide +kernel
abbrev cX1_init : ByteArray := prog_3_method_1_code
def yX1_init : MethodName := ⟨RX1, "<init>", "()V"⟩
abbrev cX1_copyFrom : ByteArray := prog_3_method_2_code
def yX1_copyFrom : MethodName := ⟨RX1, "copyFrom", "(LPurserLedgers$Entries;)V"⟩
abbrev cX1_enter : ByteArray := prog_3_method_3_code
def yX1_enter : MethodName := ⟨RX1, "enter", "(III)V"⟩
abbrev cX1_putAhead : ByteArray := prog_3_method_4_code
def yX1_putAhead : MethodName := ⟨RX1, "putAhead", "([II)V"⟩
abbrev cX1_tell : ByteArray := prog_3_method_5_code
def yX1_tell : MethodName := ⟨RX1, "tell", "(II)I"⟩
abbrev cX1_numberAt : ByteArray := prog_3_method_6_code
def yX1_numberAt : MethodName := ⟨RX1, "numberAt", "([II)I"⟩
def RX2 : String := "PurserLedgers$History"
def TX2 : u_T := fun k => match k with
  | 0 => ("PurserLedgers$History", "states", "[LPurserLedgers$Books;", true)
  | _ => ("PurserLedgers$History", "kept", "I", false)
def tyX2 : Nat → FieldType := fun k => match k with
  | 0 => .array (.object "PurserLedgers$Books")
  | _ => .int
abbrev wsX20 : List Cond := u_ws RX2 TX2 2
theorem nmX2 : ∀ a, a < 2 → ∀ b, b < 2 → a ≠ b → (TX2 a).2.1 ≠ (TX2 b).2.1 := by decide +kernel
theorem tyX2_ok : ∀ k, k < 2 → parseFieldDescriptor (TX2 k).2.2.1 = some (tyX2 k) := by decide +kernel
abbrev cX2_init : ByteArray := prog_4_method_1_code
def yX2_init : MethodName := ⟨RX2, "<init>", "()V"⟩
abbrev cX2_record : ByteArray := prog_4_method_2_code
def yX2_record : MethodName := ⟨RX2, "record", "(LPurserLedgers$Books;)V"⟩
abbrev cX2_restoreInto : ByteArray := prog_4_method_3_code
def yX2_restoreInto : MethodName := ⟨RX2, "restoreInto", "(LPurserLedgers$Books;)I"⟩
def RX3 : String := "PurserLedgers$Item"
def TX3 : u_T := fun k => match k with
  | 0 => ("PurserLedgers$Item", "inStock", "I", false)
  | 1 => ("PurserLedgers$Item", "price", "I", false)
  | 2 => ("PurserLedgers$Item", "bought", "I", false)
  | 3 => ("PurserLedgers$Item", "sold", "I", false)
  | _ => ("PurserLedgers$Item", "charged", "I", false)
def tyX3 : Nat → FieldType := fun k => match k with
  | 0 => .int
  | 1 => .int
  | 2 => .int
  | 3 => .int
  | _ => .int
abbrev wsX30 : List Cond := u_ws RX3 TX3 5
theorem nmX3 : ∀ a, a < 5 → ∀ b, b < 5 → a ≠ b → (TX3 a).2.1 ≠ (TX3 b).2.1 := by decide +kernel
theorem tyX3_ok : ∀ k, k < 5 → parseFieldDescriptor (TX3 k).2.2.1 = some (tyX3 k) := by decide +kernel
abbrev cX3_init : ByteArray := prog_5_method_1_code
def yX3_init : MethodName := ⟨RX3, "<init>", "()V"⟩
abbrev cX3_copyFrom : ByteArray := prog_5_method_2_code
def yX3_copyFrom : MethodName := ⟨RX3, "copyFrom", "(LPurserLedgers$Item;)V"⟩
abbrev cX3_takeIn : ByteArray := prog_5_method_3_code
def yX3_takeIn : MethodName := ⟨RX3, "takeIn", "(II)V"⟩
abbrev cX3_giveOut : ByteArray := prog_5_method_4_code
def yX3_giveOut : MethodName := ⟨RX3, "giveOut", "(II)V"⟩
abbrev cX3_tell : ByteArray := prog_5_method_5_code
def yX3_tell : MethodName := ⟨RX3, "tell", "(I)I"⟩
def RX4 : String := "PurserLedgers$Order"
def TX4 : u_T := fun k => match k with
  | 0 => ("PurserLedgers$Order", "numbers", "[I", true)
  | 1 => ("PurserLedgers$Order", "letter", "I", false)
  | _ => ("PurserLedgers$Order", "place", "I", false)
def tyX4 : Nat → FieldType := fun k => match k with
  | 0 => .array .int
  | 1 => .int
  | _ => .int
abbrev wsX40 : List Cond := u_ws RX4 TX4 3
theorem nmX4 : ∀ a, a < 3 → ∀ b, b < 3 → a ≠ b → (TX4 a).2.1 ≠ (TX4 b).2.1 := by decide +kernel
theorem tyX4_ok : ∀ k, k < 3 → parseFieldDescriptor (TX4 k).2.2.1 = some (tyX4 k) := by decide +kernel
abbrev cX4_init : ByteArray := prog_6_method_1_code
def yX4_init : MethodName := ⟨RX4, "<init>", "()V"⟩
abbrev cX4_readFrom : ByteArray := prog_6_method_2_code
def yX4_readFrom : MethodName := ⟨RX4, "readFrom", "(LPurserLedgers$Text;I)Z"⟩
abbrev cX4_numbersOf : ByteArray := prog_6_method_3_code
def yX4_numbersOf : MethodName := ⟨RX4, "numbersOf", "(I)I"⟩
abbrev cX4_readSign : ByteArray := prog_6_method_4_code
def yX4_readSign : MethodName := ⟨RX4, "readSign", "(LPurserLedgers$Text;I)Z"⟩
abbrev cX4_readNumber : ByteArray := prog_6_method_5_code
def yX4_readNumber : MethodName := ⟨RX4, "readNumber", "(LPurserLedgers$Text;)I"⟩
abbrev cX4_number : ByteArray := prog_6_method_6_code
def yX4_number : MethodName := ⟨RX4, "number", "(I)I"⟩
abbrev cX4_carryOut : ByteArray := prog_6_method_7_code
def yX4_carryOut : MethodName := ⟨RX4, "carryOut", "(LPurserLedgers$Books;)I"⟩
def RX5 : String := "PurserLedgers$Rehearsal"
def TX5 : u_T := fun k => match k with
  | 0 => ("PurserLedgers$Rehearsal", "order", "LPurserLedgers$Order;", true)
  | 1 => ("PurserLedgers$Rehearsal", "done", "I", false)
  | 2 => ("PurserLedgers$Rehearsal", "position", "I", false)
  | 3 => ("PurserLedgers$Rehearsal", "reason", "I", false)
  | _ => ("PurserLedgers$Rehearsal", "cause", "I", false)
def tyX5 : Nat → FieldType := fun k => match k with
  | 0 => .object "PurserLedgers$Order"
  | 1 => .int
  | 2 => .int
  | 3 => .int
  | _ => .int
abbrev wsX50 : List Cond := u_ws RX5 TX5 5
theorem nmX5 : ∀ a, a < 5 → ∀ b, b < 5 → a ≠ b → (TX5 a).2.1 ≠ (TX5 b).2.1 := by decide +kernel
theorem tyX5_ok : ∀ k, k < 5 → parseFieldDescriptor (TX5 k).2.2.1 = some (tyX5 k) := by decide +kernel
abbrev cX5_init : ByteArray := prog_7_method_1_code
def yX5_init : MethodName := ⟨RX5, "<init>", "()V"⟩
abbrev cX5_runThrough : ByteArray := prog_7_method_2_code
def yX5_runThrough : MethodName := ⟨RX5, "runThrough", "(LPurserLedgers$Text;LPurserLedgers$Books;)V"⟩
abbrev cX5_isFaulty : ByteArray := prog_7_method_3_code
def yX5_isFaulty : MethodName := ⟨RX5, "isFaulty", "()Z"⟩
abbrev cX5_tellFault : ByteArray := prog_7_method_4_code
def yX5_tellFault : MethodName := ⟨RX5, "tellFault", "(I)I"⟩
def RX6 : String := "PurserLedgers$Sailor"
def TX6 : u_T := fun k => match k with
  | 0 => ("PurserLedgers$Sailor", "rank", "I", false)
  | 1 => ("PurserLedgers$Sailor", "watch", "I", false)
  | 2 => ("PurserLedgers$Sailor", "whereabouts", "I", false)
  | 3 => ("PurserLedgers$Sailor", "seaDays", "I", false)
  | 4 => ("PurserLedgers$Sailor", "portDays", "I", false)
  | 5 => ("PurserLedgers$Sailor", "bought", "I", false)
  | 6 => ("PurserLedgers$Sailor", "fines", "I", false)
  | 7 => ("PurserLedgers$Sailor", "advances", "I", false)
  | 8 => ("PurserLedgers$Sailor", "debt", "I", false)
  | _ => ("PurserLedgers$Sailor", "paid", "I", false)
def tyX6 : Nat → FieldType := fun k => match k with
  | 0 => .int
  | 1 => .int
  | 2 => .int
  | 3 => .int
  | 4 => .int
  | 5 => .int
  | 6 => .int
  | 7 => .int
  | 8 => .int
  | _ => .int
abbrev wsX60 : List Cond := u_ws RX6 TX6 10
theorem nmX6 : ∀ a, a < 10 → ∀ b, b < 10 → a ≠ b → (TX6 a).2.1 ≠ (TX6 b).2.1 := by decide +kernel
theorem tyX6_ok : ∀ k, k < 10 → parseFieldDescriptor (TX6 k).2.2.1 = some (tyX6 k) := by decide +kernel
abbrev cX6_init : ByteArray := prog_8_method_1_code
def yX6_init : MethodName := ⟨RX6, "<init>", "()V"⟩
abbrev cX6_copyFrom : ByteArray := prog_8_method_2_code
def yX6_copyFrom : MethodName := ⟨RX6, "copyFrom", "(LPurserLedgers$Sailor;)V"⟩
abbrev cX6_comeAboard : ByteArray := prog_8_method_3_code
def yX6_comeAboard : MethodName := ⟨RX6, "comeAboard", "(II)V"⟩
abbrev cX6_beginVoyage : ByteArray := prog_8_method_4_code
def yX6_beginVoyage : MethodName := ⟨RX6, "beginVoyage", "(I)V"⟩
abbrev cX6_goAway : ByteArray := prog_8_method_5_code
def yX6_goAway : MethodName := ⟨RX6, "goAway", "()V"⟩
abbrev cX6_isGone : ByteArray := prog_8_method_6_code
def yX6_isGone : MethodName := ⟨RX6, "isGone", "()Z"⟩
abbrev cX6_isOfWatch : ByteArray := prog_8_method_7_code
def yX6_isOfWatch : MethodName := ⟨RX6, "isOfWatch", "(I)Z"⟩
abbrev cX6_passDays : ByteArray := prog_8_method_8_code
def yX6_passDays : MethodName := ⟨RX6, "passDays", "(IZ)V"⟩
abbrev cX6_earned : ByteArray := prog_8_method_9_code
def yX6_earned : MethodName := ⟨RX6, "earned", "()I"⟩
abbrev cX6_earnedAfter : ByteArray := prog_8_method_10_code
def yX6_earnedAfter : MethodName := ⟨RX6, "earnedAfter", "(IZ)I"⟩
abbrev cX6_wages : ByteArray := prog_8_method_11_code
def yX6_wages : MethodName := ⟨RX6, "wages", "(II)I"⟩
abbrev cX6_charged : ByteArray := prog_8_method_12_code
def yX6_charged : MethodName := ⟨RX6, "charged", "()I"⟩
abbrev cX6_balance : ByteArray := prog_8_method_13_code
def yX6_balance : MethodName := ⟨RX6, "balance", "()I"⟩
abbrev cX6_couldBeFined : ByteArray := prog_8_method_14_code
def yX6_couldBeFined : MethodName := ⟨RX6, "couldBeFined", "(I)Z"⟩
abbrev cX6_tell : ByteArray := prog_8_method_15_code
def yX6_tell : MethodName := ⟨RX6, "tell", "(I)I"⟩
def RX7 : String := "PurserLedgers$Text"
def TX7 : u_T := fun k => match k with
  | 0 => ("PurserLedgers$Text", "characters", "[I", true)
  | _ => ("PurserLedgers$Text", "length", "I", false)
def tyX7 : Nat → FieldType := fun k => match k with
  | 0 => .array .int
  | _ => .int
abbrev wsX70 : List Cond := u_ws RX7 TX7 2
theorem nmX7 : ∀ a, a < 2 → ∀ b, b < 2 → a ≠ b → (TX7 a).2.1 ≠ (TX7 b).2.1 := by decide +kernel
theorem tyX7_ok : ∀ k, k < 2 → parseFieldDescriptor (TX7 k).2.2.1 = some (tyX7 k) := by decide +kernel
abbrev cX7_init : ByteArray := prog_9_method_1_code
def yX7_init : MethodName := ⟨RX7, "<init>", "()V"⟩
abbrev cX7_append : ByteArray := prog_9_method_2_code
def yX7_append : MethodName := ⟨RX7, "append", "(I)I"⟩
abbrev cX7_empty : ByteArray := prog_9_method_3_code
def yX7_empty : MethodName := ⟨RX7, "empty", "()I"⟩
abbrev cX7_at : ByteArray := prog_9_method_4_code
def yX7_at : MethodName := ⟨RX7, "at", "(I)I"⟩
def RX8 : String := "PurserLedgers$Totals"
def TX8 : u_T := fun k => match k with
  | 0 => ("PurserLedgers$Totals", "cash", "I", false)
  | 1 => ("PurserLedgers$Totals", "drawn", "I", false)
  | 2 => ("PurserLedgers$Totals", "spent", "I", false)
  | 3 => ("PurserLedgers$Totals", "advanced", "I", false)
  | 4 => ("PurserLedgers$Totals", "paid", "I", false)
  | 5 => ("PurserLedgers$Totals", "charged", "I", false)
  | 6 => ("PurserLedgers$Totals", "fines", "I", false)
  | _ => ("PurserLedgers$Totals", "forfeit", "I", false)
def tyX8 : Nat → FieldType := fun k => match k with
  | 0 => .int
  | 1 => .int
  | 2 => .int
  | 3 => .int
  | 4 => .int
  | 5 => .int
  | 6 => .int
  | _ => .int
abbrev wsX80 : List Cond := u_ws RX8 TX8 8
theorem nmX8 : ∀ a, a < 8 → ∀ b, b < 8 → a ≠ b → (TX8 a).2.1 ≠ (TX8 b).2.1 := by decide +kernel
theorem tyX8_ok : ∀ k, k < 8 → parseFieldDescriptor (TX8 k).2.2.1 = some (tyX8 k) := by decide +kernel
abbrev cX8_init : ByteArray := prog_10_method_1_code
def yX8_init : MethodName := ⟨RX8, "<init>", "()V"⟩
abbrev cX8_copyFrom : ByteArray := prog_10_method_2_code
def yX8_copyFrom : MethodName := ⟨RX8, "copyFrom", "(LPurserLedgers$Totals;)V"⟩
abbrev cX8_missingFor : ByteArray := prog_10_method_3_code
def yX8_missingFor : MethodName := ⟨RX8, "missingFor", "(I)I"⟩
abbrev cX8_takeCash : ByteArray := prog_10_method_4_code
def yX8_takeCash : MethodName := ⟨RX8, "takeCash", "(I)V"⟩
def RX9 : String := "PurserLedgers"
def TX9 : u_T := fun k => match k with
  | 0 => ("PurserLedgers", "now", "LPurserLedgers$Books;", true)
  | 1 => ("PurserLedgers", "trial", "LPurserLedgers$Books;", true)
  | 2 => ("PurserLedgers", "history", "LPurserLedgers$History;", true)
  | 3 => ("PurserLedgers", "text", "LPurserLedgers$Text;", true)
  | _ => ("PurserLedgers", "rehearsal", "LPurserLedgers$Rehearsal;", true)
def tyX9 : Nat → FieldType := fun k => match k with
  | 0 => .object "PurserLedgers$Books"
  | 1 => .object "PurserLedgers$Books"
  | 2 => .object "PurserLedgers$History"
  | 3 => .object "PurserLedgers$Text"
  | _ => .object "PurserLedgers$Rehearsal"
abbrev wsX90 : List Cond := u_ws RX9 TX9 5
theorem nmX9 : ∀ a, a < 5 → ∀ b, b < 5 → a ≠ b → (TX9 a).2.1 ≠ (TX9 b).2.1 := by decide +kernel
theorem tyX9_ok : ∀ k, k < 5 → parseFieldDescriptor (TX9 k).2.2.1 = some (tyX9 k) := by decide +kernel
abbrev cX9_init : ByteArray := prog_1_method_1_code
def yX9_init : MethodName := ⟨RX9, "<init>", "()V"⟩
abbrev cX9_sign : ByteArray := prog_1_method_2_code
def yX9_sign : MethodName := ⟨RX9, "sign", "(II)I"⟩
abbrev cX9_stock : ByteArray := prog_1_method_3_code
def yX9_stock : MethodName := ⟨RX9, "stock", "(III)I"⟩
abbrev cX9_sell : ByteArray := prog_1_method_4_code
def yX9_sell : MethodName := ⟨RX9, "sell", "(III)I"⟩
abbrev cX9_advance : ByteArray := prog_1_method_5_code
def yX9_advance : MethodName := ⟨RX9, "advance", "(II)I"⟩
abbrev cX9_fine : ByteArray := prog_1_method_6_code
def yX9_fine : MethodName := ⟨RX9, "fine", "(II)I"⟩
abbrev cX9_fineWatch : ByteArray := prog_1_method_7_code
def yX9_fineWatch : MethodName := ⟨RX9, "fineWatch", "(II)I"⟩
abbrev cX9_leave : ByteArray := prog_1_method_8_code
def yX9_leave : MethodName := ⟨RX9, "leave", "(I)I"⟩
abbrev cX9_back : ByteArray := prog_1_method_9_code
def yX9_back : MethodName := ⟨RX9, "back", "(II)I"⟩
abbrev cX9_sail : ByteArray := prog_1_method_10_code
def yX9_sail : MethodName := ⟨RX9, "sail", "()I"⟩
abbrev cX9_port : ByteArray := prog_1_method_11_code
def yX9_port : MethodName := ⟨RX9, "port", "()I"⟩
abbrev cX9_days : ByteArray := prog_1_method_12_code
def yX9_days : MethodName := ⟨RX9, "days", "(I)I"⟩
abbrev cX9_dismiss : ByteArray := prog_1_method_13_code
def yX9_dismiss : MethodName := ⟨RX9, "dismiss", "(I)I"⟩
abbrev cX9_payOff : ByteArray := prog_1_method_14_code
def yX9_payOff : MethodName := ⟨RX9, "payOff", "()I"⟩
abbrev cX9_set : ByteArray := prog_1_method_15_code
def yX9_set : MethodName := ⟨RX9, "set", "(II)I"⟩
abbrev cX9_sailor : ByteArray := prog_1_method_16_code
def yX9_sailor : MethodName := ⟨RX9, "sailor", "(II)I"⟩
abbrev cX9_item : ByteArray := prog_1_method_17_code
def yX9_item : MethodName := ⟨RX9, "item", "(II)I"⟩
abbrev cX9_book : ByteArray := prog_1_method_18_code
def yX9_book : MethodName := ⟨RX9, "book", "(II)I"⟩
abbrev cX9_why : ByteArray := prog_1_method_19_code
def yX9_why : MethodName := ⟨RX9, "why", "(III)I"⟩
abbrev cX9_most : ByteArray := prog_1_method_20_code
def yX9_most : MethodName := ⟨RX9, "most", "(II)I"⟩
abbrev cX9_clearIn : ByteArray := prog_1_method_21_code
def yX9_clearIn : MethodName := ⟨RX9, "clearIn", "(I)I"⟩
abbrev cX9_ifPaidOff : ByteArray := prog_1_method_22_code
def yX9_ifPaidOff : MethodName := ⟨RX9, "ifPaidOff", "(I)I"⟩
abbrev cX9_poorest : ByteArray := prog_1_method_23_code
def yX9_poorest : MethodName := ⟨RX9, "poorest", "(I)I"⟩
abbrev cX9_share : ByteArray := prog_1_method_24_code
def yX9_share : MethodName := ⟨RX9, "share", "()I"⟩
abbrev cX9_count : ByteArray := prog_1_method_25_code
def yX9_count : MethodName := ⟨RX9, "count", "(I)I"⟩
abbrev cX9_undo : ByteArray := prog_1_method_26_code
def yX9_undo : MethodName := ⟨RX9, "undo", "()I"⟩
abbrev cX9_type : ByteArray := prog_1_method_27_code
def yX9_type : MethodName := ⟨RX9, "type", "(I)I"⟩
abbrev cX9_clearText : ByteArray := prog_1_method_28_code
def yX9_clearText : MethodName := ⟨RX9, "clearText", "()I"⟩
abbrev cX9_fault : ByteArray := prog_1_method_29_code
def yX9_fault : MethodName := ⟨RX9, "fault", "(I)I"⟩
abbrev cX9_play : ByteArray := prog_1_method_30_code
def yX9_play : MethodName := ⟨RX9, "play", "()I"⟩
abbrev cX9_newTrial : ByteArray := prog_1_method_31_code
def yX9_newTrial : MethodName := ⟨RX9, "newTrial", "()LPurserLedgers$Books;"⟩
abbrev cX9_settleTrial : ByteArray := prog_1_method_32_code
def yX9_settleTrial : MethodName := ⟨RX9, "settleTrial", "(I)I"⟩
abbrev cX9_within : ByteArray := prog_1_method_33_code
def yX9_within : MethodName := ⟨RX9, "within", "(III)Z"⟩
abbrev cX9_copyNumbers : ByteArray := prog_1_method_34_code
def yX9_copyNumbers : MethodName := ⟨RX9, "copyNumbers", "([I[I)V"⟩
abbrev cX9_bitsOf : ByteArray := prog_1_method_35_code
def yX9_bitsOf : MethodName := ⟨RX9, "bitsOf", "(F)I"⟩
def RX10 : String := "PurserLedgersModel"
def TX10 : u_T := fun k => match k with
  | 0 => ("PurserLedgersModel", "z", "[I", true)
  | 1 => ("PurserLedgersModel", "aside", "[I", true)
  | 2 => ("PurserLedgersModel", "before", "[I", true)
  | 3 => ("PurserLedgersModel", "states", "I", false)
  | 4 => ("PurserLedgersModel", "text", "[I", true)
  | 5 => ("PurserLedgersModel", "length", "I", false)
  | 6 => ("PurserLedgersModel", "letter", "I", false)
  | 7 => ("PurserLedgersModel", "number", "[I", true)
  | 8 => ("PurserLedgersModel", "broken", "I", false)
  | 9 => ("PurserLedgersModel", "position", "I", false)
  | 10 => ("PurserLedgersModel", "reason", "I", false)
  | 11 => ("PurserLedgersModel", "cause", "I", false)
  | _ => ("PurserLedgersModel", "orders", "I", false)
def tyX10 : Nat → FieldType := fun k => match k with
  | 0 => .array .int
  | 1 => .array .int
  | 2 => .array .int
  | 3 => .int
  | 4 => .array .int
  | 5 => .int
  | 6 => .int
  | 7 => .array .int
  | 8 => .int
  | 9 => .int
  | 10 => .int
  | 11 => .int
  | _ => .int
abbrev wsX100 : List Cond := u_ws RX10 TX10 13
theorem nmX10 : ∀ a, a < 13 → ∀ b, b < 13 → a ≠ b → (TX10 a).2.1 ≠ (TX10 b).2.1 := by decide +kernel
theorem tyX10_ok : ∀ k, k < 13 → parseFieldDescriptor (TX10 k).2.2.1 = some (tyX10 k) := by decide +kernel
abbrev cX10_init : ByteArray := prog_12_method_1_code
def yX10_init : MethodName := ⟨RX10, "<init>", "()V"⟩
abbrev cX10_in : ByteArray := prog_12_method_3_code
def yX10_in : MethodName := ⟨RX10, "in", "(III)Z"⟩
abbrev cX10_of : ByteArray := prog_12_method_4_code
def yX10_of : MethodName := ⟨RX10, "of", "(II)I"⟩
abbrev cX10_put : ByteArray := prog_12_method_5_code
def yX10_put : MethodName := ⟨RX10, "put", "(III)V"⟩
abbrev cX10_ofItem : ByteArray := prog_12_method_6_code
def yX10_ofItem : MethodName := ⟨RX10, "ofItem", "(II)I"⟩
abbrev cX10_isSailor : ByteArray := prog_12_method_7_code
def yX10_isSailor : MethodName := ⟨RX10, "isSailor", "(I)Z"⟩
abbrev cX10_isItem : ByteArray := prog_12_method_8_code
def yX10_isItem : MethodName := ⟨RX10, "isItem", "(I)Z"⟩
abbrev cX10_isGone : ByteArray := prog_12_method_9_code
def yX10_isGone : MethodName := ⟨RX10, "isGone", "(I)Z"⟩
abbrev cX10_isAtSea : ByteArray := prog_12_method_10_code
def yX10_isAtSea : MethodName := ⟨RX10, "isAtSea", "()Z"⟩
abbrev cX10_record : ByteArray := prog_12_method_11_code
def yX10_record : MethodName := ⟨RX10, "record", "([I)V"⟩
abbrev cX10_putAside : ByteArray := prog_12_method_12_code
def yX10_putAside : MethodName := ⟨RX10, "putAside", "()V"⟩
abbrev cX10_putBack : ByteArray := prog_12_method_13_code
def yX10_putBack : MethodName := ⟨RX10, "putBack", "()V"⟩
abbrev cX10_undo : ByteArray := prog_12_method_14_code
def yX10_undo : MethodName := ⟨RX10, "undo", "()I"⟩
abbrev cX10_wages : ByteArray := prog_12_method_15_code
def yX10_wages : MethodName := ⟨RX10, "wages", "(III)I"⟩
abbrev cX10_earned : ByteArray := prog_12_method_16_code
def yX10_earned : MethodName := ⟨RX10, "earned", "(I)I"⟩
abbrev cX10_charged : ByteArray := prog_12_method_17_code
def yX10_charged : MethodName := ⟨RX10, "charged", "(I)I"⟩
abbrev cX10_balance : ByteArray := prog_12_method_18_code
def yX10_balance : MethodName := ⟨RX10, "balance", "(I)I"⟩
abbrev cX10_spend : ByteArray := prog_12_method_19_code
def yX10_spend : MethodName := ⟨RX10, "spend", "(I)V"⟩
abbrev cX10_write : ByteArray := prog_12_method_20_code
def yX10_write : MethodName := ⟨RX10, "write", "(III)V"⟩
abbrev cX10_charge : ByteArray := prog_12_method_21_code
def yX10_charge : MethodName := ⟨RX10, "charge", "(III)V"⟩
abbrev cX10_pay : ByteArray := prog_12_method_22_code
def yX10_pay : MethodName := ⟨RX10, "pay", "(II)V"⟩
abbrev cX10_clear : ByteArray := prog_12_method_23_code
def yX10_clear : MethodName := ⟨RX10, "clear", "(I)V"⟩
abbrev cX10_noSign : ByteArray := prog_12_method_24_code
def yX10_noSign : MethodName := ⟨RX10, "noSign", "(II)I"⟩
abbrev cX10_doSign : ByteArray := prog_12_method_25_code
def yX10_doSign : MethodName := ⟨RX10, "doSign", "(II)I"⟩
abbrev cX10_sign : ByteArray := prog_12_method_26_code
def yX10_sign : MethodName := ⟨RX10, "sign", "(II)I"⟩
abbrev cX10_noStock : ByteArray := prog_12_method_27_code
def yX10_noStock : MethodName := ⟨RX10, "noStock", "(III)I"⟩
abbrev cX10_doStock : ByteArray := prog_12_method_28_code
def yX10_doStock : MethodName := ⟨RX10, "doStock", "(III)I"⟩
abbrev cX10_stock : ByteArray := prog_12_method_29_code
def yX10_stock : MethodName := ⟨RX10, "stock", "(III)I"⟩
abbrev cX10_whyNot : ByteArray := prog_12_method_30_code
def yX10_whyNot : MethodName := ⟨RX10, "whyNot", "(III)I"⟩
abbrev cX10_noSell : ByteArray := prog_12_method_31_code
def yX10_noSell : MethodName := ⟨RX10, "noSell", "(III)I"⟩
abbrev cX10_doSell : ByteArray := prog_12_method_32_code
def yX10_doSell : MethodName := ⟨RX10, "doSell", "(III)I"⟩
abbrev cX10_sell : ByteArray := prog_12_method_33_code
def yX10_sell : MethodName := ⟨RX10, "sell", "(III)I"⟩
abbrev cX10_noAdvance : ByteArray := prog_12_method_34_code
def yX10_noAdvance : MethodName := ⟨RX10, "noAdvance", "(II)I"⟩
abbrev cX10_doAdvance : ByteArray := prog_12_method_35_code
def yX10_doAdvance : MethodName := ⟨RX10, "doAdvance", "(II)I"⟩
abbrev cX10_advance : ByteArray := prog_12_method_36_code
def yX10_advance : MethodName := ⟨RX10, "advance", "(II)I"⟩
abbrev cX10_noFine : ByteArray := prog_12_method_37_code
def yX10_noFine : MethodName := ⟨RX10, "noFine", "(II)I"⟩
abbrev cX10_doFine : ByteArray := prog_12_method_38_code
def yX10_doFine : MethodName := ⟨RX10, "doFine", "(II)I"⟩
abbrev cX10_fine : ByteArray := prog_12_method_39_code
def yX10_fine : MethodName := ⟨RX10, "fine", "(II)I"⟩
abbrev cX10_ofWatch : ByteArray := prog_12_method_40_code
def yX10_ofWatch : MethodName := ⟨RX10, "ofWatch", "(II)I"⟩
abbrev cX10_partOf : ByteArray := prog_12_method_41_code
def yX10_partOf : MethodName := ⟨RX10, "partOf", "(III)I"⟩
abbrev cX10_isFined : ByteArray := prog_12_method_42_code
def yX10_isFined : MethodName := ⟨RX10, "isFined", "(II)Z"⟩
abbrev cX10_fineWatch : ByteArray := prog_12_method_43_code
def yX10_fineWatch : MethodName := ⟨RX10, "fineWatch", "(II)I"⟩
abbrev cX10_inPlace : ByteArray := prog_12_method_44_code
def yX10_inPlace : MethodName := ⟨RX10, "inPlace", "(I)I"⟩
abbrev cX10_aboardOf : ByteArray := prog_12_method_45_code
def yX10_aboardOf : MethodName := ⟨RX10, "aboardOf", "(I)I"⟩
abbrev cX10_noLeave : ByteArray := prog_12_method_46_code
def yX10_noLeave : MethodName := ⟨RX10, "noLeave", "(I)I"⟩
abbrev cX10_doLeave : ByteArray := prog_12_method_47_code
def yX10_doLeave : MethodName := ⟨RX10, "doLeave", "(I)I"⟩
abbrev cX10_leave : ByteArray := prog_12_method_48_code
def yX10_leave : MethodName := ⟨RX10, "leave", "(I)I"⟩
abbrev cX10_noBack : ByteArray := prog_12_method_49_code
def yX10_noBack : MethodName := ⟨RX10, "noBack", "(II)I"⟩
abbrev cX10_doBack : ByteArray := prog_12_method_50_code
def yX10_doBack : MethodName := ⟨RX10, "doBack", "(II)I"⟩
abbrev cX10_back : ByteArray := prog_12_method_51_code
def yX10_back : MethodName := ⟨RX10, "back", "(II)I"⟩
abbrev cX10_noSail : ByteArray := prog_12_method_52_code
def yX10_noSail : MethodName := ⟨RX10, "noSail", "()I"⟩
abbrev cX10_doSail : ByteArray := prog_12_method_53_code
def yX10_doSail : MethodName := ⟨RX10, "doSail", "()I"⟩
abbrev cX10_sail : ByteArray := prog_12_method_54_code
def yX10_sail : MethodName := ⟨RX10, "sail", "()I"⟩
abbrev cX10_noPort : ByteArray := prog_12_method_55_code
def yX10_noPort : MethodName := ⟨RX10, "noPort", "()I"⟩
abbrev cX10_doPort : ByteArray := prog_12_method_56_code
def yX10_doPort : MethodName := ⟨RX10, "doPort", "()I"⟩
abbrev cX10_port : ByteArray := prog_12_method_57_code
def yX10_port : MethodName := ⟨RX10, "port", "()I"⟩
abbrev cX10_noDays : ByteArray := prog_12_method_58_code
def yX10_noDays : MethodName := ⟨RX10, "noDays", "(I)I"⟩
abbrev cX10_doDays : ByteArray := prog_12_method_59_code
def yX10_doDays : MethodName := ⟨RX10, "doDays", "(I)I"⟩
abbrev cX10_days : ByteArray := prog_12_method_60_code
def yX10_days : MethodName := ⟨RX10, "days", "(I)I"⟩
abbrev cX10_dismiss : ByteArray := prog_12_method_61_code
def yX10_dismiss : MethodName := ⟨RX10, "dismiss", "(I)I"⟩
abbrev cX10_noPayOff : ByteArray := prog_12_method_62_code
def yX10_noPayOff : MethodName := ⟨RX10, "noPayOff", "()I"⟩
abbrev cX10_doPayOff : ByteArray := prog_12_method_63_code
def yX10_doPayOff : MethodName := ⟨RX10, "doPayOff", "()I"⟩
abbrev cX10_payOff : ByteArray := prog_12_method_64_code
def yX10_payOff : MethodName := ⟨RX10, "payOff", "()I"⟩
abbrev cX10_set : ByteArray := prog_12_method_65_code
def yX10_set : MethodName := ⟨RX10, "set", "(II)I"⟩
abbrev cX10_sailor : ByteArray := prog_12_method_66_code
def yX10_sailor : MethodName := ⟨RX10, "sailor", "(II)I"⟩
abbrev cX10_item : ByteArray := prog_12_method_67_code
def yX10_item : MethodName := ⟨RX10, "item", "(II)I"⟩
abbrev cX10_book : ByteArray := prog_12_method_68_code
def yX10_book : MethodName := ⟨RX10, "book", "(II)I"⟩
abbrev cX10_why : ByteArray := prog_12_method_69_code
def yX10_why : MethodName := ⟨RX10, "why", "(III)I"⟩
abbrev cX10_most : ByteArray := prog_12_method_70_code
def yX10_most : MethodName := ⟨RX10, "most", "(II)I"⟩
abbrev cX10_clearIn : ByteArray := prog_12_method_71_code
def yX10_clearIn : MethodName := ⟨RX10, "clearIn", "(I)I"⟩
abbrev cX10_ifPaidOff : ByteArray := prog_12_method_72_code
def yX10_ifPaidOff : MethodName := ⟨RX10, "ifPaidOff", "(I)I"⟩
abbrev cX10_poorest : ByteArray := prog_12_method_73_code
def yX10_poorest : MethodName := ⟨RX10, "poorest", "(I)I"⟩
abbrev cX10_share : ByteArray := prog_12_method_74_code
def yX10_share : MethodName := ⟨RX10, "share", "()I"⟩
abbrev cX10_count : ByteArray := prog_12_method_75_code
def yX10_count : MethodName := ⟨RX10, "count", "(I)I"⟩
abbrev cX10_type : ByteArray := prog_12_method_76_code
def yX10_type : MethodName := ⟨RX10, "type", "(I)I"⟩
abbrev cX10_clearText : ByteArray := prog_12_method_77_code
def yX10_clearText : MethodName := ⟨RX10, "clearText", "()I"⟩
abbrev cX10_at : ByteArray := prog_12_method_78_code
def yX10_at : MethodName := ⟨RX10, "at", "(I)I"⟩
abbrev cX10_numbers : ByteArray := prog_12_method_79_code
def yX10_numbers : MethodName := ⟨RX10, "numbers", "(I)I"⟩
abbrev cX10_readOrder : ByteArray := prog_12_method_80_code
def yX10_readOrder : MethodName := ⟨RX10, "readOrder", "(I)I"⟩
abbrev cX10_noOrder : ByteArray := prog_12_method_81_code
def yX10_noOrder : MethodName := ⟨RX10, "noOrder", "()I"⟩
abbrev cX10_doOrder : ByteArray := prog_12_method_82_code
def yX10_doOrder : MethodName := ⟨RX10, "doOrder", "()I"⟩
abbrev cX10_doText : ByteArray := prog_12_method_83_code
def yX10_doText : MethodName := ⟨RX10, "doText", "()Z"⟩
abbrev cX10_fault : ByteArray := prog_12_method_84_code
def yX10_fault : MethodName := ⟨RX10, "fault", "(I)I"⟩
abbrev cX10_play : ByteArray := prog_12_method_85_code
def yX10_play : MethodName := ⟨RX10, "play", "()I"⟩
def RJxf58ca : String := "java/lang/Float"
def TJxf58ca : u_T := fun k => match k with
  | _ => ("", "", "", false)
def tyJxf58ca : Nat → FieldType := fun k => match k with
  | _ => .int
theorem nmJxf58ca : ∀ a, a < 0 → ∀ b, b < 0 → a ≠ b → (TJxf58ca a).2.1 ≠ (TJxf58ca b).2.1 := by decide +kernel
theorem tyJxf58ca_ok : ∀ k, k < 0 → parseFieldDescriptor (TJxf58ca k).2.2.1 = some (tyJxf58ca k) := by decide +kernel
abbrev cJxf58ca_isNaN_12338 : ByteArray := prog_13_method_6_code
def yJxf58ca_isNaN_12338 : MethodName := ⟨RJxf58ca, "isNaN", "(F)Z"⟩
abbrev cJxf58ca_floatToIntBits_5c35a : ByteArray := prog_13_method_24_code
def yJxf58ca_floatToIntBits_5c35a : MethodName := ⟨RJxf58ca, "floatToIntBits", "(F)I"⟩
def RJ9 : String := "java/lang/Math"
def TJ9 : u_T := fun k => match k with
  | _ => ("", "", "", false)
def tyJ9 : Nat → FieldType := fun k => match k with
  | _ => .int
theorem nmJ9 : ∀ a, a < 0 → ∀ b, b < 0 → a ≠ b → (TJ9 a).2.1 ≠ (TJ9 b).2.1 := by decide +kernel
theorem tyJ9_ok : ∀ k, k < 0 → parseFieldDescriptor (TJ9 k).2.2.1 = some (tyJ9 k) := by decide +kernel
abbrev cJ9_max_7cf53 : ByteArray := prog_14_method_65_code
def yJ9_max_7cf53 : MethodName := ⟨RJ9, "max", "(II)I"⟩
abbrev cJ9_min_7cf53 : ByteArray := prog_14_method_69_code
def yJ9_min_7cf53 : MethodName := ⟨RJ9, "min", "(II)I"⟩
def RL : String := "PurserLedgersLaw"
abbrev cL_law : ByteArray := code
def yL_law : MethodName := ⟨RL, "law", "([I)Z"⟩
abbrev vwCl : List vw_C := [(RX0, TX0, 10), (RX1, TX1, 4), (RX2, TX2, 2), (RX3, TX3, 5), (RX4, TX4, 3), (RX5, TX5, 5), (RX6, TX6, 10), (RX7, TX7, 2), (RX8, TX8, 8), (RX9, TX9, 5), (RX10, TX10, 13)]
def wsL_law_r1 : List Cond := [Cond.classLink RL 7 RX9, Cond.instantiable RX9 5, Cond.initialized RX9, Cond.classLink RL 10 RX10, Cond.instantiable RX10 13, Cond.initialized RX10, Cond.methodLink RL 9 yX9_init, Cond.instanceMethod yX9_init, Cond.code yX9_init cX9_init 1 none, Cond.methodLink RX9 1 objectInit, Cond.instanceMethod objectInit, Cond.code objectInit ⟨#[0xb1]⟩ 1 none, Cond.classLink RX9 7 RX0, Cond.instantiable RX0 10, Cond.initialized RX0, Cond.fieldLink RX9 10 "PurserLedgers" "now" "LPurserLedgers$Books;", Cond.fieldLink RX9 16 "PurserLedgers" "trial" "LPurserLedgers$Books;", Cond.classLink RX9 19 RX2, Cond.instantiable RX2 2, Cond.initialized RX2, Cond.fieldLink RX9 22 "PurserLedgers" "history" "LPurserLedgers$History;", Cond.classLink RX9 26 RX7, Cond.instantiable RX7 2, Cond.initialized RX7]
def wsL_law_r2 : List Cond := [Cond.fieldLink RX9 29 "PurserLedgers" "text" "LPurserLedgers$Text;", Cond.classLink RX9 33 RX5, Cond.instantiable RX5 5, Cond.initialized RX5, Cond.fieldLink RX9 36 "PurserLedgers" "rehearsal" "LPurserLedgers$Rehearsal;", Cond.methodLink RX9 9 yX0_init, Cond.instanceMethod yX0_init, Cond.code yX0_init cX0_init 2 none, Cond.methodLink RX0 3 objectInit, Cond.classLink RX0 9 RX6, Cond.fieldLink RX0 11 "PurserLedgers$Books" "crew" "[LPurserLedgers$Sailor;", Cond.instantiable RX6 10, Cond.initialized RX6, Cond.classLink RX0 18 RX3, Cond.fieldLink RX0 20 "PurserLedgers$Books" "chest" "[LPurserLedgers$Item;", Cond.instantiable RX3 5, Cond.initialized RX3, Cond.arrayClass .int, Cond.fieldLink RX0 29 "PurserLedgers$Books" "settings" "[I", Cond.classLink RX0 36 RX1, Cond.instantiable RX1 4, Cond.initialized RX1, Cond.fieldLink RX0 39 "PurserLedgers$Books" "entries" "LPurserLedgers$Entries;", Cond.classLink RX0 43 RX8]
def wsL_law_r3 : List Cond := [Cond.instantiable RX8 8, Cond.initialized RX8, Cond.fieldLink RX0 46 "PurserLedgers$Books" "totals" "LPurserLedgers$Totals;", Cond.instanceMethod yX6_init, Cond.code yX6_init cX6_init 1 none, Cond.methodLink RX6 3 objectInit, Cond.instanceMethod yX3_init, Cond.code yX3_init cX3_init 1 none, Cond.methodLink RX3 3 objectInit, Cond.static yX9_copyNumbers, Cond.code yX9_copyNumbers cX9_copyNumbers 3 none, Cond.methodLink RX0 38 yX1_init, Cond.instanceMethod yX1_init, Cond.code yX1_init cX1_init 1 none, Cond.methodLink RX1 3 objectInit, Cond.fieldLink RX1 9 "PurserLedgers$Entries" "sailors" "[I", Cond.fieldLink RX1 15 "PurserLedgers$Entries" "kinds" "[I", Cond.fieldLink RX1 18 "PurserLedgers$Entries" "coins" "[I", Cond.methodLink RX0 45 yX8_init, Cond.instanceMethod yX8_init, Cond.code yX8_init cX8_init 1 none, Cond.methodLink RX8 3 objectInit, Cond.fieldLink RX8 9 "PurserLedgers$Totals" "cash" "I", Cond.methodLink RX9 21 yX2_init]
def wsL_law_r4 : List Cond := [Cond.instanceMethod yX2_init, Cond.code yX2_init cX2_init 2 none, Cond.methodLink RX2 3 objectInit, Cond.classLink RX2 9 RX0, Cond.fieldLink RX2 11 "PurserLedgers$History" "states" "[LPurserLedgers$Books;", Cond.methodLink RX2 17 yX0_init, Cond.methodLink RX9 28 yX7_init, Cond.instanceMethod yX7_init, Cond.code yX7_init cX7_init 1 none, Cond.methodLink RX7 3 objectInit, Cond.fieldLink RX7 9 "PurserLedgers$Text" "characters" "[I", Cond.methodLink RX9 35 yX5_init, Cond.instanceMethod yX5_init, Cond.code yX5_init cX5_init 1 none, Cond.methodLink RX5 3 objectInit, Cond.classLink RX5 9 RX4, Cond.instantiable RX4 3, Cond.initialized RX4, Cond.fieldLink RX5 12 "PurserLedgers$Rehearsal" "order" "LPurserLedgers$Order;", Cond.methodLink RX5 11 yX4_init, Cond.instanceMethod yX4_init, Cond.code yX4_init cX4_init 1 none, Cond.methodLink RX4 3 objectInit, Cond.fieldLink RX4 9 "PurserLedgers$Order" "numbers" "[I"]
def wsL_law_r5 : List Cond := [Cond.methodLink RL 12 yX10_init, Cond.instanceMethod yX10_init, Cond.code yX10_init cX10_init 1 none, Cond.methodLink RX10 1 objectInit, Cond.fieldLink RX10 7 "PurserLedgersModel" "z" "[I", Cond.fieldLink RX10 13 "PurserLedgersModel" "aside" "[I", Cond.fieldLink RX10 16 "PurserLedgersModel" "before" "[I", Cond.fieldLink RX10 19 "PurserLedgersModel" "text" "[I", Cond.fieldLink RX10 22 "PurserLedgersModel" "number" "[I", Cond.methodLink RL 13 yX9_sign, Cond.instanceMethod yX9_sign, Cond.selects RX9 yX9_sign yX9_sign, Cond.code yX9_sign cX9_sign 3 (some .int), Cond.methodLink RX9 40 yX9_newTrial, Cond.instanceMethod yX9_newTrial, Cond.selects RX9 yX9_newTrial yX9_newTrial, Cond.code yX9_newTrial cX9_newTrial 1 (some (.object "PurserLedgers$Books")), Cond.methodLink RX9 173 yX0_copyFrom, Cond.instanceMethod yX0_copyFrom, Cond.selects RX0 yX0_copyFrom yX0_copyFrom, Cond.code yX0_copyFrom cX0_copyFrom 3 none, Cond.fieldLink RX0 63 "PurserLedgers$Books" "signed" "I", Cond.fieldLink RX0 67 "PurserLedgers$Books" "voyage" "I", Cond.fieldLink RX0 70 "PurserLedgers$Books" "voyageDays" "I"]
def wsL_law_r6 : List Cond := [Cond.fieldLink RX0 73 "PurserLedgers$Books" "ports" "I", Cond.fieldLink RX0 76 "PurserLedgers$Books" "atSea" "Z", Cond.methodLink RX0 50 yX6_copyFrom, Cond.instanceMethod yX6_copyFrom, Cond.selects RX6 yX6_copyFrom yX6_copyFrom, Cond.code yX6_copyFrom cX6_copyFrom 2 none, Cond.fieldLink RX6 9 "PurserLedgers$Sailor" "rank" "I", Cond.fieldLink RX6 15 "PurserLedgers$Sailor" "watch" "I", Cond.fieldLink RX6 18 "PurserLedgers$Sailor" "whereabouts" "I", Cond.fieldLink RX6 21 "PurserLedgers$Sailor" "seaDays" "I", Cond.fieldLink RX6 24 "PurserLedgers$Sailor" "portDays" "I", Cond.fieldLink RX6 27 "PurserLedgers$Sailor" "bought" "I", Cond.fieldLink RX6 30 "PurserLedgers$Sailor" "fines" "I", Cond.fieldLink RX6 33 "PurserLedgers$Sailor" "advances" "I", Cond.fieldLink RX6 36 "PurserLedgers$Sailor" "debt" "I", Cond.fieldLink RX6 39 "PurserLedgers$Sailor" "paid" "I", Cond.methodLink RX0 54 yX3_copyFrom, Cond.instanceMethod yX3_copyFrom, Cond.selects RX3 yX3_copyFrom yX3_copyFrom, Cond.code yX3_copyFrom cX3_copyFrom 2 none, Cond.fieldLink RX3 9 "PurserLedgers$Item" "inStock" "I", Cond.fieldLink RX3 15 "PurserLedgers$Item" "price" "I", Cond.fieldLink RX3 18 "PurserLedgers$Item" "bought" "I", Cond.fieldLink RX3 21 "PurserLedgers$Item" "sold" "I"]
def wsL_law_r7 : List Cond := [Cond.fieldLink RX3 24 "PurserLedgers$Item" "charged" "I", Cond.methodLink RX0 57 yX1_copyFrom, Cond.instanceMethod yX1_copyFrom, Cond.selects RX1 yX1_copyFrom yX1_copyFrom, Cond.code yX1_copyFrom cX1_copyFrom 2 none, Cond.fieldLink RX1 25 "PurserLedgers$Entries" "kept" "I", Cond.methodLink RX0 60 yX8_copyFrom, Cond.instanceMethod yX8_copyFrom, Cond.selects RX8 yX8_copyFrom yX8_copyFrom, Cond.code yX8_copyFrom cX8_copyFrom 2 none, Cond.fieldLink RX8 15 "PurserLedgers$Totals" "drawn" "I", Cond.fieldLink RX8 18 "PurserLedgers$Totals" "spent" "I", Cond.fieldLink RX8 21 "PurserLedgers$Totals" "advanced" "I", Cond.fieldLink RX8 24 "PurserLedgers$Totals" "paid" "I", Cond.fieldLink RX8 27 "PurserLedgers$Totals" "charged" "I", Cond.fieldLink RX8 30 "PurserLedgers$Totals" "fines" "I", Cond.fieldLink RX8 33 "PurserLedgers$Totals" "forfeit" "I", Cond.methodLink RX9 44 yX0_signOn, Cond.instanceMethod yX0_signOn, Cond.selects RX0 yX0_signOn yX0_signOn, Cond.code yX0_signOn cX0_signOn 4 (some .int), Cond.constant RX0 84 (-1000001), Cond.constant RX0 85 (-1000002), Cond.constant RX0 86 (-1000003)]
def wsL_law_r8 : List Cond := [Cond.static yX9_within, Cond.code yX9_within cX9_within 3 (some .boolean), Cond.methodLink RX0 87 yX6_comeAboard, Cond.instanceMethod yX6_comeAboard, Cond.selects RX6 yX6_comeAboard yX6_comeAboard, Cond.code yX6_comeAboard cX6_comeAboard 3 none, Cond.methodLink RX6 42 yX6_beginVoyage, Cond.instanceMethod yX6_beginVoyage, Cond.selects RX6 yX6_beginVoyage yX6_beginVoyage, Cond.code yX6_beginVoyage cX6_beginVoyage 2 none, Cond.methodLink RX9 48 yX9_settleTrial, Cond.instanceMethod yX9_settleTrial, Cond.selects RX9 yX9_settleTrial yX9_settleTrial, Cond.code yX9_settleTrial cX9_settleTrial 2 (some .int), Cond.methodLink RX9 177 yX2_record, Cond.instanceMethod yX2_record, Cond.selects RX2 yX2_record yX2_record, Cond.code yX2_record cX2_record 5 none, Cond.fieldLink RX2 22 "PurserLedgers$History" "kept" "I", Cond.methodLink RX2 18 yX0_copyFrom, Cond.methodLink RL 17 yX10_sign, Cond.instanceMethod yX10_sign, Cond.selects RX10 yX10_sign yX10_sign, Cond.code yX10_sign cX10_sign 4 (some .int)]
def wsL_law_r9 : List Cond := [Cond.methodLink RX10 73 yX10_noSign, Cond.instanceMethod yX10_noSign, Cond.selects RX10 yX10_noSign yX10_noSign, Cond.code yX10_noSign cX10_noSign 3 (some .int), Cond.constant RX10 64 (-1000001), Cond.constant RX10 37 (-1000002), Cond.constant RX10 69 (-1000003), Cond.methodLink RX10 25 yX10_in, Cond.static yX10_in, Cond.code yX10_in cX10_in 3 (some .boolean), Cond.methodLink RX10 65 yX10_isAtSea, Cond.instanceMethod yX10_isAtSea, Cond.selects RX10 yX10_isAtSea yX10_isAtSea, Cond.code yX10_isAtSea cX10_isAtSea 1 (some .boolean), Cond.methodLink RX10 76 yX10_record, Cond.instanceMethod yX10_record, Cond.selects RX10 yX10_record yX10_record, Cond.code yX10_record cX10_record 3 none, Cond.fieldLink RX10 33 "PurserLedgersModel" "states" "I", Cond.methodLink RX10 80 yX10_doSign, Cond.instanceMethod yX10_doSign, Cond.selects RX10 yX10_doSign yX10_doSign, Cond.code yX10_doSign cX10_doSign 4 (some .int), Cond.methodLink RX10 70 yX10_clear]
def wsL_law_r10 : List Cond := [Cond.instanceMethod yX10_clear, Cond.selects RX10 yX10_clear yX10_clear, Cond.code yX10_clear cX10_clear 3 none, Cond.methodLink RX10 53 yX10_put, Cond.instanceMethod yX10_put, Cond.selects RX10 yX10_put yX10_put, Cond.code yX10_put cX10_put 4 none, Cond.methodLink RL 18 yX9_stock, Cond.instanceMethod yX9_stock, Cond.selects RX9 yX9_stock yX9_stock, Cond.code yX9_stock cX9_stock 4 (some .int), Cond.methodLink RX9 52 yX0_buyForChest, Cond.instanceMethod yX0_buyForChest, Cond.selects RX0 yX0_buyForChest yX0_buyForChest, Cond.code yX0_buyForChest cX0_buyForChest 5 (some .int), Cond.fieldLink RX0 95 "PurserLedgers$Item" "inStock" "I", Cond.fieldLink RX0 98 "PurserLedgers$Totals" "spent" "I", Cond.fieldLink RX0 112 "PurserLedgers$Item" "price" "I", Cond.methodLink RX0 91 yX0_findItem, Cond.instanceMethod yX0_findItem, Cond.selects RX0 yX0_findItem yX0_findItem, Cond.code yX0_findItem cX0_findItem 2 (some (.object "PurserLedgers$Item")), Cond.methodLink RX0 101 yX8_takeCash, Cond.instanceMethod yX8_takeCash]
def wsL_law_r11 : List Cond := [Cond.selects RX8 yX8_takeCash yX8_takeCash, Cond.code yX8_takeCash cX8_takeCash 3 none, Cond.methodLink RX8 36 yX8_missingFor, Cond.instanceMethod yX8_missingFor, Cond.selects RX8 yX8_missingFor yX8_missingFor, Cond.code yX8_missingFor cX8_missingFor 2 (some .int), Cond.methodLink RX0 105 yX0_setting, Cond.instanceMethod yX0_setting, Cond.selects RX0 yX0_setting yX0_setting, Cond.code yX0_setting cX0_setting 2 (some .int), Cond.methodLink RX0 109 yX3_takeIn, Cond.instanceMethod yX3_takeIn, Cond.selects RX3 yX3_takeIn yX3_takeIn, Cond.code yX3_takeIn cX3_takeIn 3 none, Cond.methodLink RL 22 yX10_stock, Cond.instanceMethod yX10_stock, Cond.selects RX10 yX10_stock yX10_stock, Cond.code yX10_stock cX10_stock 5 (some .int), Cond.methodLink RX10 89 yX10_noStock, Cond.instanceMethod yX10_noStock, Cond.selects RX10 yX10_noStock yX10_noStock, Cond.code yX10_noStock cX10_noStock 4 (some .int), Cond.methodLink RX10 83 yX10_isItem, Cond.static yX10_isItem]
def wsL_law_r12 : List Cond := [Cond.code yX10_isItem cX10_isItem 1 (some .boolean), Cond.methodLink RX10 86 yX10_ofItem, Cond.instanceMethod yX10_ofItem, Cond.selects RX10 yX10_ofItem yX10_ofItem, Cond.code yX10_ofItem cX10_ofItem 3 (some .int), Cond.methodLink RX10 92 yX10_doStock, Cond.instanceMethod yX10_doStock, Cond.selects RX10 yX10_doStock yX10_doStock, Cond.code yX10_doStock cX10_doStock 5 (some .int), Cond.methodLink RX10 60 yX10_spend, Cond.instanceMethod yX10_spend, Cond.selects RX10 yX10_spend yX10_spend, Cond.code yX10_spend cX10_spend 2 none, Cond.methodLink RL 23 yX9_sell, Cond.instanceMethod yX9_sell, Cond.selects RX9 yX9_sell yX9_sell, Cond.code yX9_sell cX9_sell 4 (some .int), Cond.methodLink RX9 56 yX0_sellFromChest, Cond.instanceMethod yX0_sellFromChest, Cond.selects RX0 yX0_sellFromChest yX0_sellFromChest, Cond.code yX0_sellFromChest cX0_sellFromChest 7 (some .int), Cond.fieldLink RX0 126 "PurserLedgers$Sailor" "bought" "I", Cond.fieldLink RX0 129 "PurserLedgers$Totals" "charged" "I", Cond.methodLink RX0 115 yX0_findSailor]
def wsL_law_r13 : List Cond := [Cond.instanceMethod yX0_findSailor, Cond.selects RX0 yX0_findSailor yX0_findSailor, Cond.code yX0_findSailor cX0_findSailor 2 (some (.object "PurserLedgers$Sailor")), Cond.methodLink RX0 119 yX0_reasonAgainst, Cond.instanceMethod yX0_reasonAgainst, Cond.selects RX0 yX0_reasonAgainst yX0_reasonAgainst, Cond.code yX0_reasonAgainst cX0_reasonAgainst 4 (some .int), Cond.fieldLink RX0 136 "PurserLedgers$Sailor" "whereabouts" "I", Cond.methodLink RX0 139 yX6_balance, Cond.instanceMethod yX6_balance, Cond.selects RX6 yX6_balance yX6_balance, Cond.code yX6_balance cX6_balance 1 (some .int), Cond.methodLink RX6 50 yX6_wages, Cond.instanceMethod yX6_wages, Cond.selects RX6 yX6_wages yX6_wages, Cond.code yX6_wages cX6_wages 3 (some .int), Cond.methodLink RX6 54 yX6_charged, Cond.instanceMethod yX6_charged, Cond.selects RX6 yX6_charged yX6_charged, Cond.code yX6_charged cX6_charged 1 (some .int), Cond.methodLink RX0 123 yX3_giveOut, Cond.instanceMethod yX3_giveOut, Cond.selects RX3 yX3_giveOut yX3_giveOut, Cond.code yX3_giveOut cX3_giveOut 3 none]
def wsL_law_r14 : List Cond := [Cond.methodLink RX0 132 yX1_enter, Cond.instanceMethod yX1_enter, Cond.selects RX1 yX1_enter yX1_enter, Cond.code yX1_enter cX1_enter 4 none, Cond.methodLink RX1 29 yX1_putAhead, Cond.static yX1_putAhead, Cond.code yX1_putAhead cX1_putAhead 3 none, Cond.methodLink RL 26 yX10_sell, Cond.instanceMethod yX10_sell, Cond.selects RX10 yX10_sell yX10_sell, Cond.code yX10_sell cX10_sell 5 (some .int), Cond.methodLink RX10 107 yX10_noSell, Cond.instanceMethod yX10_noSell, Cond.selects RX10 yX10_noSell yX10_noSell, Cond.code yX10_noSell cX10_noSell 4 (some .int), Cond.methodLink RX10 98 yX10_isSailor, Cond.instanceMethod yX10_isSailor, Cond.selects RX10 yX10_isSailor yX10_isSailor, Cond.code yX10_isSailor cX10_isSailor 2 (some .boolean), Cond.methodLink RX10 101 yX10_whyNot, Cond.instanceMethod yX10_whyNot, Cond.selects RX10 yX10_whyNot yX10_whyNot, Cond.code yX10_whyNot cX10_whyNot 4 (some .int), Cond.methodLink RX10 29 yX10_of]
def wsL_law_r15 : List Cond := [Cond.instanceMethod yX10_of, Cond.selects RX10 yX10_of yX10_of, Cond.code yX10_of cX10_of 3 (some .int), Cond.methodLink RX10 95 yX10_balance, Cond.instanceMethod yX10_balance, Cond.selects RX10 yX10_balance yX10_balance, Cond.code yX10_balance cX10_balance 2 (some .int), Cond.methodLink RX10 42 yX10_isGone, Cond.instanceMethod yX10_isGone, Cond.selects RX10 yX10_isGone yX10_isGone, Cond.code yX10_isGone cX10_isGone 2 (some .boolean), Cond.methodLink RX10 46 yX10_earned, Cond.instanceMethod yX10_earned, Cond.selects RX10 yX10_earned yX10_earned, Cond.code yX10_earned cX10_earned 2 (some .int), Cond.methodLink RX10 38 yX10_wages, Cond.static yX10_wages, Cond.code yX10_wages cX10_wages 4 (some .int), Cond.methodLink RX10 50 yX10_charged, Cond.instanceMethod yX10_charged, Cond.selects RX10 yX10_charged yX10_charged, Cond.code yX10_charged cX10_charged 2 (some .int), Cond.methodLink RX10 110 yX10_doSell, Cond.instanceMethod yX10_doSell]
def wsL_law_r16 : List Cond := [Cond.selects RX10 yX10_doSell yX10_doSell, Cond.code yX10_doSell cX10_doSell 6 (some .int), Cond.methodLink RX10 104 yX10_charge, Cond.instanceMethod yX10_charge, Cond.selects RX10 yX10_charge yX10_charge, Cond.code yX10_charge cX10_charge 4 none, Cond.methodLink RX10 57 yX10_write, Cond.instanceMethod yX10_write, Cond.selects RX10 yX10_write yX10_write, Cond.code yX10_write cX10_write 5 none, Cond.methodLink RL 27 yX9_advance, Cond.instanceMethod yX9_advance, Cond.selects RX9 yX9_advance yX9_advance, Cond.code yX9_advance cX9_advance 3 (some .int), Cond.methodLink RX9 59 yX0_advanceTo, Cond.instanceMethod yX0_advanceTo, Cond.selects RX0 yX0_advanceTo yX0_advanceTo, Cond.code yX0_advanceTo cX0_advanceTo 4 (some .int), Cond.fieldLink RX0 153 "PurserLedgers$Sailor" "advances" "I", Cond.fieldLink RX0 156 "PurserLedgers$Totals" "advanced" "I", Cond.fieldLink RX0 159 "PurserLedgers$Totals" "cash" "I", Cond.methodLink RX0 149 yX6_isGone, Cond.instanceMethod yX6_isGone, Cond.selects RX6 yX6_isGone yX6_isGone]
def wsL_law_r17 : List Cond := [Cond.code yX6_isGone cX6_isGone 1 (some .boolean), Cond.methodLink RL 30 yX10_advance, Cond.instanceMethod yX10_advance, Cond.selects RX10 yX10_advance yX10_advance, Cond.code yX10_advance cX10_advance 4 (some .int), Cond.methodLink RX10 113 yX10_noAdvance, Cond.instanceMethod yX10_noAdvance, Cond.selects RX10 yX10_noAdvance yX10_noAdvance, Cond.code yX10_noAdvance cX10_noAdvance 3 (some .int), Cond.methodLink RX10 116 yX10_doAdvance, Cond.instanceMethod yX10_doAdvance, Cond.selects RX10 yX10_doAdvance yX10_doAdvance, Cond.code yX10_doAdvance cX10_doAdvance 3 (some .int), Cond.methodLink RL 31 yX9_fine, Cond.instanceMethod yX9_fine, Cond.selects RX9 yX9_fine yX9_fine, Cond.code yX9_fine cX9_fine 3 (some .int), Cond.methodLink RX9 62 yX0_fineOne, Cond.instanceMethod yX0_fineOne, Cond.selects RX0 yX0_fineOne yX0_fineOne, Cond.code yX0_fineOne cX0_fineOne 4 (some .int), Cond.methodLink RX0 162 yX6_couldBeFined, Cond.instanceMethod yX6_couldBeFined, Cond.selects RX6 yX6_couldBeFined yX6_couldBeFined]
def wsL_law_r18 : List Cond := [Cond.code yX6_couldBeFined cX6_couldBeFined 2 (some .boolean), Cond.methodLink RX6 58 yX6_balance, Cond.methodLink RX0 166 yX0_chargeFine, Cond.instanceMethod yX0_chargeFine, Cond.selects RX0 yX0_chargeFine yX0_chargeFine, Cond.code yX0_chargeFine cX0_chargeFine 4 none, Cond.fieldLink RX0 170 "PurserLedgers$Sailor" "fines" "I", Cond.fieldLink RX0 173 "PurserLedgers$Totals" "fines" "I", Cond.methodLink RL 34 yX10_fine, Cond.instanceMethod yX10_fine, Cond.selects RX10 yX10_fine yX10_fine, Cond.code yX10_fine cX10_fine 4 (some .int), Cond.methodLink RX10 119 yX10_noFine, Cond.instanceMethod yX10_noFine, Cond.selects RX10 yX10_noFine yX10_noFine, Cond.code yX10_noFine cX10_noFine 3 (some .int), Cond.methodLink RX10 122 yX10_doFine, Cond.instanceMethod yX10_doFine, Cond.selects RX10 yX10_doFine yX10_doFine, Cond.code yX10_doFine cX10_doFine 3 (some .int), Cond.methodLink RL 35 yX9_fineWatch, Cond.instanceMethod yX9_fineWatch, Cond.selects RX9 yX9_fineWatch yX9_fineWatch, Cond.code yX9_fineWatch cX9_fineWatch 3 (some .int)]
def wsL_law_r19 : List Cond := [Cond.methodLink RX9 65 yX0_fineAll, Cond.instanceMethod yX0_fineAll, Cond.selects RX0 yX0_fineAll yX0_fineAll, Cond.code yX0_fineAll cX0_fineAll 7 (some .int), Cond.methodLink RX0 174 yX0_sizeOfWatch, Cond.instanceMethod yX0_sizeOfWatch, Cond.selects RX0 yX0_sizeOfWatch yX0_sizeOfWatch, Cond.code yX0_sizeOfWatch cX0_sizeOfWatch 4 (some .int), Cond.methodLink RX0 180 yX6_isOfWatch, Cond.instanceMethod yX6_isOfWatch, Cond.selects RX6 yX6_isOfWatch yX6_isOfWatch, Cond.code yX6_isOfWatch cX6_isOfWatch 2 (some .boolean), Cond.methodLink RX6 46 yX6_isGone, Cond.methodLink RX0 177 yX0_couldAllBeFined, Cond.instanceMethod yX0_couldAllBeFined, Cond.selects RX0 yX0_couldAllBeFined yX0_couldAllBeFined, Cond.code yX0_couldAllBeFined cX0_couldAllBeFined 6 (some .boolean), Cond.methodLink RL 38 yX10_fineWatch, Cond.instanceMethod yX10_fineWatch, Cond.selects RX10 yX10_fineWatch yX10_fineWatch, Cond.code yX10_fineWatch cX10_fineWatch 6 (some .int), Cond.methodLink RX10 125 yX10_ofWatch, Cond.instanceMethod yX10_ofWatch, Cond.selects RX10 yX10_ofWatch yX10_ofWatch]
def wsL_law_r20 : List Cond := [Cond.code yX10_ofWatch cX10_ofWatch 5 (some .int), Cond.methodLink RX10 128 yX10_isFined, Cond.instanceMethod yX10_isFined, Cond.selects RX10 yX10_isFined yX10_isFined, Cond.code yX10_isFined cX10_isFined 3 (some .boolean), Cond.methodLink RX10 132 yX10_partOf, Cond.instanceMethod yX10_partOf, Cond.selects RX10 yX10_partOf yX10_partOf, Cond.code yX10_partOf cX10_partOf 5 (some .int), Cond.methodLink RL 39 yX9_leave, Cond.instanceMethod yX9_leave, Cond.selects RX9 yX9_leave yX9_leave, Cond.code yX9_leave cX9_leave 2 (some .int), Cond.methodLink RX9 68 yX0_letAshore, Cond.instanceMethod yX0_letAshore, Cond.selects RX0 yX0_letAshore yX0_letAshore, Cond.code yX0_letAshore cX0_letAshore 4 (some .int), Cond.methodLink RX0 183 yX0_setOf, Cond.instanceMethod yX0_setOf, Cond.selects RX0 yX0_setOf yX0_setOf, Cond.code yX0_setOf cX0_setOf 4 (some .int), Cond.methodLink RL 43 yX10_leave, Cond.instanceMethod yX10_leave, Cond.selects RX10 yX10_leave yX10_leave]
def wsL_law_r21 : List Cond := [Cond.code yX10_leave cX10_leave 3 (some .int), Cond.methodLink RX10 141 yX10_noLeave, Cond.instanceMethod yX10_noLeave, Cond.selects RX10 yX10_noLeave yX10_noLeave, Cond.code yX10_noLeave cX10_noLeave 2 (some .int), Cond.methodLink RX10 135 yX10_inPlace, Cond.instanceMethod yX10_inPlace, Cond.selects RX10 yX10_inPlace yX10_inPlace, Cond.code yX10_inPlace cX10_inPlace 4 (some .int), Cond.methodLink RX10 138 yX10_aboardOf, Cond.instanceMethod yX10_aboardOf, Cond.selects RX10 yX10_aboardOf yX10_aboardOf, Cond.code yX10_aboardOf cX10_aboardOf 4 (some .int), Cond.methodLink RX10 144 yX10_doLeave, Cond.instanceMethod yX10_doLeave, Cond.selects RX10 yX10_doLeave yX10_doLeave, Cond.code yX10_doLeave cX10_doLeave 4 (some .int), Cond.methodLink RL 44 yX9_back, Cond.instanceMethod yX9_back, Cond.selects RX9 yX9_back yX9_back, Cond.code yX9_back cX9_back 3 (some .int), Cond.methodLink RX9 71 yX0_comeBack, Cond.instanceMethod yX0_comeBack, Cond.selects RX0 yX0_comeBack yX0_comeBack]
def wsL_law_r22 : List Cond := [Cond.code yX0_comeBack cX0_comeBack 5 (some .int), Cond.methodLink RL 47 yX10_back, Cond.instanceMethod yX10_back, Cond.selects RX10 yX10_back yX10_back, Cond.code yX10_back cX10_back 4 (some .int), Cond.methodLink RX10 147 yX10_noBack, Cond.instanceMethod yX10_noBack, Cond.selects RX10 yX10_noBack yX10_noBack, Cond.code yX10_noBack cX10_noBack 3 (some .int), Cond.methodLink RX10 150 yX10_doBack, Cond.instanceMethod yX10_doBack, Cond.selects RX10 yX10_doBack yX10_doBack, Cond.code yX10_doBack cX10_doBack 3 (some .int), Cond.methodLink RL 48 yX9_sail, Cond.instanceMethod yX9_sail, Cond.selects RX9 yX9_sail yX9_sail, Cond.code yX9_sail cX9_sail 1 (some .int), Cond.methodLink RX9 74 yX0_putToSea, Cond.instanceMethod yX0_putToSea, Cond.selects RX0 yX0_putToSea yX0_putToSea, Cond.code yX0_putToSea cX0_putToSea 3 (some .int), Cond.fieldLink RX0 186 "PurserLedgers$Totals" "forfeit" "I", Cond.methodLink RX0 189 yX6_goAway, Cond.instanceMethod yX6_goAway]
def wsL_law_r23 : List Cond := [Cond.selects RX6 yX6_goAway yX6_goAway, Cond.code yX6_goAway cX6_goAway 1 none, Cond.methodLink RL 52 yX10_sail, Cond.instanceMethod yX10_sail, Cond.selects RX10 yX10_sail yX10_sail, Cond.code yX10_sail cX10_sail 2 (some .int), Cond.methodLink RX10 153 yX10_noSail, Cond.instanceMethod yX10_noSail, Cond.selects RX10 yX10_noSail yX10_noSail, Cond.code yX10_noSail cX10_noSail 1 (some .int), Cond.methodLink RX10 157 yX10_doSail, Cond.instanceMethod yX10_doSail, Cond.selects RX10 yX10_doSail yX10_doSail, Cond.code yX10_doSail cX10_doSail 3 (some .int), Cond.methodLink RL 53 yX9_port, Cond.instanceMethod yX9_port, Cond.selects RX9 yX9_port yX9_port, Cond.code yX9_port cX9_port 1 (some .int), Cond.methodLink RX9 78 yX0_comeIntoPort, Cond.instanceMethod yX0_comeIntoPort, Cond.selects RX0 yX0_comeIntoPort yX0_comeIntoPort, Cond.code yX0_comeIntoPort cX0_comeIntoPort 1 (some .int), Cond.methodLink RL 56 yX10_port, Cond.instanceMethod yX10_port]
def wsL_law_r24 : List Cond := [Cond.selects RX10 yX10_port yX10_port, Cond.code yX10_port cX10_port 2 (some .int), Cond.methodLink RX10 160 yX10_noPort, Cond.instanceMethod yX10_noPort, Cond.selects RX10 yX10_noPort yX10_noPort, Cond.code yX10_noPort cX10_noPort 1 (some .int), Cond.methodLink RX10 163 yX10_doPort, Cond.instanceMethod yX10_doPort, Cond.selects RX10 yX10_doPort yX10_doPort, Cond.code yX10_doPort cX10_doPort 1 (some .int), Cond.methodLink RL 57 yX9_days, Cond.instanceMethod yX9_days, Cond.selects RX9 yX9_days yX9_days, Cond.code yX9_days cX9_days 2 (some .int), Cond.methodLink RX9 81 yX0_passDays, Cond.instanceMethod yX0_passDays, Cond.selects RX0 yX0_passDays yX0_passDays, Cond.code yX0_passDays cX0_passDays 3 (some .int), Cond.methodLink RX0 192 yX6_passDays, Cond.instanceMethod yX6_passDays, Cond.selects RX6 yX6_passDays yX6_passDays, Cond.code yX6_passDays cX6_passDays 3 none, Cond.methodLink RL 60 yX10_days, Cond.instanceMethod yX10_days]
def wsL_law_r25 : List Cond := [Cond.selects RX10 yX10_days yX10_days, Cond.code yX10_days cX10_days 3 (some .int), Cond.methodLink RX10 166 yX10_noDays, Cond.instanceMethod yX10_noDays, Cond.selects RX10 yX10_noDays yX10_noDays, Cond.code yX10_noDays cX10_noDays 2 (some .int), Cond.methodLink RX10 169 yX10_doDays, Cond.instanceMethod yX10_doDays, Cond.selects RX10 yX10_doDays yX10_doDays, Cond.code yX10_doDays cX10_doDays 4 (some .int), Cond.methodLink RL 61 yX9_dismiss, Cond.instanceMethod yX9_dismiss, Cond.selects RX9 yX9_dismiss yX9_dismiss, Cond.code yX9_dismiss cX9_dismiss 2 (some .int), Cond.methodLink RX9 84 yX0_sendAway, Cond.instanceMethod yX0_sendAway, Cond.selects RX0 yX0_sendAway yX0_sendAway, Cond.code yX0_sendAway cX0_sendAway 4 (some .int), Cond.methodLink RX0 196 yX0_payTo, Cond.instanceMethod yX0_payTo, Cond.selects RX0 yX0_payTo yX0_payTo, Cond.code yX0_payTo cX0_payTo 4 none, Cond.fieldLink RX0 199 "PurserLedgers$Sailor" "paid" "I", Cond.fieldLink RX0 202 "PurserLedgers$Totals" "paid" "I"]
def wsL_law_r26 : List Cond := [Cond.methodLink RL 64 yX10_dismiss, Cond.instanceMethod yX10_dismiss, Cond.selects RX10 yX10_dismiss yX10_dismiss, Cond.code yX10_dismiss cX10_dismiss 3 (some .int), Cond.methodLink RX10 172 yX10_pay, Cond.instanceMethod yX10_pay, Cond.selects RX10 yX10_pay yX10_pay, Cond.code yX10_pay cX10_pay 3 none, Cond.methodLink RL 65 yX9_payOff, Cond.instanceMethod yX9_payOff, Cond.selects RX9 yX9_payOff yX9_payOff, Cond.code yX9_payOff cX9_payOff 1 (some .int), Cond.methodLink RX9 87 yX0_endVoyage, Cond.instanceMethod yX0_endVoyage, Cond.selects RX0 yX0_endVoyage yX0_endVoyage, Cond.code yX0_endVoyage cX0_endVoyage 4 (some .int), Cond.methodLink RX0 203 yX6_beginVoyage, Cond.methodLink RL 68 yX10_payOff, Cond.instanceMethod yX10_payOff, Cond.selects RX10 yX10_payOff yX10_payOff, Cond.code yX10_payOff cX10_payOff 2 (some .int), Cond.methodLink RX10 176 yX10_noPayOff, Cond.instanceMethod yX10_noPayOff, Cond.selects RX10 yX10_noPayOff yX10_noPayOff]
def wsL_law_r27 : List Cond := [Cond.code yX10_noPayOff cX10_noPayOff 1 (some .int), Cond.methodLink RX10 179 yX10_doPayOff, Cond.instanceMethod yX10_doPayOff, Cond.selects RX10 yX10_doPayOff yX10_doPayOff, Cond.code yX10_doPayOff cX10_doPayOff 4 (some .int), Cond.methodLink RL 69 yX9_set, Cond.instanceMethod yX9_set, Cond.selects RX9 yX9_set yX9_set, Cond.code yX9_set cX9_set 3 (some .int), Cond.methodLink RX9 90 yX0_changeSetting, Cond.instanceMethod yX0_changeSetting, Cond.selects RX0 yX0_changeSetting yX0_changeSetting, Cond.code yX0_changeSetting cX0_changeSetting 4 (some .int), Cond.methodLink RL 72 yX10_set, Cond.instanceMethod yX10_set, Cond.selects RX10 yX10_set yX10_set, Cond.code yX10_set cX10_set 4 (some .int), Cond.methodLink RL 73 yX9_sailor, Cond.instanceMethod yX9_sailor, Cond.selects RX9 yX9_sailor yX9_sailor, Cond.code yX9_sailor cX9_sailor 4 (some .int), Cond.constant RX9 97 (-1000001), Cond.methodLink RX9 93 yX0_findSailor, Cond.methodLink RX9 98 yX6_tell]
def wsL_law_r28 : List Cond := [Cond.instanceMethod yX6_tell, Cond.selects RX6 yX6_tell yX6_tell, Cond.code yX6_tell cX6_tell 2 (some .int), Cond.constant RX6 64 (-1000001), Cond.methodLink RX6 61 yX6_earned, Cond.instanceMethod yX6_earned, Cond.selects RX6 yX6_earned yX6_earned, Cond.code yX6_earned cX6_earned 1 (some .int), Cond.methodLink RL 76 yX10_sailor, Cond.instanceMethod yX10_sailor, Cond.selects RX10 yX10_sailor yX10_sailor, Cond.code yX10_sailor cX10_sailor 3 (some .int), Cond.methodLink RL 77 yX9_item, Cond.instanceMethod yX9_item, Cond.selects RX9 yX9_item yX9_item, Cond.code yX9_item cX9_item 4 (some .int), Cond.methodLink RX9 103 yX0_findItem, Cond.methodLink RX9 107 yX3_tell, Cond.instanceMethod yX3_tell, Cond.selects RX3 yX3_tell yX3_tell, Cond.code yX3_tell cX3_tell 2 (some .int), Cond.constant RX3 27 (-1000001), Cond.methodLink RL 80 yX10_item, Cond.instanceMethod yX10_item]
def wsL_law_r29 : List Cond := [Cond.selects RX10 yX10_item yX10_item, Cond.code yX10_item cX10_item 3 (some .int), Cond.methodLink RL 81 yX9_book, Cond.instanceMethod yX9_book, Cond.selects RX9 yX9_book yX9_book, Cond.code yX9_book cX9_book 3 (some .int), Cond.fieldLink RX9 110 "PurserLedgers$Books" "entries" "LPurserLedgers$Entries;", Cond.methodLink RX9 114 yX1_tell, Cond.instanceMethod yX1_tell, Cond.selects RX1 yX1_tell yX1_tell, Cond.code yX1_tell cX1_tell 3 (some .int), Cond.constant RX1 37 (-1000001), Cond.constant RX1 38 (-1000004), Cond.methodLink RX1 39 yX1_numberAt, Cond.static yX1_numberAt, Cond.code yX1_numberAt cX1_numberAt 2 (some .int), Cond.methodLink RL 84 yX10_book, Cond.instanceMethod yX10_book, Cond.selects RX10 yX10_book yX10_book, Cond.code yX10_book cX10_book 3 (some .int), Cond.constant RX10 182 (-1000004), Cond.methodLink RL 85 yX9_why, Cond.instanceMethod yX9_why, Cond.selects RX9 yX9_why yX9_why]
def wsL_law_r30 : List Cond := [Cond.code yX9_why cX9_why 4 (some .int), Cond.methodLink RX9 118 yX0_reasonNotToSell, Cond.instanceMethod yX0_reasonNotToSell, Cond.selects RX0 yX0_reasonNotToSell yX0_reasonNotToSell, Cond.code yX0_reasonNotToSell cX0_reasonNotToSell 6 (some .int), Cond.methodLink RL 88 yX10_why, Cond.instanceMethod yX10_why, Cond.selects RX10 yX10_why yX10_why, Cond.code yX10_why cX10_why 4 (some .int), Cond.methodLink RL 89 yX9_most, Cond.instanceMethod yX9_most, Cond.selects RX9 yX9_most yX9_most, Cond.code yX9_most cX9_most 3 (some .int), Cond.methodLink RX9 121 yX0_couldBuy, Cond.instanceMethod yX0_couldBuy, Cond.selects RX0 yX0_couldBuy yX0_couldBuy, Cond.code yX0_couldBuy cX0_couldBuy 6 (some .int), Cond.methodLink RX0 143 Lib.Math.min.name, Cond.static Lib.Math.min.name, Cond.initialized "java/lang/Math", Cond.code Lib.Math.min.name Lib.Math.min.code 2 (some .int), Cond.methodLink RL 92 yX10_most, Cond.instanceMethod yX10_most, Cond.selects RX10 yX10_most yX10_most]
def wsL_law_r31 : List Cond := [Cond.code yX10_most cX10_most 4 (some .int), Cond.methodLink RL 93 yX9_clearIn, Cond.instanceMethod yX9_clearIn, Cond.selects RX9 yX9_clearIn yX9_clearIn, Cond.code yX9_clearIn cX9_clearIn 2 (some .int), Cond.methodLink RX9 124 yX0_daysUntilClear, Cond.instanceMethod yX0_daysUntilClear, Cond.selects RX0 yX0_daysUntilClear yX0_daysUntilClear, Cond.code yX0_daysUntilClear cX0_daysUntilClear 5 (some .int), Cond.fieldLink RX0 209 "PurserLedgers$Sailor" "debt" "I", Cond.constant RX0 218 (-1000004), Cond.methodLink RX0 212 yX6_charged, Cond.methodLink RX0 214 yX6_earnedAfter, Cond.instanceMethod yX6_earnedAfter, Cond.selects RX6 yX6_earnedAfter yX6_earnedAfter, Cond.code yX6_earnedAfter cX6_earnedAfter 3 (some .int), Cond.methodLink RL 96 yX10_clearIn, Cond.instanceMethod yX10_clearIn, Cond.selects RX10 yX10_clearIn yX10_clearIn, Cond.code yX10_clearIn cX10_clearIn 7 (some .int), Cond.methodLink RL 97 yX9_ifPaidOff, Cond.instanceMethod yX9_ifPaidOff, Cond.selects RX9 yX9_ifPaidOff yX9_ifPaidOff, Cond.code yX9_ifPaidOff cX9_ifPaidOff 2 (some .int)]
def wsL_law_r32 : List Cond := [Cond.methodLink RX9 127 yX0_tellPayingOff, Cond.instanceMethod yX0_tellPayingOff, Cond.selects RX0 yX0_tellPayingOff yX0_tellPayingOff, Cond.code yX0_tellPayingOff cX0_tellPayingOff 2 (some .int), Cond.methodLink RX0 219 yX0_wouldBePaid, Cond.instanceMethod yX0_wouldBePaid, Cond.selects RX0 yX0_wouldBePaid yX0_wouldBePaid, Cond.code yX0_wouldBePaid cX0_wouldBePaid 3 (some .int), Cond.methodLink RX0 231 Lib.Math.max.name, Cond.static Lib.Math.max.name, Cond.code Lib.Math.max.name Lib.Math.max.code 2 (some .int), Cond.methodLink RX0 222 yX8_missingFor, Cond.methodLink RX0 225 yX0_debtsTogether, Cond.instanceMethod yX0_debtsTogether, Cond.selects RX0 yX0_debtsTogether yX0_debtsTogether, Cond.code yX0_debtsTogether cX0_debtsTogether 3 (some .int), Cond.methodLink RX0 228 yX0_setOfDebtors, Cond.instanceMethod yX0_setOfDebtors, Cond.selects RX0 yX0_setOfDebtors yX0_setOfDebtors, Cond.code yX0_setOfDebtors cX0_setOfDebtors 3 (some .int), Cond.methodLink RL 100 yX10_ifPaidOff, Cond.instanceMethod yX10_ifPaidOff, Cond.selects RX10 yX10_ifPaidOff yX10_ifPaidOff, Cond.code yX10_ifPaidOff cX10_ifPaidOff 7 (some .int)]
def wsL_law_r33 : List Cond := [Cond.methodLink RL 101 yX9_poorest, Cond.instanceMethod yX9_poorest, Cond.selects RX9 yX9_poorest yX9_poorest, Cond.code yX9_poorest cX9_poorest 2 (some .int), Cond.methodLink RX9 130 yX0_sailorByBalance, Cond.instanceMethod yX0_sailorByBalance, Cond.selects RX0 yX0_sailorByBalance yX0_sailorByBalance, Cond.code yX0_sailorByBalance cX0_sailorByBalance 3 (some .int), Cond.methodLink RX0 234 yX0_poorerThan, Cond.instanceMethod yX0_poorerThan, Cond.selects RX0 yX0_poorerThan yX0_poorerThan, Cond.code yX0_poorerThan cX0_poorerThan 6 (some .int), Cond.methodLink RL 104 yX10_poorest, Cond.instanceMethod yX10_poorest, Cond.selects RX10 yX10_poorest yX10_poorest, Cond.code yX10_poorest cX10_poorest 7 (some .int), Cond.methodLink RL 105 yX9_share, Cond.instanceMethod yX9_share, Cond.selects RX9 yX9_share yX9_share, Cond.code yX9_share cX9_share 1 (some .int), Cond.methodLink RX9 133 yX0_chargedShare, Cond.instanceMethod yX0_chargedShare, Cond.selects RX0 yX0_chargedShare yX0_chargedShare, Cond.code yX0_chargedShare cX0_chargedShare 4 (some .int)]
def wsL_law_r34 : List Cond := [Cond.methodLink RX0 237 yX6_earned, Cond.static yX9_bitsOf, Cond.code yX9_bitsOf cX9_bitsOf 4 (some .int), Cond.constantFloat RX9 180 (1258291200), Cond.methodLink RL 108 yX10_share, Cond.instanceMethod yX10_share, Cond.selects RX10 yX10_share yX10_share, Cond.code yX10_share cX10_share 4 (some .int), Cond.methodLink RX10 183 yJxf58ca_floatToIntBits_5c35a, Cond.static yJxf58ca_floatToIntBits_5c35a, Cond.initialized RJxf58ca, Cond.code yJxf58ca_floatToIntBits_5c35a cJxf58ca_floatToIntBits_5c35a 1 (some .int), Cond.methodLink RJxf58ca 74 ⟨"java/lang/Float", "floatToRawIntBits", "(F)I"⟩, Cond.native ⟨"java/lang/Float", "floatToRawIntBits", "(F)I"⟩, Cond.static ⟨"java/lang/Float", "floatToRawIntBits", "(F)I"⟩, Cond.initialized "java/lang/Float", Cond.constant RJxf58ca 77 (2143289344), Cond.methodLink RJxf58ca 59 yJxf58ca_isNaN_12338, Cond.static yJxf58ca_isNaN_12338, Cond.code yJxf58ca_isNaN_12338 cJxf58ca_isNaN_12338 1 (some .boolean), Cond.methodLink RL 109 yX9_count, Cond.instanceMethod yX9_count, Cond.selects RX9 yX9_count yX9_count, Cond.code yX9_count cX9_count 2 (some .int)]
def wsL_law_r35 : List Cond := [Cond.fieldLink RX9 136 "PurserLedgers$History" "kept" "I", Cond.fieldLink RX9 140 "PurserLedgers$Text" "length" "I", Cond.methodLink RX9 143 yX0_tell, Cond.instanceMethod yX0_tell, Cond.selects RX0 yX0_tell yX0_tell, Cond.code yX0_tell cX0_tell 2 (some .int), Cond.fieldLink RX0 244 "PurserLedgers$Entries" "kept" "I", Cond.methodLink RX0 247 yX0_tellCoins, Cond.instanceMethod yX0_tellCoins, Cond.selects RX0 yX0_tellCoins yX0_tellCoins, Cond.code yX0_tellCoins cX0_tellCoins 2 (some .int), Cond.fieldLink RX0 250 "PurserLedgers$Totals" "drawn" "I", Cond.constant RX0 253 (100000), Cond.methodLink RL 112 yX10_count, Cond.instanceMethod yX10_count, Cond.selects RX10 yX10_count yX10_count, Cond.code yX10_count cX10_count 2 (some .int), Cond.constant RX10 189 (100000), Cond.fieldLink RX10 190 "PurserLedgersModel" "length" "I", Cond.methodLink RL 113 yX9_undo, Cond.instanceMethod yX9_undo, Cond.selects RX9 yX9_undo yX9_undo, Cond.code yX9_undo cX9_undo 1 (some .int), Cond.methodLink RX9 144 yX2_restoreInto]
def wsL_law_r36 : List Cond := [Cond.instanceMethod yX2_restoreInto, Cond.selects RX2 yX2_restoreInto yX2_restoreInto, Cond.code yX2_restoreInto cX2_restoreInto 5 (some .int), Cond.constant RX2 26 (-1000002), Cond.methodLink RL 116 yX10_undo, Cond.instanceMethod yX10_undo, Cond.selects RX10 yX10_undo yX10_undo, Cond.code yX10_undo cX10_undo 2 (some .int), Cond.methodLink RL 117 yX9_type, Cond.instanceMethod yX9_type, Cond.selects RX9 yX9_type yX9_type, Cond.code yX9_type cX9_type 2 (some .int), Cond.methodLink RX9 148 yX7_append, Cond.instanceMethod yX7_append, Cond.selects RX7 yX7_append yX7_append, Cond.code yX7_append cX7_append 2 (some .int), Cond.constant RX7 19 (-1000001), Cond.fieldLink RX7 20 "PurserLedgers$Text" "length" "I", Cond.constant RX7 24 (-1000003), Cond.methodLink RL 120 yX10_type, Cond.instanceMethod yX10_type, Cond.selects RX10 yX10_type yX10_type, Cond.code yX10_type cX10_type 2 (some .int), Cond.methodLink RL 121 yX9_clearText]
def wsL_law_r37 : List Cond := [Cond.instanceMethod yX9_clearText, Cond.selects RX9 yX9_clearText yX9_clearText, Cond.code yX9_clearText cX9_clearText 1 (some .int), Cond.methodLink RX9 151 yX7_empty, Cond.instanceMethod yX7_empty, Cond.selects RX7 yX7_empty yX7_empty, Cond.code yX7_empty cX7_empty 2 (some .int), Cond.methodLink RL 124 yX10_clearText, Cond.instanceMethod yX10_clearText, Cond.selects RX10 yX10_clearText yX10_clearText, Cond.code yX10_clearText cX10_clearText 2 (some .int), Cond.methodLink RL 125 yX9_fault, Cond.instanceMethod yX9_fault, Cond.selects RX9 yX9_fault yX9_fault, Cond.code yX9_fault cX9_fault 2 (some .int), Cond.methodLink RX9 154 yX9_within, Cond.methodLink RX9 158 yX5_runThrough, Cond.instanceMethod yX5_runThrough, Cond.selects RX5 yX5_runThrough yX5_runThrough, Cond.code yX5_runThrough cX5_runThrough 5 none, Cond.fieldLink RX5 18 "PurserLedgers$Rehearsal" "done" "I", Cond.fieldLink RX5 22 "PurserLedgers$Rehearsal" "position" "I", Cond.fieldLink RX5 25 "PurserLedgers$Rehearsal" "reason" "I", Cond.fieldLink RX5 28 "PurserLedgers$Rehearsal" "cause" "I"]
def wsL_law_r38 : List Cond := [Cond.fieldLink RX5 31 "PurserLedgers$Text" "length" "I", Cond.fieldLink RX5 40 "PurserLedgers$Order" "place" "I", Cond.methodLink RX5 36 yX4_readFrom, Cond.instanceMethod yX4_readFrom, Cond.selects RX4 yX4_readFrom yX4_readFrom, Cond.code yX4_readFrom cX4_readFrom 6 (some .boolean), Cond.fieldLink RX4 15 "PurserLedgers$Order" "place" "I", Cond.fieldLink RX4 25 "PurserLedgers$Order" "letter" "I", Cond.methodLink RX4 19 yX7_at, Cond.instanceMethod yX7_at, Cond.selects RX7 yX7_at yX7_at, Cond.code yX7_at cX7_at 2 (some .int), Cond.methodLink RX4 28 yX4_numbersOf, Cond.static yX4_numbersOf, Cond.code yX4_numbersOf cX4_numbersOf 1 (some .int), Cond.methodLink RX4 31 yX4_readSign, Cond.instanceMethod yX4_readSign, Cond.selects RX4 yX4_readSign yX4_readSign, Cond.code yX4_readSign cX4_readSign 3 (some .boolean), Cond.methodLink RX4 35 yX4_readNumber, Cond.instanceMethod yX4_readNumber, Cond.selects RX4 yX4_readNumber yX4_readNumber, Cond.code yX4_readNumber cX4_readNumber 4 (some .int), Cond.methodLink RX4 43 Lib.Math.max.name]
def wsL_law_r39 : List Cond := [Cond.methodLink RX5 43 yX4_carryOut, Cond.instanceMethod yX4_carryOut, Cond.selects RX4 yX4_carryOut yX4_carryOut, Cond.code yX4_carryOut cX4_carryOut 2 (some .int), Cond.methodLink RX4 49 yX4_number, Cond.instanceMethod yX4_number, Cond.selects RX4 yX4_number yX4_number, Cond.code yX4_number cX4_number 2 (some .int), Cond.methodLink RX4 52 yX0_signOn, Cond.methodLink RX4 57 yX0_buyForChest, Cond.methodLink RX4 61 yX0_sellFromChest, Cond.methodLink RX4 64 yX0_advanceTo, Cond.methodLink RX4 67 yX0_fineOne, Cond.methodLink RX4 70 yX0_passDays, Cond.methodLink RX4 73 yX0_letAshore, Cond.methodLink RX4 76 yX0_comeBack, Cond.methodLink RX4 79 yX0_putToSea, Cond.methodLink RX4 83 yX0_comeIntoPort, Cond.methodLink RX4 86 yX0_endVoyage, Cond.methodLink RX9 162 yX5_tellFault, Cond.instanceMethod yX5_tellFault, Cond.selects RX5 yX5_tellFault yX5_tellFault, Cond.code yX5_tellFault cX5_tellFault 2 (some .int), Cond.constant RX5 51 (-1000004)]
def wsL_law_r40 : List Cond := [Cond.methodLink RX5 47 yX5_isFaulty, Cond.instanceMethod yX5_isFaulty, Cond.selects RX5 yX5_isFaulty yX5_isFaulty, Cond.code yX5_isFaulty cX5_isFaulty 1 (some .boolean), Cond.methodLink RL 128 yX10_fault, Cond.instanceMethod yX10_fault, Cond.selects RX10 yX10_fault yX10_fault, Cond.code yX10_fault cX10_fault 3 (some .int), Cond.fieldLink RX10 217 "PurserLedgersModel" "position" "I", Cond.fieldLink RX10 220 "PurserLedgersModel" "reason" "I", Cond.fieldLink RX10 214 "PurserLedgersModel" "cause" "I", Cond.methodLink RX10 226 yX10_putAside, Cond.instanceMethod yX10_putAside, Cond.selects RX10 yX10_putAside yX10_putAside, Cond.code yX10_putAside cX10_putAside 2 none, Cond.methodLink RX10 229 yX10_doText, Cond.instanceMethod yX10_doText, Cond.selects RX10 yX10_doText yX10_doText, Cond.code yX10_doText cX10_doText 3 (some .boolean), Cond.fieldLink RX10 205 "PurserLedgersModel" "orders" "I", Cond.fieldLink RX10 202 "PurserLedgersModel" "broken" "I", Cond.methodLink RX10 208 yX10_readOrder, Cond.instanceMethod yX10_readOrder, Cond.selects RX10 yX10_readOrder yX10_readOrder]
def wsL_law_r41 : List Cond := [Cond.code yX10_readOrder cX10_readOrder 6 (some .int), Cond.fieldLink RX10 196 "PurserLedgersModel" "letter" "I", Cond.methodLink RX10 193 yX10_at, Cond.instanceMethod yX10_at, Cond.selects RX10 yX10_at yX10_at, Cond.code yX10_at cX10_at 2 (some .int), Cond.methodLink RX10 199 yX10_numbers, Cond.static yX10_numbers, Cond.code yX10_numbers cX10_numbers 1 (some .int), Cond.methodLink RX10 211 yX10_noOrder, Cond.instanceMethod yX10_noOrder, Cond.selects RX10 yX10_noOrder yX10_noOrder, Cond.code yX10_noOrder cX10_noOrder 1 (some .int), Cond.methodLink RX10 223 yX10_doOrder, Cond.instanceMethod yX10_doOrder, Cond.selects RX10 yX10_doOrder yX10_doOrder, Cond.code yX10_doOrder cX10_doOrder 1 (some .int), Cond.methodLink RX10 232 yX10_putBack, Cond.instanceMethod yX10_putBack, Cond.selects RX10 yX10_putBack yX10_putBack, Cond.code yX10_putBack cX10_putBack 2 none, Cond.methodLink RL 129 yX9_play, Cond.instanceMethod yX9_play, Cond.selects RX9 yX9_play yX9_play]
def wsL_law_r42 : List Cond := [Cond.code yX9_play cX9_play 1 (some .int), Cond.constant RX9 169 (-1000002), Cond.fieldLink RX9 170 "PurserLedgers$Rehearsal" "done" "I", Cond.methodLink RX9 165 yX5_isFaulty, Cond.methodLink RL 132 yX10_play, Cond.instanceMethod yX10_play, Cond.selects RX10 yX10_play yX10_play, Cond.code yX10_play cX10_play 1 (some .int)]
def wsL_law : List Cond := (wsL_law_r1 ++ (wsL_law_r2 ++ (wsL_law_r3 ++ (wsL_law_r4 ++ (wsL_law_r5 ++ (wsL_law_r6 ++ (wsL_law_r7 ++ (wsL_law_r8 ++ (wsL_law_r9 ++ (wsL_law_r10 ++ (wsL_law_r11 ++ (wsL_law_r12 ++ (wsL_law_r13 ++ (wsL_law_r14 ++ (wsL_law_r15 ++ (wsL_law_r16 ++ (wsL_law_r17 ++ (wsL_law_r18 ++ (wsL_law_r19 ++ (wsL_law_r20 ++ (wsL_law_r21 ++ (wsL_law_r22 ++ (wsL_law_r23 ++ (wsL_law_r24 ++ (wsL_law_r25 ++ (wsL_law_r26 ++ (wsL_law_r27 ++ (wsL_law_r28 ++ (wsL_law_r29 ++ (wsL_law_r30 ++ (wsL_law_r31 ++ (wsL_law_r32 ++ (wsL_law_r33 ++ (wsL_law_r34 ++ (wsL_law_r35 ++ (wsL_law_r36 ++ (wsL_law_r37 ++ (wsL_law_r38 ++ (wsL_law_r39 ++ (wsL_law_r40 ++ (wsL_law_r41 ++ wsL_law_r42))))))))))))))))))))))))))))))))))))))))) ++ wsX90 ++ wsX100 ++ wsX00 ++ wsX20 ++ wsX70 ++ wsX50 ++ wsX60 ++ wsX30 ++ wsX10 ++ wsX80 ++ wsX40 ++ ([] : List Cond)
theorem inlX0 : ∀ w ∈ wsX00, w ∈ wsL_law := fun _ h => List.mem_append_left _ (List.mem_append_left _ (List.mem_append_left _ (List.mem_append_left _ (List.mem_append_left _ (List.mem_append_left _ (List.mem_append_left _ (List.mem_append_left _ (List.mem_append_left _ (List.mem_append_right _ h)))))))))
theorem inlX1 : ∀ w ∈ wsX10, w ∈ wsL_law := fun _ h => List.mem_append_left _ (List.mem_append_left _ (List.mem_append_left _ (List.mem_append_right _ h)))
theorem inlX2 : ∀ w ∈ wsX20, w ∈ wsL_law := fun _ h => List.mem_append_left _ (List.mem_append_left _ (List.mem_append_left _ (List.mem_append_left _ (List.mem_append_left _ (List.mem_append_left _ (List.mem_append_left _ (List.mem_append_left _ (List.mem_append_right _ h))))))))
theorem inlX3 : ∀ w ∈ wsX30, w ∈ wsL_law := fun _ h => List.mem_append_left _ (List.mem_append_left _ (List.mem_append_left _ (List.mem_append_left _ (List.mem_append_right _ h))))
theorem inlX4 : ∀ w ∈ wsX40, w ∈ wsL_law := fun _ h => List.mem_append_left _ (List.mem_append_right _ h)
theorem inlX5 : ∀ w ∈ wsX50, w ∈ wsL_law := fun _ h => List.mem_append_left _ (List.mem_append_left _ (List.mem_append_left _ (List.mem_append_left _ (List.mem_append_left _ (List.mem_append_left _ (List.mem_append_right _ h))))))
theorem inlX6 : ∀ w ∈ wsX60, w ∈ wsL_law := fun _ h => List.mem_append_left _ (List.mem_append_left _ (List.mem_append_left _ (List.mem_append_left _ (List.mem_append_left _ (List.mem_append_right _ h)))))
theorem inlX7 : ∀ w ∈ wsX70, w ∈ wsL_law := fun _ h => List.mem_append_left _ (List.mem_append_left _ (List.mem_append_left _ (List.mem_append_left _ (List.mem_append_left _ (List.mem_append_left _ (List.mem_append_left _ (List.mem_append_right _ h)))))))
theorem inlX8 : ∀ w ∈ wsX80, w ∈ wsL_law := fun _ h => List.mem_append_left _ (List.mem_append_left _ (List.mem_append_right _ h))
theorem inlX9 : ∀ w ∈ wsX90, w ∈ wsL_law := fun _ h => List.mem_append_left _ (List.mem_append_left _ (List.mem_append_left _ (List.mem_append_left _ (List.mem_append_left _ (List.mem_append_left _ (List.mem_append_left _ (List.mem_append_left _ (List.mem_append_left _ (List.mem_append_left _ (List.mem_append_left _ (List.mem_append_right _ h)))))))))))
theorem inlX10 : ∀ w ∈ wsX100, w ∈ wsL_law := fun _ h => List.mem_append_left _ (List.mem_append_left _ (List.mem_append_left _ (List.mem_append_left _ (List.mem_append_left _ (List.mem_append_left _ (List.mem_append_left _ (List.mem_append_left _ (List.mem_append_left _ (List.mem_append_left _ (List.mem_append_right _ h))))))))))
theorem in_r1 : ∀ w ∈ wsL_law_r1, w ∈ wsL_law := fun _ h => (List.mem_append_left _ (List.mem_append_left _ (List.mem_append_left _ (List.mem_append_left _ (List.mem_append_left _ (List.mem_append_left _ (List.mem_append_left _ (List.mem_append_left _ (List.mem_append_left _ (List.mem_append_left _ (List.mem_append_left _ (List.mem_append_left _ (List.mem_append_left _ h)))))))))))))
theorem in_r2 : ∀ w ∈ wsL_law_r2, w ∈ wsL_law := fun _ h => (List.mem_append_left _ (List.mem_append_left _ (List.mem_append_left _ (List.mem_append_left _ (List.mem_append_left _ (List.mem_append_left _ (List.mem_append_left _ (List.mem_append_left _ (List.mem_append_left _ (List.mem_append_left _ (List.mem_append_left _ (List.mem_append_left _ (List.mem_append_right _ (List.mem_append_left _ h))))))))))))))
theorem in_r3 : ∀ w ∈ wsL_law_r3, w ∈ wsL_law := fun _ h => (List.mem_append_left _ (List.mem_append_left _ (List.mem_append_left _ (List.mem_append_left _ (List.mem_append_left _ (List.mem_append_left _ (List.mem_append_left _ (List.mem_append_left _ (List.mem_append_left _ (List.mem_append_left _ (List.mem_append_left _ (List.mem_append_left _ (List.mem_append_right _ (List.mem_append_right _ (List.mem_append_left _ h)))))))))))))))
theorem in_r4 : ∀ w ∈ wsL_law_r4, w ∈ wsL_law := fun _ h => (List.mem_append_left _ (List.mem_append_left _ (List.mem_append_left _ (List.mem_append_left _ (List.mem_append_left _ (List.mem_append_left _ (List.mem_append_left _ (List.mem_append_left _ (List.mem_append_left _ (List.mem_append_left _ (List.mem_append_left _ (List.mem_append_left _ (List.mem_append_right _ (List.mem_append_right _ (List.mem_append_right _ (List.mem_append_left _ h))))))))))))))))
theorem in_r5 : ∀ w ∈ wsL_law_r5, w ∈ wsL_law := fun _ h => (List.mem_append_left _ (List.mem_append_left _ (List.mem_append_left _ (List.mem_append_left _ (List.mem_append_left _ (List.mem_append_left _ (List.mem_append_left _ (List.mem_append_left _ (List.mem_append_left _ (List.mem_append_left _ (List.mem_append_left _ (List.mem_append_left _ (List.mem_append_right _ (List.mem_append_right _ (List.mem_append_right _ (List.mem_append_right _ (List.mem_append_left _ h)))))))))))))))))
theorem in_r6 : ∀ w ∈ wsL_law_r6, w ∈ wsL_law := fun _ h => (List.mem_append_left _ (List.mem_append_left _ (List.mem_append_left _ (List.mem_append_left _ (List.mem_append_left _ (List.mem_append_left _ (List.mem_append_left _ (List.mem_append_left _ (List.mem_append_left _ (List.mem_append_left _ (List.mem_append_left _ (List.mem_append_left _ (List.mem_append_right _ (List.mem_append_right _ (List.mem_append_right _ (List.mem_append_right _ (List.mem_append_right _ (List.mem_append_left _ h))))))))))))))))))
theorem in_r7 : ∀ w ∈ wsL_law_r7, w ∈ wsL_law := fun _ h => (List.mem_append_left _ (List.mem_append_left _ (List.mem_append_left _ (List.mem_append_left _ (List.mem_append_left _ (List.mem_append_left _ (List.mem_append_left _ (List.mem_append_left _ (List.mem_append_left _ (List.mem_append_left _ (List.mem_append_left _ (List.mem_append_left _ (List.mem_append_right _ (List.mem_append_right _ (List.mem_append_right _ (List.mem_append_right _ (List.mem_append_right _ (List.mem_append_right _ (List.mem_append_left _ h)))))))))))))))))))
theorem in_r8 : ∀ w ∈ wsL_law_r8, w ∈ wsL_law := fun _ h => (List.mem_append_left _ (List.mem_append_left _ (List.mem_append_left _ (List.mem_append_left _ (List.mem_append_left _ (List.mem_append_left _ (List.mem_append_left _ (List.mem_append_left _ (List.mem_append_left _ (List.mem_append_left _ (List.mem_append_left _ (List.mem_append_left _ (List.mem_append_right _ (List.mem_append_right _ (List.mem_append_right _ (List.mem_append_right _ (List.mem_append_right _ (List.mem_append_right _ (List.mem_append_right _ (List.mem_append_left _ h))))))))))))))))))))
theorem in_r9 : ∀ w ∈ wsL_law_r9, w ∈ wsL_law := fun _ h => (List.mem_append_left _ (List.mem_append_left _ (List.mem_append_left _ (List.mem_append_left _ (List.mem_append_left _ (List.mem_append_left _ (List.mem_append_left _ (List.mem_append_left _ (List.mem_append_left _ (List.mem_append_left _ (List.mem_append_left _ (List.mem_append_left _ (List.mem_append_right _ (List.mem_append_right _ (List.mem_append_right _ (List.mem_append_right _ (List.mem_append_right _ (List.mem_append_right _ (List.mem_append_right _ (List.mem_append_right _ (List.mem_append_left _ h)))))))))))))))))))))
theorem in_r10 : ∀ w ∈ wsL_law_r10, w ∈ wsL_law := fun _ h => (List.mem_append_left _ (List.mem_append_left _ (List.mem_append_left _ (List.mem_append_left _ (List.mem_append_left _ (List.mem_append_left _ (List.mem_append_left _ (List.mem_append_left _ (List.mem_append_left _ (List.mem_append_left _ (List.mem_append_left _ (List.mem_append_left _ (List.mem_append_right _ (List.mem_append_right _ (List.mem_append_right _ (List.mem_append_right _ (List.mem_append_right _ (List.mem_append_right _ (List.mem_append_right _ (List.mem_append_right _ (List.mem_append_right _ (List.mem_append_left _ h))))))))))))))))))))))
theorem in_r11 : ∀ w ∈ wsL_law_r11, w ∈ wsL_law := fun _ h => (List.mem_append_left _ (List.mem_append_left _ (List.mem_append_left _ (List.mem_append_left _ (List.mem_append_left _ (List.mem_append_left _ (List.mem_append_left _ (List.mem_append_left _ (List.mem_append_left _ (List.mem_append_left _ (List.mem_append_left _ (List.mem_append_left _ (List.mem_append_right _ (List.mem_append_right _ (List.mem_append_right _ (List.mem_append_right _ (List.mem_append_right _ (List.mem_append_right _ (List.mem_append_right _ (List.mem_append_right _ (List.mem_append_right _ (List.mem_append_right _ (List.mem_append_left _ h)))))))))))))))))))))))
theorem in_r12 : ∀ w ∈ wsL_law_r12, w ∈ wsL_law := fun _ h => (List.mem_append_left _ (List.mem_append_left _ (List.mem_append_left _ (List.mem_append_left _ (List.mem_append_left _ (List.mem_append_left _ (List.mem_append_left _ (List.mem_append_left _ (List.mem_append_left _ (List.mem_append_left _ (List.mem_append_left _ (List.mem_append_left _ (List.mem_append_right _ (List.mem_append_right _ (List.mem_append_right _ (List.mem_append_right _ (List.mem_append_right _ (List.mem_append_right _ (List.mem_append_right _ (List.mem_append_right _ (List.mem_append_right _ (List.mem_append_right _ (List.mem_append_right _ (List.mem_append_left _ h))))))))))))))))))))))))
theorem in_r13 : ∀ w ∈ wsL_law_r13, w ∈ wsL_law := fun _ h => (List.mem_append_left _ (List.mem_append_left _ (List.mem_append_left _ (List.mem_append_left _ (List.mem_append_left _ (List.mem_append_left _ (List.mem_append_left _ (List.mem_append_left _ (List.mem_append_left _ (List.mem_append_left _ (List.mem_append_left _ (List.mem_append_left _ (List.mem_append_right _ (List.mem_append_right _ (List.mem_append_right _ (List.mem_append_right _ (List.mem_append_right _ (List.mem_append_right _ (List.mem_append_right _ (List.mem_append_right _ (List.mem_append_right _ (List.mem_append_right _ (List.mem_append_right _ (List.mem_append_right _ (List.mem_append_left _ h)))))))))))))))))))))))))
theorem in_r14 : ∀ w ∈ wsL_law_r14, w ∈ wsL_law := fun _ h => (List.mem_append_left _ (List.mem_append_left _ (List.mem_append_left _ (List.mem_append_left _ (List.mem_append_left _ (List.mem_append_left _ (List.mem_append_left _ (List.mem_append_left _ (List.mem_append_left _ (List.mem_append_left _ (List.mem_append_left _ (List.mem_append_left _ (List.mem_append_right _ (List.mem_append_right _ (List.mem_append_right _ (List.mem_append_right _ (List.mem_append_right _ (List.mem_append_right _ (List.mem_append_right _ (List.mem_append_right _ (List.mem_append_right _ (List.mem_append_right _ (List.mem_append_right _ (List.mem_append_right _ (List.mem_append_right _ (List.mem_append_left _ h))))))))))))))))))))))))))
theorem in_r15 : ∀ w ∈ wsL_law_r15, w ∈ wsL_law := fun _ h => (List.mem_append_left _ (List.mem_append_left _ (List.mem_append_left _ (List.mem_append_left _ (List.mem_append_left _ (List.mem_append_left _ (List.mem_append_left _ (List.mem_append_left _ (List.mem_append_left _ (List.mem_append_left _ (List.mem_append_left _ (List.mem_append_left _ (List.mem_append_right _ (List.mem_append_right _ (List.mem_append_right _ (List.mem_append_right _ (List.mem_append_right _ (List.mem_append_right _ (List.mem_append_right _ (List.mem_append_right _ (List.mem_append_right _ (List.mem_append_right _ (List.mem_append_right _ (List.mem_append_right _ (List.mem_append_right _ (List.mem_append_right _ (List.mem_append_left _ h)))))))))))))))))))))))))))
theorem in_r16 : ∀ w ∈ wsL_law_r16, w ∈ wsL_law := fun _ h => (List.mem_append_left _ (List.mem_append_left _ (List.mem_append_left _ (List.mem_append_left _ (List.mem_append_left _ (List.mem_append_left _ (List.mem_append_left _ (List.mem_append_left _ (List.mem_append_left _ (List.mem_append_left _ (List.mem_append_left _ (List.mem_append_left _ (List.mem_append_right _ (List.mem_append_right _ (List.mem_append_right _ (List.mem_append_right _ (List.mem_append_right _ (List.mem_append_right _ (List.mem_append_right _ (List.mem_append_right _ (List.mem_append_right _ (List.mem_append_right _ (List.mem_append_right _ (List.mem_append_right _ (List.mem_append_right _ (List.mem_append_right _ (List.mem_append_right _ (List.mem_append_left _ h))))))))))))))))))))))))))))
theorem in_r17 : ∀ w ∈ wsL_law_r17, w ∈ wsL_law := fun _ h => (List.mem_append_left _ (List.mem_append_left _ (List.mem_append_left _ (List.mem_append_left _ (List.mem_append_left _ (List.mem_append_left _ (List.mem_append_left _ (List.mem_append_left _ (List.mem_append_left _ (List.mem_append_left _ (List.mem_append_left _ (List.mem_append_left _ (List.mem_append_right _ (List.mem_append_right _ (List.mem_append_right _ (List.mem_append_right _ (List.mem_append_right _ (List.mem_append_right _ (List.mem_append_right _ (List.mem_append_right _ (List.mem_append_right _ (List.mem_append_right _ (List.mem_append_right _ (List.mem_append_right _ (List.mem_append_right _ (List.mem_append_right _ (List.mem_append_right _ (List.mem_append_right _ (List.mem_append_left _ h)))))))))))))))))))))))))))))
theorem in_r18 : ∀ w ∈ wsL_law_r18, w ∈ wsL_law := fun _ h => (List.mem_append_left _ (List.mem_append_left _ (List.mem_append_left _ (List.mem_append_left _ (List.mem_append_left _ (List.mem_append_left _ (List.mem_append_left _ (List.mem_append_left _ (List.mem_append_left _ (List.mem_append_left _ (List.mem_append_left _ (List.mem_append_left _ (List.mem_append_right _ (List.mem_append_right _ (List.mem_append_right _ (List.mem_append_right _ (List.mem_append_right _ (List.mem_append_right _ (List.mem_append_right _ (List.mem_append_right _ (List.mem_append_right _ (List.mem_append_right _ (List.mem_append_right _ (List.mem_append_right _ (List.mem_append_right _ (List.mem_append_right _ (List.mem_append_right _ (List.mem_append_right _ (List.mem_append_right _ (List.mem_append_left _ h))))))))))))))))))))))))))))))
theorem in_r19 : ∀ w ∈ wsL_law_r19, w ∈ wsL_law := fun _ h => (List.mem_append_left _ (List.mem_append_left _ (List.mem_append_left _ (List.mem_append_left _ (List.mem_append_left _ (List.mem_append_left _ (List.mem_append_left _ (List.mem_append_left _ (List.mem_append_left _ (List.mem_append_left _ (List.mem_append_left _ (List.mem_append_left _ (List.mem_append_right _ (List.mem_append_right _ (List.mem_append_right _ (List.mem_append_right _ (List.mem_append_right _ (List.mem_append_right _ (List.mem_append_right _ (List.mem_append_right _ (List.mem_append_right _ (List.mem_append_right _ (List.mem_append_right _ (List.mem_append_right _ (List.mem_append_right _ (List.mem_append_right _ (List.mem_append_right _ (List.mem_append_right _ (List.mem_append_right _ (List.mem_append_right _ (List.mem_append_left _ h)))))))))))))))))))))))))))))))
theorem in_r20 : ∀ w ∈ wsL_law_r20, w ∈ wsL_law := fun _ h => (List.mem_append_left _ (List.mem_append_left _ (List.mem_append_left _ (List.mem_append_left _ (List.mem_append_left _ (List.mem_append_left _ (List.mem_append_left _ (List.mem_append_left _ (List.mem_append_left _ (List.mem_append_left _ (List.mem_append_left _ (List.mem_append_left _ (List.mem_append_right _ (List.mem_append_right _ (List.mem_append_right _ (List.mem_append_right _ (List.mem_append_right _ (List.mem_append_right _ (List.mem_append_right _ (List.mem_append_right _ (List.mem_append_right _ (List.mem_append_right _ (List.mem_append_right _ (List.mem_append_right _ (List.mem_append_right _ (List.mem_append_right _ (List.mem_append_right _ (List.mem_append_right _ (List.mem_append_right _ (List.mem_append_right _ (List.mem_append_right _ (List.mem_append_left _ h))))))))))))))))))))))))))))))))
theorem in_r21 : ∀ w ∈ wsL_law_r21, w ∈ wsL_law := fun _ h => (List.mem_append_left _ (List.mem_append_left _ (List.mem_append_left _ (List.mem_append_left _ (List.mem_append_left _ (List.mem_append_left _ (List.mem_append_left _ (List.mem_append_left _ (List.mem_append_left _ (List.mem_append_left _ (List.mem_append_left _ (List.mem_append_left _ (List.mem_append_right _ (List.mem_append_right _ (List.mem_append_right _ (List.mem_append_right _ (List.mem_append_right _ (List.mem_append_right _ (List.mem_append_right _ (List.mem_append_right _ (List.mem_append_right _ (List.mem_append_right _ (List.mem_append_right _ (List.mem_append_right _ (List.mem_append_right _ (List.mem_append_right _ (List.mem_append_right _ (List.mem_append_right _ (List.mem_append_right _ (List.mem_append_right _ (List.mem_append_right _ (List.mem_append_right _ (List.mem_append_left _ h)))))))))))))))))))))))))))))))))
theorem in_r22 : ∀ w ∈ wsL_law_r22, w ∈ wsL_law := fun _ h => (List.mem_append_left _ (List.mem_append_left _ (List.mem_append_left _ (List.mem_append_left _ (List.mem_append_left _ (List.mem_append_left _ (List.mem_append_left _ (List.mem_append_left _ (List.mem_append_left _ (List.mem_append_left _ (List.mem_append_left _ (List.mem_append_left _ (List.mem_append_right _ (List.mem_append_right _ (List.mem_append_right _ (List.mem_append_right _ (List.mem_append_right _ (List.mem_append_right _ (List.mem_append_right _ (List.mem_append_right _ (List.mem_append_right _ (List.mem_append_right _ (List.mem_append_right _ (List.mem_append_right _ (List.mem_append_right _ (List.mem_append_right _ (List.mem_append_right _ (List.mem_append_right _ (List.mem_append_right _ (List.mem_append_right _ (List.mem_append_right _ (List.mem_append_right _ (List.mem_append_right _ (List.mem_append_left _ h))))))))))))))))))))))))))))))))))
theorem in_r23 : ∀ w ∈ wsL_law_r23, w ∈ wsL_law := fun _ h => (List.mem_append_left _ (List.mem_append_left _ (List.mem_append_left _ (List.mem_append_left _ (List.mem_append_left _ (List.mem_append_left _ (List.mem_append_left _ (List.mem_append_left _ (List.mem_append_left _ (List.mem_append_left _ (List.mem_append_left _ (List.mem_append_left _ (List.mem_append_right _ (List.mem_append_right _ (List.mem_append_right _ (List.mem_append_right _ (List.mem_append_right _ (List.mem_append_right _ (List.mem_append_right _ (List.mem_append_right _ (List.mem_append_right _ (List.mem_append_right _ (List.mem_append_right _ (List.mem_append_right _ (List.mem_append_right _ (List.mem_append_right _ (List.mem_append_right _ (List.mem_append_right _ (List.mem_append_right _ (List.mem_append_right _ (List.mem_append_right _ (List.mem_append_right _ (List.mem_append_right _ (List.mem_append_right _ (List.mem_append_left _ h)))))))))))))))))))))))))))))))))))
theorem in_r24 : ∀ w ∈ wsL_law_r24, w ∈ wsL_law := fun _ h => (List.mem_append_left _ (List.mem_append_left _ (List.mem_append_left _ (List.mem_append_left _ (List.mem_append_left _ (List.mem_append_left _ (List.mem_append_left _ (List.mem_append_left _ (List.mem_append_left _ (List.mem_append_left _ (List.mem_append_left _ (List.mem_append_left _ (List.mem_append_right _ (List.mem_append_right _ (List.mem_append_right _ (List.mem_append_right _ (List.mem_append_right _ (List.mem_append_right _ (List.mem_append_right _ (List.mem_append_right _ (List.mem_append_right _ (List.mem_append_right _ (List.mem_append_right _ (List.mem_append_right _ (List.mem_append_right _ (List.mem_append_right _ (List.mem_append_right _ (List.mem_append_right _ (List.mem_append_right _ (List.mem_append_right _ (List.mem_append_right _ (List.mem_append_right _ (List.mem_append_right _ (List.mem_append_right _ (List.mem_append_right _ (List.mem_append_left _ h))))))))))))))))))))))))))))))))))))
theorem in_r25 : ∀ w ∈ wsL_law_r25, w ∈ wsL_law := fun _ h => (List.mem_append_left _ (List.mem_append_left _ (List.mem_append_left _ (List.mem_append_left _ (List.mem_append_left _ (List.mem_append_left _ (List.mem_append_left _ (List.mem_append_left _ (List.mem_append_left _ (List.mem_append_left _ (List.mem_append_left _ (List.mem_append_left _ (List.mem_append_right _ (List.mem_append_right _ (List.mem_append_right _ (List.mem_append_right _ (List.mem_append_right _ (List.mem_append_right _ (List.mem_append_right _ (List.mem_append_right _ (List.mem_append_right _ (List.mem_append_right _ (List.mem_append_right _ (List.mem_append_right _ (List.mem_append_right _ (List.mem_append_right _ (List.mem_append_right _ (List.mem_append_right _ (List.mem_append_right _ (List.mem_append_right _ (List.mem_append_right _ (List.mem_append_right _ (List.mem_append_right _ (List.mem_append_right _ (List.mem_append_right _ (List.mem_append_right _ (List.mem_append_left _ h)))))))))))))))))))))))))))))))))))))
theorem in_r26 : ∀ w ∈ wsL_law_r26, w ∈ wsL_law := fun _ h => (List.mem_append_left _ (List.mem_append_left _ (List.mem_append_left _ (List.mem_append_left _ (List.mem_append_left _ (List.mem_append_left _ (List.mem_append_left _ (List.mem_append_left _ (List.mem_append_left _ (List.mem_append_left _ (List.mem_append_left _ (List.mem_append_left _ (List.mem_append_right _ (List.mem_append_right _ (List.mem_append_right _ (List.mem_append_right _ (List.mem_append_right _ (List.mem_append_right _ (List.mem_append_right _ (List.mem_append_right _ (List.mem_append_right _ (List.mem_append_right _ (List.mem_append_right _ (List.mem_append_right _ (List.mem_append_right _ (List.mem_append_right _ (List.mem_append_right _ (List.mem_append_right _ (List.mem_append_right _ (List.mem_append_right _ (List.mem_append_right _ (List.mem_append_right _ (List.mem_append_right _ (List.mem_append_right _ (List.mem_append_right _ (List.mem_append_right _ (List.mem_append_right _ (List.mem_append_left _ h))))))))))))))))))))))))))))))))))))))
theorem in_r27 : ∀ w ∈ wsL_law_r27, w ∈ wsL_law := fun _ h => (List.mem_append_left _ (List.mem_append_left _ (List.mem_append_left _ (List.mem_append_left _ (List.mem_append_left _ (List.mem_append_left _ (List.mem_append_left _ (List.mem_append_left _ (List.mem_append_left _ (List.mem_append_left _ (List.mem_append_left _ (List.mem_append_left _ (List.mem_append_right _ (List.mem_append_right _ (List.mem_append_right _ (List.mem_append_right _ (List.mem_append_right _ (List.mem_append_right _ (List.mem_append_right _ (List.mem_append_right _ (List.mem_append_right _ (List.mem_append_right _ (List.mem_append_right _ (List.mem_append_right _ (List.mem_append_right _ (List.mem_append_right _ (List.mem_append_right _ (List.mem_append_right _ (List.mem_append_right _ (List.mem_append_right _ (List.mem_append_right _ (List.mem_append_right _ (List.mem_append_right _ (List.mem_append_right _ (List.mem_append_right _ (List.mem_append_right _ (List.mem_append_right _ (List.mem_append_right _ (List.mem_append_left _ h)))))))))))))))))))))))))))))))))))))))
theorem in_r28 : ∀ w ∈ wsL_law_r28, w ∈ wsL_law := fun _ h => (List.mem_append_left _ (List.mem_append_left _ (List.mem_append_left _ (List.mem_append_left _ (List.mem_append_left _ (List.mem_append_left _ (List.mem_append_left _ (List.mem_append_left _ (List.mem_append_left _ (List.mem_append_left _ (List.mem_append_left _ (List.mem_append_left _ (List.mem_append_right _ (List.mem_append_right _ (List.mem_append_right _ (List.mem_append_right _ (List.mem_append_right _ (List.mem_append_right _ (List.mem_append_right _ (List.mem_append_right _ (List.mem_append_right _ (List.mem_append_right _ (List.mem_append_right _ (List.mem_append_right _ (List.mem_append_right _ (List.mem_append_right _ (List.mem_append_right _ (List.mem_append_right _ (List.mem_append_right _ (List.mem_append_right _ (List.mem_append_right _ (List.mem_append_right _ (List.mem_append_right _ (List.mem_append_right _ (List.mem_append_right _ (List.mem_append_right _ (List.mem_append_right _ (List.mem_append_right _ (List.mem_append_right _ (List.mem_append_left _ h))))))))))))))))))))))))))))))))))))))))
theorem in_r29 : ∀ w ∈ wsL_law_r29, w ∈ wsL_law := fun _ h => (List.mem_append_left _ (List.mem_append_left _ (List.mem_append_left _ (List.mem_append_left _ (List.mem_append_left _ (List.mem_append_left _ (List.mem_append_left _ (List.mem_append_left _ (List.mem_append_left _ (List.mem_append_left _ (List.mem_append_left _ (List.mem_append_left _ (List.mem_append_right _ (List.mem_append_right _ (List.mem_append_right _ (List.mem_append_right _ (List.mem_append_right _ (List.mem_append_right _ (List.mem_append_right _ (List.mem_append_right _ (List.mem_append_right _ (List.mem_append_right _ (List.mem_append_right _ (List.mem_append_right _ (List.mem_append_right _ (List.mem_append_right _ (List.mem_append_right _ (List.mem_append_right _ (List.mem_append_right _ (List.mem_append_right _ (List.mem_append_right _ (List.mem_append_right _ (List.mem_append_right _ (List.mem_append_right _ (List.mem_append_right _ (List.mem_append_right _ (List.mem_append_right _ (List.mem_append_right _ (List.mem_append_right _ (List.mem_append_right _ (List.mem_append_left _ h)))))))))))))))))))))))))))))))))))))))))
theorem in_r30 : ∀ w ∈ wsL_law_r30, w ∈ wsL_law := fun _ h => (List.mem_append_left _ (List.mem_append_left _ (List.mem_append_left _ (List.mem_append_left _ (List.mem_append_left _ (List.mem_append_left _ (List.mem_append_left _ (List.mem_append_left _ (List.mem_append_left _ (List.mem_append_left _ (List.mem_append_left _ (List.mem_append_left _ (List.mem_append_right _ (List.mem_append_right _ (List.mem_append_right _ (List.mem_append_right _ (List.mem_append_right _ (List.mem_append_right _ (List.mem_append_right _ (List.mem_append_right _ (List.mem_append_right _ (List.mem_append_right _ (List.mem_append_right _ (List.mem_append_right _ (List.mem_append_right _ (List.mem_append_right _ (List.mem_append_right _ (List.mem_append_right _ (List.mem_append_right _ (List.mem_append_right _ (List.mem_append_right _ (List.mem_append_right _ (List.mem_append_right _ (List.mem_append_right _ (List.mem_append_right _ (List.mem_append_right _ (List.mem_append_right _ (List.mem_append_right _ (List.mem_append_right _ (List.mem_append_right _ (List.mem_append_right _ (List.mem_append_left _ h))))))))))))))))))))))))))))))))))))))))))
theorem in_r31 : ∀ w ∈ wsL_law_r31, w ∈ wsL_law := fun _ h => (List.mem_append_left _ (List.mem_append_left _ (List.mem_append_left _ (List.mem_append_left _ (List.mem_append_left _ (List.mem_append_left _ (List.mem_append_left _ (List.mem_append_left _ (List.mem_append_left _ (List.mem_append_left _ (List.mem_append_left _ (List.mem_append_left _ (List.mem_append_right _ (List.mem_append_right _ (List.mem_append_right _ (List.mem_append_right _ (List.mem_append_right _ (List.mem_append_right _ (List.mem_append_right _ (List.mem_append_right _ (List.mem_append_right _ (List.mem_append_right _ (List.mem_append_right _ (List.mem_append_right _ (List.mem_append_right _ (List.mem_append_right _ (List.mem_append_right _ (List.mem_append_right _ (List.mem_append_right _ (List.mem_append_right _ (List.mem_append_right _ (List.mem_append_right _ (List.mem_append_right _ (List.mem_append_right _ (List.mem_append_right _ (List.mem_append_right _ (List.mem_append_right _ (List.mem_append_right _ (List.mem_append_right _ (List.mem_append_right _ (List.mem_append_right _ (List.mem_append_right _ (List.mem_append_left _ h)))))))))))))))))))))))))))))))))))))))))))
theorem in_r32 : ∀ w ∈ wsL_law_r32, w ∈ wsL_law := fun _ h => (List.mem_append_left _ (List.mem_append_left _ (List.mem_append_left _ (List.mem_append_left _ (List.mem_append_left _ (List.mem_append_left _ (List.mem_append_left _ (List.mem_append_left _ (List.mem_append_left _ (List.mem_append_left _ (List.mem_append_left _ (List.mem_append_left _ (List.mem_append_right _ (List.mem_append_right _ (List.mem_append_right _ (List.mem_append_right _ (List.mem_append_right _ (List.mem_append_right _ (List.mem_append_right _ (List.mem_append_right _ (List.mem_append_right _ (List.mem_append_right _ (List.mem_append_right _ (List.mem_append_right _ (List.mem_append_right _ (List.mem_append_right _ (List.mem_append_right _ (List.mem_append_right _ (List.mem_append_right _ (List.mem_append_right _ (List.mem_append_right _ (List.mem_append_right _ (List.mem_append_right _ (List.mem_append_right _ (List.mem_append_right _ (List.mem_append_right _ (List.mem_append_right _ (List.mem_append_right _ (List.mem_append_right _ (List.mem_append_right _ (List.mem_append_right _ (List.mem_append_right _ (List.mem_append_right _ (List.mem_append_left _ h))))))))))))))))))))))))))))))))))))))))))))
theorem in_r33 : ∀ w ∈ wsL_law_r33, w ∈ wsL_law := fun _ h => (List.mem_append_left _ (List.mem_append_left _ (List.mem_append_left _ (List.mem_append_left _ (List.mem_append_left _ (List.mem_append_left _ (List.mem_append_left _ (List.mem_append_left _ (List.mem_append_left _ (List.mem_append_left _ (List.mem_append_left _ (List.mem_append_left _ (List.mem_append_right _ (List.mem_append_right _ (List.mem_append_right _ (List.mem_append_right _ (List.mem_append_right _ (List.mem_append_right _ (List.mem_append_right _ (List.mem_append_right _ (List.mem_append_right _ (List.mem_append_right _ (List.mem_append_right _ (List.mem_append_right _ (List.mem_append_right _ (List.mem_append_right _ (List.mem_append_right _ (List.mem_append_right _ (List.mem_append_right _ (List.mem_append_right _ (List.mem_append_right _ (List.mem_append_right _ (List.mem_append_right _ (List.mem_append_right _ (List.mem_append_right _ (List.mem_append_right _ (List.mem_append_right _ (List.mem_append_right _ (List.mem_append_right _ (List.mem_append_right _ (List.mem_append_right _ (List.mem_append_right _ (List.mem_append_right _ (List.mem_append_right _ (List.mem_append_left _ h)))))))))))))))))))))))))))))))))))))))))))))
theorem in_r34 : ∀ w ∈ wsL_law_r34, w ∈ wsL_law := fun _ h => (List.mem_append_left _ (List.mem_append_left _ (List.mem_append_left _ (List.mem_append_left _ (List.mem_append_left _ (List.mem_append_left _ (List.mem_append_left _ (List.mem_append_left _ (List.mem_append_left _ (List.mem_append_left _ (List.mem_append_left _ (List.mem_append_left _ (List.mem_append_right _ (List.mem_append_right _ (List.mem_append_right _ (List.mem_append_right _ (List.mem_append_right _ (List.mem_append_right _ (List.mem_append_right _ (List.mem_append_right _ (List.mem_append_right _ (List.mem_append_right _ (List.mem_append_right _ (List.mem_append_right _ (List.mem_append_right _ (List.mem_append_right _ (List.mem_append_right _ (List.mem_append_right _ (List.mem_append_right _ (List.mem_append_right _ (List.mem_append_right _ (List.mem_append_right _ (List.mem_append_right _ (List.mem_append_right _ (List.mem_append_right _ (List.mem_append_right _ (List.mem_append_right _ (List.mem_append_right _ (List.mem_append_right _ (List.mem_append_right _ (List.mem_append_right _ (List.mem_append_right _ (List.mem_append_right _ (List.mem_append_right _ (List.mem_append_right _ (List.mem_append_left _ h))))))))))))))))))))))))))))))))))))))))))))))
theorem in_r35 : ∀ w ∈ wsL_law_r35, w ∈ wsL_law := fun _ h => (List.mem_append_left _ (List.mem_append_left _ (List.mem_append_left _ (List.mem_append_left _ (List.mem_append_left _ (List.mem_append_left _ (List.mem_append_left _ (List.mem_append_left _ (List.mem_append_left _ (List.mem_append_left _ (List.mem_append_left _ (List.mem_append_left _ (List.mem_append_right _ (List.mem_append_right _ (List.mem_append_right _ (List.mem_append_right _ (List.mem_append_right _ (List.mem_append_right _ (List.mem_append_right _ (List.mem_append_right _ (List.mem_append_right _ (List.mem_append_right _ (List.mem_append_right _ (List.mem_append_right _ (List.mem_append_right _ (List.mem_append_right _ (List.mem_append_right _ (List.mem_append_right _ (List.mem_append_right _ (List.mem_append_right _ (List.mem_append_right _ (List.mem_append_right _ (List.mem_append_right _ (List.mem_append_right _ (List.mem_append_right _ (List.mem_append_right _ (List.mem_append_right _ (List.mem_append_right _ (List.mem_append_right _ (List.mem_append_right _ (List.mem_append_right _ (List.mem_append_right _ (List.mem_append_right _ (List.mem_append_right _ (List.mem_append_right _ (List.mem_append_right _ (List.mem_append_left _ h)))))))))))))))))))))))))))))))))))))))))))))))
theorem in_r36 : ∀ w ∈ wsL_law_r36, w ∈ wsL_law := fun _ h => (List.mem_append_left _ (List.mem_append_left _ (List.mem_append_left _ (List.mem_append_left _ (List.mem_append_left _ (List.mem_append_left _ (List.mem_append_left _ (List.mem_append_left _ (List.mem_append_left _ (List.mem_append_left _ (List.mem_append_left _ (List.mem_append_left _ (List.mem_append_right _ (List.mem_append_right _ (List.mem_append_right _ (List.mem_append_right _ (List.mem_append_right _ (List.mem_append_right _ (List.mem_append_right _ (List.mem_append_right _ (List.mem_append_right _ (List.mem_append_right _ (List.mem_append_right _ (List.mem_append_right _ (List.mem_append_right _ (List.mem_append_right _ (List.mem_append_right _ (List.mem_append_right _ (List.mem_append_right _ (List.mem_append_right _ (List.mem_append_right _ (List.mem_append_right _ (List.mem_append_right _ (List.mem_append_right _ (List.mem_append_right _ (List.mem_append_right _ (List.mem_append_right _ (List.mem_append_right _ (List.mem_append_right _ (List.mem_append_right _ (List.mem_append_right _ (List.mem_append_right _ (List.mem_append_right _ (List.mem_append_right _ (List.mem_append_right _ (List.mem_append_right _ (List.mem_append_right _ (List.mem_append_left _ h))))))))))))))))))))))))))))))))))))))))))))))))
theorem in_r37 : ∀ w ∈ wsL_law_r37, w ∈ wsL_law := fun _ h => (List.mem_append_left _ (List.mem_append_left _ (List.mem_append_left _ (List.mem_append_left _ (List.mem_append_left _ (List.mem_append_left _ (List.mem_append_left _ (List.mem_append_left _ (List.mem_append_left _ (List.mem_append_left _ (List.mem_append_left _ (List.mem_append_left _ (List.mem_append_right _ (List.mem_append_right _ (List.mem_append_right _ (List.mem_append_right _ (List.mem_append_right _ (List.mem_append_right _ (List.mem_append_right _ (List.mem_append_right _ (List.mem_append_right _ (List.mem_append_right _ (List.mem_append_right _ (List.mem_append_right _ (List.mem_append_right _ (List.mem_append_right _ (List.mem_append_right _ (List.mem_append_right _ (List.mem_append_right _ (List.mem_append_right _ (List.mem_append_right _ (List.mem_append_right _ (List.mem_append_right _ (List.mem_append_right _ (List.mem_append_right _ (List.mem_append_right _ (List.mem_append_right _ (List.mem_append_right _ (List.mem_append_right _ (List.mem_append_right _ (List.mem_append_right _ (List.mem_append_right _ (List.mem_append_right _ (List.mem_append_right _ (List.mem_append_right _ (List.mem_append_right _ (List.mem_append_right _ (List.mem_append_right _ (List.mem_append_left _ h)))))))))))))))))))))))))))))))))))))))))))))))))
theorem in_r38 : ∀ w ∈ wsL_law_r38, w ∈ wsL_law := fun _ h => (List.mem_append_left _ (List.mem_append_left _ (List.mem_append_left _ (List.mem_append_left _ (List.mem_append_left _ (List.mem_append_left _ (List.mem_append_left _ (List.mem_append_left _ (List.mem_append_left _ (List.mem_append_left _ (List.mem_append_left _ (List.mem_append_left _ (List.mem_append_right _ (List.mem_append_right _ (List.mem_append_right _ (List.mem_append_right _ (List.mem_append_right _ (List.mem_append_right _ (List.mem_append_right _ (List.mem_append_right _ (List.mem_append_right _ (List.mem_append_right _ (List.mem_append_right _ (List.mem_append_right _ (List.mem_append_right _ (List.mem_append_right _ (List.mem_append_right _ (List.mem_append_right _ (List.mem_append_right _ (List.mem_append_right _ (List.mem_append_right _ (List.mem_append_right _ (List.mem_append_right _ (List.mem_append_right _ (List.mem_append_right _ (List.mem_append_right _ (List.mem_append_right _ (List.mem_append_right _ (List.mem_append_right _ (List.mem_append_right _ (List.mem_append_right _ (List.mem_append_right _ (List.mem_append_right _ (List.mem_append_right _ (List.mem_append_right _ (List.mem_append_right _ (List.mem_append_right _ (List.mem_append_right _ (List.mem_append_right _ (List.mem_append_left _ h))))))))))))))))))))))))))))))))))))))))))))))))))
theorem in_r39 : ∀ w ∈ wsL_law_r39, w ∈ wsL_law := fun _ h => (List.mem_append_left _ (List.mem_append_left _ (List.mem_append_left _ (List.mem_append_left _ (List.mem_append_left _ (List.mem_append_left _ (List.mem_append_left _ (List.mem_append_left _ (List.mem_append_left _ (List.mem_append_left _ (List.mem_append_left _ (List.mem_append_left _ (List.mem_append_right _ (List.mem_append_right _ (List.mem_append_right _ (List.mem_append_right _ (List.mem_append_right _ (List.mem_append_right _ (List.mem_append_right _ (List.mem_append_right _ (List.mem_append_right _ (List.mem_append_right _ (List.mem_append_right _ (List.mem_append_right _ (List.mem_append_right _ (List.mem_append_right _ (List.mem_append_right _ (List.mem_append_right _ (List.mem_append_right _ (List.mem_append_right _ (List.mem_append_right _ (List.mem_append_right _ (List.mem_append_right _ (List.mem_append_right _ (List.mem_append_right _ (List.mem_append_right _ (List.mem_append_right _ (List.mem_append_right _ (List.mem_append_right _ (List.mem_append_right _ (List.mem_append_right _ (List.mem_append_right _ (List.mem_append_right _ (List.mem_append_right _ (List.mem_append_right _ (List.mem_append_right _ (List.mem_append_right _ (List.mem_append_right _ (List.mem_append_right _ (List.mem_append_right _ (List.mem_append_left _ h)))))))))))))))))))))))))))))))))))))))))))))))))))
theorem in_r40 : ∀ w ∈ wsL_law_r40, w ∈ wsL_law := fun _ h => (List.mem_append_left _ (List.mem_append_left _ (List.mem_append_left _ (List.mem_append_left _ (List.mem_append_left _ (List.mem_append_left _ (List.mem_append_left _ (List.mem_append_left _ (List.mem_append_left _ (List.mem_append_left _ (List.mem_append_left _ (List.mem_append_left _ (List.mem_append_right _ (List.mem_append_right _ (List.mem_append_right _ (List.mem_append_right _ (List.mem_append_right _ (List.mem_append_right _ (List.mem_append_right _ (List.mem_append_right _ (List.mem_append_right _ (List.mem_append_right _ (List.mem_append_right _ (List.mem_append_right _ (List.mem_append_right _ (List.mem_append_right _ (List.mem_append_right _ (List.mem_append_right _ (List.mem_append_right _ (List.mem_append_right _ (List.mem_append_right _ (List.mem_append_right _ (List.mem_append_right _ (List.mem_append_right _ (List.mem_append_right _ (List.mem_append_right _ (List.mem_append_right _ (List.mem_append_right _ (List.mem_append_right _ (List.mem_append_right _ (List.mem_append_right _ (List.mem_append_right _ (List.mem_append_right _ (List.mem_append_right _ (List.mem_append_right _ (List.mem_append_right _ (List.mem_append_right _ (List.mem_append_right _ (List.mem_append_right _ (List.mem_append_right _ (List.mem_append_right _ (List.mem_append_left _ h))))))))))))))))))))))))))))))))))))))))))))))))))))
theorem in_r41 : ∀ w ∈ wsL_law_r41, w ∈ wsL_law := fun _ h => (List.mem_append_left _ (List.mem_append_left _ (List.mem_append_left _ (List.mem_append_left _ (List.mem_append_left _ (List.mem_append_left _ (List.mem_append_left _ (List.mem_append_left _ (List.mem_append_left _ (List.mem_append_left _ (List.mem_append_left _ (List.mem_append_left _ (List.mem_append_right _ (List.mem_append_right _ (List.mem_append_right _ (List.mem_append_right _ (List.mem_append_right _ (List.mem_append_right _ (List.mem_append_right _ (List.mem_append_right _ (List.mem_append_right _ (List.mem_append_right _ (List.mem_append_right _ (List.mem_append_right _ (List.mem_append_right _ (List.mem_append_right _ (List.mem_append_right _ (List.mem_append_right _ (List.mem_append_right _ (List.mem_append_right _ (List.mem_append_right _ (List.mem_append_right _ (List.mem_append_right _ (List.mem_append_right _ (List.mem_append_right _ (List.mem_append_right _ (List.mem_append_right _ (List.mem_append_right _ (List.mem_append_right _ (List.mem_append_right _ (List.mem_append_right _ (List.mem_append_right _ (List.mem_append_right _ (List.mem_append_right _ (List.mem_append_right _ (List.mem_append_right _ (List.mem_append_right _ (List.mem_append_right _ (List.mem_append_right _ (List.mem_append_right _ (List.mem_append_right _ (List.mem_append_right _ (List.mem_append_left _ h)))))))))))))))))))))))))))))))))))))))))))))))))))))
theorem in_r42 : ∀ w ∈ wsL_law_r42, w ∈ wsL_law := fun _ h => (List.mem_append_left _ (List.mem_append_left _ (List.mem_append_left _ (List.mem_append_left _ (List.mem_append_left _ (List.mem_append_left _ (List.mem_append_left _ (List.mem_append_left _ (List.mem_append_left _ (List.mem_append_left _ (List.mem_append_left _ (List.mem_append_left _ (List.mem_append_right _ (List.mem_append_right _ (List.mem_append_right _ (List.mem_append_right _ (List.mem_append_right _ (List.mem_append_right _ (List.mem_append_right _ (List.mem_append_right _ (List.mem_append_right _ (List.mem_append_right _ (List.mem_append_right _ (List.mem_append_right _ (List.mem_append_right _ (List.mem_append_right _ (List.mem_append_right _ (List.mem_append_right _ (List.mem_append_right _ (List.mem_append_right _ (List.mem_append_right _ (List.mem_append_right _ (List.mem_append_right _ (List.mem_append_right _ (List.mem_append_right _ (List.mem_append_right _ (List.mem_append_right _ (List.mem_append_right _ (List.mem_append_right _ (List.mem_append_right _ (List.mem_append_right _ (List.mem_append_right _ (List.mem_append_right _ (List.mem_append_right _ (List.mem_append_right _ (List.mem_append_right _ (List.mem_append_right _ (List.mem_append_right _ (List.mem_append_right _ (List.mem_append_right _ (List.mem_append_right _ (List.mem_append_right _ (List.mem_append_right _ h)))))))))))))))))))))))))))))))))))))))))))))))))))))
theorem wm_cl_L_7 : (Cond.classLink RL 7 RX9) ∈ wsL_law := in_r1 _ (List.mem_of_getElem? (i := 0) rfl)
theorem wm_ii_X9 : (Cond.instantiable RX9 5) ∈ wsL_law := in_r1 _ (List.mem_of_getElem? (i := 1) rfl)
theorem wm_in_X9 : (Cond.initialized RX9) ∈ wsL_law := in_r1 _ (List.mem_of_getElem? (i := 2) rfl)
theorem wm_cl_L_10 : (Cond.classLink RL 10 RX10) ∈ wsL_law := in_r1 _ (List.mem_of_getElem? (i := 3) rfl)
theorem wm_ii_X10 : (Cond.instantiable RX10 13) ∈ wsL_law := in_r1 _ (List.mem_of_getElem? (i := 4) rfl)
theorem wm_in_X10 : (Cond.initialized RX10) ∈ wsL_law := in_r1 _ (List.mem_of_getElem? (i := 5) rfl)
theorem wm_ml_L_9 : (Cond.methodLink RL 9 yX9_init) ∈ wsL_law := in_r1 _ (List.mem_of_getElem? (i := 6) rfl)
theorem wm_im_X9_init : (Cond.instanceMethod yX9_init) ∈ wsL_law := in_r1 _ (List.mem_of_getElem? (i := 7) rfl)
theorem wm_co_X9_init : (Cond.code yX9_init cX9_init 1 none) ∈ wsL_law := in_r1 _ (List.mem_of_getElem? (i := 8) rfl)
theorem wm_ml_X9_1 : (Cond.methodLink RX9 1 objectInit) ∈ wsL_law := in_r1 _ (List.mem_of_getElem? (i := 9) rfl)
theorem wm_im_objectInit : (Cond.instanceMethod objectInit) ∈ wsL_law := in_r1 _ (List.mem_of_getElem? (i := 10) rfl)
theorem wm_co_objectInit : (Cond.code objectInit ⟨#[0xb1]⟩ 1 none) ∈ wsL_law := in_r1 _ (List.mem_of_getElem? (i := 11) rfl)
theorem wm_cl_X9_7 : (Cond.classLink RX9 7 RX0) ∈ wsL_law := in_r1 _ (List.mem_of_getElem? (i := 12) rfl)
theorem wm_ii_X0 : (Cond.instantiable RX0 10) ∈ wsL_law := in_r1 _ (List.mem_of_getElem? (i := 13) rfl)
theorem wm_in_X0 : (Cond.initialized RX0) ∈ wsL_law := in_r1 _ (List.mem_of_getElem? (i := 14) rfl)
theorem wm_fl_X9_10 : (Cond.fieldLink RX9 10 "PurserLedgers" "now" "LPurserLedgers$Books;") ∈ wsL_law := in_r1 _ (List.mem_of_getElem? (i := 15) rfl)
theorem wm_fl_X9_16 : (Cond.fieldLink RX9 16 "PurserLedgers" "trial" "LPurserLedgers$Books;") ∈ wsL_law := in_r1 _ (List.mem_of_getElem? (i := 16) rfl)
theorem wm_cl_X9_19 : (Cond.classLink RX9 19 RX2) ∈ wsL_law := in_r1 _ (List.mem_of_getElem? (i := 17) rfl)
theorem wm_ii_X2 : (Cond.instantiable RX2 2) ∈ wsL_law := in_r1 _ (List.mem_of_getElem? (i := 18) rfl)
theorem wm_in_X2 : (Cond.initialized RX2) ∈ wsL_law := in_r1 _ (List.mem_of_getElem? (i := 19) rfl)
theorem wm_fl_X9_22 : (Cond.fieldLink RX9 22 "PurserLedgers" "history" "LPurserLedgers$History;") ∈ wsL_law := in_r1 _ (List.mem_of_getElem? (i := 20) rfl)
theorem wm_cl_X9_26 : (Cond.classLink RX9 26 RX7) ∈ wsL_law := in_r1 _ (List.mem_of_getElem? (i := 21) rfl)
theorem wm_ii_X7 : (Cond.instantiable RX7 2) ∈ wsL_law := in_r1 _ (List.mem_of_getElem? (i := 22) rfl)
theorem wm_in_X7 : (Cond.initialized RX7) ∈ wsL_law := in_r1 _ (List.mem_of_getElem? (i := 23) rfl)
theorem wm_fl_X9_29 : (Cond.fieldLink RX9 29 "PurserLedgers" "text" "LPurserLedgers$Text;") ∈ wsL_law := in_r2 _ (List.mem_of_getElem? (i := 0) rfl)
theorem wm_cl_X9_33 : (Cond.classLink RX9 33 RX5) ∈ wsL_law := in_r2 _ (List.mem_of_getElem? (i := 1) rfl)
theorem wm_ii_X5 : (Cond.instantiable RX5 5) ∈ wsL_law := in_r2 _ (List.mem_of_getElem? (i := 2) rfl)
theorem wm_in_X5 : (Cond.initialized RX5) ∈ wsL_law := in_r2 _ (List.mem_of_getElem? (i := 3) rfl)
theorem wm_fl_X9_36 : (Cond.fieldLink RX9 36 "PurserLedgers" "rehearsal" "LPurserLedgers$Rehearsal;") ∈ wsL_law := in_r2 _ (List.mem_of_getElem? (i := 4) rfl)
theorem wm_ml_X9_9 : (Cond.methodLink RX9 9 yX0_init) ∈ wsL_law := in_r2 _ (List.mem_of_getElem? (i := 5) rfl)
theorem wm_im_X0_init : (Cond.instanceMethod yX0_init) ∈ wsL_law := in_r2 _ (List.mem_of_getElem? (i := 6) rfl)
theorem wm_co_X0_init : (Cond.code yX0_init cX0_init 2 none) ∈ wsL_law := in_r2 _ (List.mem_of_getElem? (i := 7) rfl)
theorem wm_ml_X0_3 : (Cond.methodLink RX0 3 objectInit) ∈ wsL_law := in_r2 _ (List.mem_of_getElem? (i := 8) rfl)
theorem wm_cl_X0_9 : (Cond.classLink RX0 9 RX6) ∈ wsL_law := in_r2 _ (List.mem_of_getElem? (i := 9) rfl)
theorem wm_fl_X0_11 : (Cond.fieldLink RX0 11 "PurserLedgers$Books" "crew" "[LPurserLedgers$Sailor;") ∈ wsL_law := in_r2 _ (List.mem_of_getElem? (i := 10) rfl)
theorem wm_ii_X6 : (Cond.instantiable RX6 10) ∈ wsL_law := in_r2 _ (List.mem_of_getElem? (i := 11) rfl)
theorem wm_in_X6 : (Cond.initialized RX6) ∈ wsL_law := in_r2 _ (List.mem_of_getElem? (i := 12) rfl)
theorem wm_cl_X0_18 : (Cond.classLink RX0 18 RX3) ∈ wsL_law := in_r2 _ (List.mem_of_getElem? (i := 13) rfl)
theorem wm_fl_X0_20 : (Cond.fieldLink RX0 20 "PurserLedgers$Books" "chest" "[LPurserLedgers$Item;") ∈ wsL_law := in_r2 _ (List.mem_of_getElem? (i := 14) rfl)
theorem wm_ii_X3 : (Cond.instantiable RX3 5) ∈ wsL_law := in_r2 _ (List.mem_of_getElem? (i := 15) rfl)
theorem wm_in_X3 : (Cond.initialized RX3) ∈ wsL_law := in_r2 _ (List.mem_of_getElem? (i := 16) rfl)
theorem wm_ac_int : (Cond.arrayClass .int) ∈ wsL_law := in_r2 _ (List.mem_of_getElem? (i := 17) rfl)
theorem wm_fl_X0_29 : (Cond.fieldLink RX0 29 "PurserLedgers$Books" "settings" "[I") ∈ wsL_law := in_r2 _ (List.mem_of_getElem? (i := 18) rfl)
theorem wm_cl_X0_36 : (Cond.classLink RX0 36 RX1) ∈ wsL_law := in_r2 _ (List.mem_of_getElem? (i := 19) rfl)
theorem wm_ii_X1 : (Cond.instantiable RX1 4) ∈ wsL_law := in_r2 _ (List.mem_of_getElem? (i := 20) rfl)
theorem wm_in_X1 : (Cond.initialized RX1) ∈ wsL_law := in_r2 _ (List.mem_of_getElem? (i := 21) rfl)
theorem wm_fl_X0_39 : (Cond.fieldLink RX0 39 "PurserLedgers$Books" "entries" "LPurserLedgers$Entries;") ∈ wsL_law := in_r2 _ (List.mem_of_getElem? (i := 22) rfl)
theorem wm_cl_X0_43 : (Cond.classLink RX0 43 RX8) ∈ wsL_law := in_r2 _ (List.mem_of_getElem? (i := 23) rfl)
theorem wm_ii_X8 : (Cond.instantiable RX8 8) ∈ wsL_law := in_r3 _ (List.mem_of_getElem? (i := 0) rfl)
theorem wm_in_X8 : (Cond.initialized RX8) ∈ wsL_law := in_r3 _ (List.mem_of_getElem? (i := 1) rfl)
theorem wm_fl_X0_46 : (Cond.fieldLink RX0 46 "PurserLedgers$Books" "totals" "LPurserLedgers$Totals;") ∈ wsL_law := in_r3 _ (List.mem_of_getElem? (i := 2) rfl)
theorem wm_im_X6_init : (Cond.instanceMethod yX6_init) ∈ wsL_law := in_r3 _ (List.mem_of_getElem? (i := 3) rfl)
theorem wm_co_X6_init : (Cond.code yX6_init cX6_init 1 none) ∈ wsL_law := in_r3 _ (List.mem_of_getElem? (i := 4) rfl)
theorem wm_ml_X6_3 : (Cond.methodLink RX6 3 objectInit) ∈ wsL_law := in_r3 _ (List.mem_of_getElem? (i := 5) rfl)
theorem wm_im_X3_init : (Cond.instanceMethod yX3_init) ∈ wsL_law := in_r3 _ (List.mem_of_getElem? (i := 6) rfl)
theorem wm_co_X3_init : (Cond.code yX3_init cX3_init 1 none) ∈ wsL_law := in_r3 _ (List.mem_of_getElem? (i := 7) rfl)
theorem wm_ml_X3_3 : (Cond.methodLink RX3 3 objectInit) ∈ wsL_law := in_r3 _ (List.mem_of_getElem? (i := 8) rfl)
theorem wm_st_X9_copyNumbers : (Cond.static yX9_copyNumbers) ∈ wsL_law := in_r3 _ (List.mem_of_getElem? (i := 9) rfl)
theorem wm_co_X9_copyNumbers : (Cond.code yX9_copyNumbers cX9_copyNumbers 3 none) ∈ wsL_law := in_r3 _ (List.mem_of_getElem? (i := 10) rfl)
theorem wm_ml_X0_38 : (Cond.methodLink RX0 38 yX1_init) ∈ wsL_law := in_r3 _ (List.mem_of_getElem? (i := 11) rfl)
theorem wm_im_X1_init : (Cond.instanceMethod yX1_init) ∈ wsL_law := in_r3 _ (List.mem_of_getElem? (i := 12) rfl)
theorem wm_co_X1_init : (Cond.code yX1_init cX1_init 1 none) ∈ wsL_law := in_r3 _ (List.mem_of_getElem? (i := 13) rfl)
theorem wm_ml_X1_3 : (Cond.methodLink RX1 3 objectInit) ∈ wsL_law := in_r3 _ (List.mem_of_getElem? (i := 14) rfl)
theorem wm_fl_X1_9 : (Cond.fieldLink RX1 9 "PurserLedgers$Entries" "sailors" "[I") ∈ wsL_law := in_r3 _ (List.mem_of_getElem? (i := 15) rfl)
theorem wm_fl_X1_15 : (Cond.fieldLink RX1 15 "PurserLedgers$Entries" "kinds" "[I") ∈ wsL_law := in_r3 _ (List.mem_of_getElem? (i := 16) rfl)
theorem wm_fl_X1_18 : (Cond.fieldLink RX1 18 "PurserLedgers$Entries" "coins" "[I") ∈ wsL_law := in_r3 _ (List.mem_of_getElem? (i := 17) rfl)
theorem wm_ml_X0_45 : (Cond.methodLink RX0 45 yX8_init) ∈ wsL_law := in_r3 _ (List.mem_of_getElem? (i := 18) rfl)
theorem wm_im_X8_init : (Cond.instanceMethod yX8_init) ∈ wsL_law := in_r3 _ (List.mem_of_getElem? (i := 19) rfl)
theorem wm_co_X8_init : (Cond.code yX8_init cX8_init 1 none) ∈ wsL_law := in_r3 _ (List.mem_of_getElem? (i := 20) rfl)
theorem wm_ml_X8_3 : (Cond.methodLink RX8 3 objectInit) ∈ wsL_law := in_r3 _ (List.mem_of_getElem? (i := 21) rfl)
theorem wm_fl_X8_9 : (Cond.fieldLink RX8 9 "PurserLedgers$Totals" "cash" "I") ∈ wsL_law := in_r3 _ (List.mem_of_getElem? (i := 22) rfl)
theorem wm_ml_X9_21 : (Cond.methodLink RX9 21 yX2_init) ∈ wsL_law := in_r3 _ (List.mem_of_getElem? (i := 23) rfl)
theorem wm_im_X2_init : (Cond.instanceMethod yX2_init) ∈ wsL_law := in_r4 _ (List.mem_of_getElem? (i := 0) rfl)
theorem wm_co_X2_init : (Cond.code yX2_init cX2_init 2 none) ∈ wsL_law := in_r4 _ (List.mem_of_getElem? (i := 1) rfl)
theorem wm_ml_X2_3 : (Cond.methodLink RX2 3 objectInit) ∈ wsL_law := in_r4 _ (List.mem_of_getElem? (i := 2) rfl)
theorem wm_cl_X2_9 : (Cond.classLink RX2 9 RX0) ∈ wsL_law := in_r4 _ (List.mem_of_getElem? (i := 3) rfl)
theorem wm_fl_X2_11 : (Cond.fieldLink RX2 11 "PurserLedgers$History" "states" "[LPurserLedgers$Books;") ∈ wsL_law := in_r4 _ (List.mem_of_getElem? (i := 4) rfl)
theorem wm_ml_X2_17 : (Cond.methodLink RX2 17 yX0_init) ∈ wsL_law := in_r4 _ (List.mem_of_getElem? (i := 5) rfl)
theorem wm_ml_X9_28 : (Cond.methodLink RX9 28 yX7_init) ∈ wsL_law := in_r4 _ (List.mem_of_getElem? (i := 6) rfl)
theorem wm_im_X7_init : (Cond.instanceMethod yX7_init) ∈ wsL_law := in_r4 _ (List.mem_of_getElem? (i := 7) rfl)
theorem wm_co_X7_init : (Cond.code yX7_init cX7_init 1 none) ∈ wsL_law := in_r4 _ (List.mem_of_getElem? (i := 8) rfl)
theorem wm_ml_X7_3 : (Cond.methodLink RX7 3 objectInit) ∈ wsL_law := in_r4 _ (List.mem_of_getElem? (i := 9) rfl)
theorem wm_fl_X7_9 : (Cond.fieldLink RX7 9 "PurserLedgers$Text" "characters" "[I") ∈ wsL_law := in_r4 _ (List.mem_of_getElem? (i := 10) rfl)
theorem wm_ml_X9_35 : (Cond.methodLink RX9 35 yX5_init) ∈ wsL_law := in_r4 _ (List.mem_of_getElem? (i := 11) rfl)
theorem wm_im_X5_init : (Cond.instanceMethod yX5_init) ∈ wsL_law := in_r4 _ (List.mem_of_getElem? (i := 12) rfl)
theorem wm_co_X5_init : (Cond.code yX5_init cX5_init 1 none) ∈ wsL_law := in_r4 _ (List.mem_of_getElem? (i := 13) rfl)
theorem wm_ml_X5_3 : (Cond.methodLink RX5 3 objectInit) ∈ wsL_law := in_r4 _ (List.mem_of_getElem? (i := 14) rfl)
theorem wm_cl_X5_9 : (Cond.classLink RX5 9 RX4) ∈ wsL_law := in_r4 _ (List.mem_of_getElem? (i := 15) rfl)
theorem wm_ii_X4 : (Cond.instantiable RX4 3) ∈ wsL_law := in_r4 _ (List.mem_of_getElem? (i := 16) rfl)
theorem wm_in_X4 : (Cond.initialized RX4) ∈ wsL_law := in_r4 _ (List.mem_of_getElem? (i := 17) rfl)
theorem wm_fl_X5_12 : (Cond.fieldLink RX5 12 "PurserLedgers$Rehearsal" "order" "LPurserLedgers$Order;") ∈ wsL_law := in_r4 _ (List.mem_of_getElem? (i := 18) rfl)
theorem wm_ml_X5_11 : (Cond.methodLink RX5 11 yX4_init) ∈ wsL_law := in_r4 _ (List.mem_of_getElem? (i := 19) rfl)
theorem wm_im_X4_init : (Cond.instanceMethod yX4_init) ∈ wsL_law := in_r4 _ (List.mem_of_getElem? (i := 20) rfl)
theorem wm_co_X4_init : (Cond.code yX4_init cX4_init 1 none) ∈ wsL_law := in_r4 _ (List.mem_of_getElem? (i := 21) rfl)
theorem wm_ml_X4_3 : (Cond.methodLink RX4 3 objectInit) ∈ wsL_law := in_r4 _ (List.mem_of_getElem? (i := 22) rfl)
theorem wm_fl_X4_9 : (Cond.fieldLink RX4 9 "PurserLedgers$Order" "numbers" "[I") ∈ wsL_law := in_r4 _ (List.mem_of_getElem? (i := 23) rfl)
theorem wm_ml_L_12 : (Cond.methodLink RL 12 yX10_init) ∈ wsL_law := in_r5 _ (List.mem_of_getElem? (i := 0) rfl)
theorem wm_im_X10_init : (Cond.instanceMethod yX10_init) ∈ wsL_law := in_r5 _ (List.mem_of_getElem? (i := 1) rfl)
theorem wm_co_X10_init : (Cond.code yX10_init cX10_init 1 none) ∈ wsL_law := in_r5 _ (List.mem_of_getElem? (i := 2) rfl)
theorem wm_ml_X10_1 : (Cond.methodLink RX10 1 objectInit) ∈ wsL_law := in_r5 _ (List.mem_of_getElem? (i := 3) rfl)
theorem wm_fl_X10_7 : (Cond.fieldLink RX10 7 "PurserLedgersModel" "z" "[I") ∈ wsL_law := in_r5 _ (List.mem_of_getElem? (i := 4) rfl)
theorem wm_fl_X10_13 : (Cond.fieldLink RX10 13 "PurserLedgersModel" "aside" "[I") ∈ wsL_law := in_r5 _ (List.mem_of_getElem? (i := 5) rfl)
theorem wm_fl_X10_16 : (Cond.fieldLink RX10 16 "PurserLedgersModel" "before" "[I") ∈ wsL_law := in_r5 _ (List.mem_of_getElem? (i := 6) rfl)
theorem wm_fl_X10_19 : (Cond.fieldLink RX10 19 "PurserLedgersModel" "text" "[I") ∈ wsL_law := in_r5 _ (List.mem_of_getElem? (i := 7) rfl)
theorem wm_fl_X10_22 : (Cond.fieldLink RX10 22 "PurserLedgersModel" "number" "[I") ∈ wsL_law := in_r5 _ (List.mem_of_getElem? (i := 8) rfl)
theorem wm_ml_L_13 : (Cond.methodLink RL 13 yX9_sign) ∈ wsL_law := in_r5 _ (List.mem_of_getElem? (i := 9) rfl)
theorem wm_im_X9_sign : (Cond.instanceMethod yX9_sign) ∈ wsL_law := in_r5 _ (List.mem_of_getElem? (i := 10) rfl)
theorem wm_se_X9_sign : (Cond.selects RX9 yX9_sign yX9_sign) ∈ wsL_law := in_r5 _ (List.mem_of_getElem? (i := 11) rfl)
theorem wm_co_X9_sign : (Cond.code yX9_sign cX9_sign 3 (some .int)) ∈ wsL_law := in_r5 _ (List.mem_of_getElem? (i := 12) rfl)
theorem wm_ml_X9_40 : (Cond.methodLink RX9 40 yX9_newTrial) ∈ wsL_law := in_r5 _ (List.mem_of_getElem? (i := 13) rfl)
theorem wm_im_X9_newTrial : (Cond.instanceMethod yX9_newTrial) ∈ wsL_law := in_r5 _ (List.mem_of_getElem? (i := 14) rfl)
theorem wm_se_X9_newTrial : (Cond.selects RX9 yX9_newTrial yX9_newTrial) ∈ wsL_law := in_r5 _ (List.mem_of_getElem? (i := 15) rfl)
theorem wm_co_X9_newTrial : (Cond.code yX9_newTrial cX9_newTrial 1 (some (.object "PurserLedgers$Books"))) ∈ wsL_law := in_r5 _ (List.mem_of_getElem? (i := 16) rfl)
theorem wm_ml_X9_173 : (Cond.methodLink RX9 173 yX0_copyFrom) ∈ wsL_law := in_r5 _ (List.mem_of_getElem? (i := 17) rfl)
theorem wm_im_X0_copyFrom : (Cond.instanceMethod yX0_copyFrom) ∈ wsL_law := in_r5 _ (List.mem_of_getElem? (i := 18) rfl)
theorem wm_se_X0_copyFrom : (Cond.selects RX0 yX0_copyFrom yX0_copyFrom) ∈ wsL_law := in_r5 _ (List.mem_of_getElem? (i := 19) rfl)
theorem wm_co_X0_copyFrom : (Cond.code yX0_copyFrom cX0_copyFrom 3 none) ∈ wsL_law := in_r5 _ (List.mem_of_getElem? (i := 20) rfl)
theorem wm_fl_X0_63 : (Cond.fieldLink RX0 63 "PurserLedgers$Books" "signed" "I") ∈ wsL_law := in_r5 _ (List.mem_of_getElem? (i := 21) rfl)
theorem wm_fl_X0_67 : (Cond.fieldLink RX0 67 "PurserLedgers$Books" "voyage" "I") ∈ wsL_law := in_r5 _ (List.mem_of_getElem? (i := 22) rfl)
theorem wm_fl_X0_70 : (Cond.fieldLink RX0 70 "PurserLedgers$Books" "voyageDays" "I") ∈ wsL_law := in_r5 _ (List.mem_of_getElem? (i := 23) rfl)
theorem wm_fl_X0_73 : (Cond.fieldLink RX0 73 "PurserLedgers$Books" "ports" "I") ∈ wsL_law := in_r6 _ (List.mem_of_getElem? (i := 0) rfl)
theorem wm_fl_X0_76 : (Cond.fieldLink RX0 76 "PurserLedgers$Books" "atSea" "Z") ∈ wsL_law := in_r6 _ (List.mem_of_getElem? (i := 1) rfl)
theorem wm_ml_X0_50 : (Cond.methodLink RX0 50 yX6_copyFrom) ∈ wsL_law := in_r6 _ (List.mem_of_getElem? (i := 2) rfl)
theorem wm_im_X6_copyFrom : (Cond.instanceMethod yX6_copyFrom) ∈ wsL_law := in_r6 _ (List.mem_of_getElem? (i := 3) rfl)
theorem wm_se_X6_copyFrom : (Cond.selects RX6 yX6_copyFrom yX6_copyFrom) ∈ wsL_law := in_r6 _ (List.mem_of_getElem? (i := 4) rfl)
theorem wm_co_X6_copyFrom : (Cond.code yX6_copyFrom cX6_copyFrom 2 none) ∈ wsL_law := in_r6 _ (List.mem_of_getElem? (i := 5) rfl)
theorem wm_fl_X6_9 : (Cond.fieldLink RX6 9 "PurserLedgers$Sailor" "rank" "I") ∈ wsL_law := in_r6 _ (List.mem_of_getElem? (i := 6) rfl)
theorem wm_fl_X6_15 : (Cond.fieldLink RX6 15 "PurserLedgers$Sailor" "watch" "I") ∈ wsL_law := in_r6 _ (List.mem_of_getElem? (i := 7) rfl)
theorem wm_fl_X6_18 : (Cond.fieldLink RX6 18 "PurserLedgers$Sailor" "whereabouts" "I") ∈ wsL_law := in_r6 _ (List.mem_of_getElem? (i := 8) rfl)
theorem wm_fl_X6_21 : (Cond.fieldLink RX6 21 "PurserLedgers$Sailor" "seaDays" "I") ∈ wsL_law := in_r6 _ (List.mem_of_getElem? (i := 9) rfl)
theorem wm_fl_X6_24 : (Cond.fieldLink RX6 24 "PurserLedgers$Sailor" "portDays" "I") ∈ wsL_law := in_r6 _ (List.mem_of_getElem? (i := 10) rfl)
theorem wm_fl_X6_27 : (Cond.fieldLink RX6 27 "PurserLedgers$Sailor" "bought" "I") ∈ wsL_law := in_r6 _ (List.mem_of_getElem? (i := 11) rfl)
theorem wm_fl_X6_30 : (Cond.fieldLink RX6 30 "PurserLedgers$Sailor" "fines" "I") ∈ wsL_law := in_r6 _ (List.mem_of_getElem? (i := 12) rfl)
theorem wm_fl_X6_33 : (Cond.fieldLink RX6 33 "PurserLedgers$Sailor" "advances" "I") ∈ wsL_law := in_r6 _ (List.mem_of_getElem? (i := 13) rfl)
theorem wm_fl_X6_36 : (Cond.fieldLink RX6 36 "PurserLedgers$Sailor" "debt" "I") ∈ wsL_law := in_r6 _ (List.mem_of_getElem? (i := 14) rfl)
theorem wm_fl_X6_39 : (Cond.fieldLink RX6 39 "PurserLedgers$Sailor" "paid" "I") ∈ wsL_law := in_r6 _ (List.mem_of_getElem? (i := 15) rfl)
theorem wm_ml_X0_54 : (Cond.methodLink RX0 54 yX3_copyFrom) ∈ wsL_law := in_r6 _ (List.mem_of_getElem? (i := 16) rfl)
theorem wm_im_X3_copyFrom : (Cond.instanceMethod yX3_copyFrom) ∈ wsL_law := in_r6 _ (List.mem_of_getElem? (i := 17) rfl)
theorem wm_se_X3_copyFrom : (Cond.selects RX3 yX3_copyFrom yX3_copyFrom) ∈ wsL_law := in_r6 _ (List.mem_of_getElem? (i := 18) rfl)
theorem wm_co_X3_copyFrom : (Cond.code yX3_copyFrom cX3_copyFrom 2 none) ∈ wsL_law := in_r6 _ (List.mem_of_getElem? (i := 19) rfl)
theorem wm_fl_X3_9 : (Cond.fieldLink RX3 9 "PurserLedgers$Item" "inStock" "I") ∈ wsL_law := in_r6 _ (List.mem_of_getElem? (i := 20) rfl)
theorem wm_fl_X3_15 : (Cond.fieldLink RX3 15 "PurserLedgers$Item" "price" "I") ∈ wsL_law := in_r6 _ (List.mem_of_getElem? (i := 21) rfl)
theorem wm_fl_X3_18 : (Cond.fieldLink RX3 18 "PurserLedgers$Item" "bought" "I") ∈ wsL_law := in_r6 _ (List.mem_of_getElem? (i := 22) rfl)
theorem wm_fl_X3_21 : (Cond.fieldLink RX3 21 "PurserLedgers$Item" "sold" "I") ∈ wsL_law := in_r6 _ (List.mem_of_getElem? (i := 23) rfl)
theorem wm_fl_X3_24 : (Cond.fieldLink RX3 24 "PurserLedgers$Item" "charged" "I") ∈ wsL_law := in_r7 _ (List.mem_of_getElem? (i := 0) rfl)
theorem wm_ml_X0_57 : (Cond.methodLink RX0 57 yX1_copyFrom) ∈ wsL_law := in_r7 _ (List.mem_of_getElem? (i := 1) rfl)
theorem wm_im_X1_copyFrom : (Cond.instanceMethod yX1_copyFrom) ∈ wsL_law := in_r7 _ (List.mem_of_getElem? (i := 2) rfl)
theorem wm_se_X1_copyFrom : (Cond.selects RX1 yX1_copyFrom yX1_copyFrom) ∈ wsL_law := in_r7 _ (List.mem_of_getElem? (i := 3) rfl)
theorem wm_co_X1_copyFrom : (Cond.code yX1_copyFrom cX1_copyFrom 2 none) ∈ wsL_law := in_r7 _ (List.mem_of_getElem? (i := 4) rfl)
theorem wm_fl_X1_25 : (Cond.fieldLink RX1 25 "PurserLedgers$Entries" "kept" "I") ∈ wsL_law := in_r7 _ (List.mem_of_getElem? (i := 5) rfl)
theorem wm_ml_X0_60 : (Cond.methodLink RX0 60 yX8_copyFrom) ∈ wsL_law := in_r7 _ (List.mem_of_getElem? (i := 6) rfl)
theorem wm_im_X8_copyFrom : (Cond.instanceMethod yX8_copyFrom) ∈ wsL_law := in_r7 _ (List.mem_of_getElem? (i := 7) rfl)
theorem wm_se_X8_copyFrom : (Cond.selects RX8 yX8_copyFrom yX8_copyFrom) ∈ wsL_law := in_r7 _ (List.mem_of_getElem? (i := 8) rfl)
theorem wm_co_X8_copyFrom : (Cond.code yX8_copyFrom cX8_copyFrom 2 none) ∈ wsL_law := in_r7 _ (List.mem_of_getElem? (i := 9) rfl)
theorem wm_fl_X8_15 : (Cond.fieldLink RX8 15 "PurserLedgers$Totals" "drawn" "I") ∈ wsL_law := in_r7 _ (List.mem_of_getElem? (i := 10) rfl)
theorem wm_fl_X8_18 : (Cond.fieldLink RX8 18 "PurserLedgers$Totals" "spent" "I") ∈ wsL_law := in_r7 _ (List.mem_of_getElem? (i := 11) rfl)
theorem wm_fl_X8_21 : (Cond.fieldLink RX8 21 "PurserLedgers$Totals" "advanced" "I") ∈ wsL_law := in_r7 _ (List.mem_of_getElem? (i := 12) rfl)
theorem wm_fl_X8_24 : (Cond.fieldLink RX8 24 "PurserLedgers$Totals" "paid" "I") ∈ wsL_law := in_r7 _ (List.mem_of_getElem? (i := 13) rfl)
theorem wm_fl_X8_27 : (Cond.fieldLink RX8 27 "PurserLedgers$Totals" "charged" "I") ∈ wsL_law := in_r7 _ (List.mem_of_getElem? (i := 14) rfl)
theorem wm_fl_X8_30 : (Cond.fieldLink RX8 30 "PurserLedgers$Totals" "fines" "I") ∈ wsL_law := in_r7 _ (List.mem_of_getElem? (i := 15) rfl)
theorem wm_fl_X8_33 : (Cond.fieldLink RX8 33 "PurserLedgers$Totals" "forfeit" "I") ∈ wsL_law := in_r7 _ (List.mem_of_getElem? (i := 16) rfl)
theorem wm_ml_X9_44 : (Cond.methodLink RX9 44 yX0_signOn) ∈ wsL_law := in_r7 _ (List.mem_of_getElem? (i := 17) rfl)
theorem wm_im_X0_signOn : (Cond.instanceMethod yX0_signOn) ∈ wsL_law := in_r7 _ (List.mem_of_getElem? (i := 18) rfl)
theorem wm_se_X0_signOn : (Cond.selects RX0 yX0_signOn yX0_signOn) ∈ wsL_law := in_r7 _ (List.mem_of_getElem? (i := 19) rfl)
theorem wm_co_X0_signOn : (Cond.code yX0_signOn cX0_signOn 4 (some .int)) ∈ wsL_law := in_r7 _ (List.mem_of_getElem? (i := 20) rfl)
theorem wm_ct_X0_84 : (Cond.constant RX0 84 (-1000001)) ∈ wsL_law := in_r7 _ (List.mem_of_getElem? (i := 21) rfl)
theorem wm_ct_X0_85 : (Cond.constant RX0 85 (-1000002)) ∈ wsL_law := in_r7 _ (List.mem_of_getElem? (i := 22) rfl)
theorem wm_ct_X0_86 : (Cond.constant RX0 86 (-1000003)) ∈ wsL_law := in_r7 _ (List.mem_of_getElem? (i := 23) rfl)
theorem wm_st_X9_within : (Cond.static yX9_within) ∈ wsL_law := in_r8 _ (List.mem_of_getElem? (i := 0) rfl)
theorem wm_co_X9_within : (Cond.code yX9_within cX9_within 3 (some .boolean)) ∈ wsL_law := in_r8 _ (List.mem_of_getElem? (i := 1) rfl)
theorem wm_ml_X0_87 : (Cond.methodLink RX0 87 yX6_comeAboard) ∈ wsL_law := in_r8 _ (List.mem_of_getElem? (i := 2) rfl)
theorem wm_im_X6_comeAboard : (Cond.instanceMethod yX6_comeAboard) ∈ wsL_law := in_r8 _ (List.mem_of_getElem? (i := 3) rfl)
theorem wm_se_X6_comeAboard : (Cond.selects RX6 yX6_comeAboard yX6_comeAboard) ∈ wsL_law := in_r8 _ (List.mem_of_getElem? (i := 4) rfl)
theorem wm_co_X6_comeAboard : (Cond.code yX6_comeAboard cX6_comeAboard 3 none) ∈ wsL_law := in_r8 _ (List.mem_of_getElem? (i := 5) rfl)
theorem wm_ml_X6_42 : (Cond.methodLink RX6 42 yX6_beginVoyage) ∈ wsL_law := in_r8 _ (List.mem_of_getElem? (i := 6) rfl)
theorem wm_im_X6_beginVoyage : (Cond.instanceMethod yX6_beginVoyage) ∈ wsL_law := in_r8 _ (List.mem_of_getElem? (i := 7) rfl)
theorem wm_se_X6_beginVoyage : (Cond.selects RX6 yX6_beginVoyage yX6_beginVoyage) ∈ wsL_law := in_r8 _ (List.mem_of_getElem? (i := 8) rfl)
theorem wm_co_X6_beginVoyage : (Cond.code yX6_beginVoyage cX6_beginVoyage 2 none) ∈ wsL_law := in_r8 _ (List.mem_of_getElem? (i := 9) rfl)
theorem wm_ml_X9_48 : (Cond.methodLink RX9 48 yX9_settleTrial) ∈ wsL_law := in_r8 _ (List.mem_of_getElem? (i := 10) rfl)
theorem wm_im_X9_settleTrial : (Cond.instanceMethod yX9_settleTrial) ∈ wsL_law := in_r8 _ (List.mem_of_getElem? (i := 11) rfl)
theorem wm_se_X9_settleTrial : (Cond.selects RX9 yX9_settleTrial yX9_settleTrial) ∈ wsL_law := in_r8 _ (List.mem_of_getElem? (i := 12) rfl)
theorem wm_co_X9_settleTrial : (Cond.code yX9_settleTrial cX9_settleTrial 2 (some .int)) ∈ wsL_law := in_r8 _ (List.mem_of_getElem? (i := 13) rfl)
theorem wm_ml_X9_177 : (Cond.methodLink RX9 177 yX2_record) ∈ wsL_law := in_r8 _ (List.mem_of_getElem? (i := 14) rfl)
theorem wm_im_X2_record : (Cond.instanceMethod yX2_record) ∈ wsL_law := in_r8 _ (List.mem_of_getElem? (i := 15) rfl)
theorem wm_se_X2_record : (Cond.selects RX2 yX2_record yX2_record) ∈ wsL_law := in_r8 _ (List.mem_of_getElem? (i := 16) rfl)
theorem wm_co_X2_record : (Cond.code yX2_record cX2_record 5 none) ∈ wsL_law := in_r8 _ (List.mem_of_getElem? (i := 17) rfl)
theorem wm_fl_X2_22 : (Cond.fieldLink RX2 22 "PurserLedgers$History" "kept" "I") ∈ wsL_law := in_r8 _ (List.mem_of_getElem? (i := 18) rfl)
theorem wm_ml_X2_18 : (Cond.methodLink RX2 18 yX0_copyFrom) ∈ wsL_law := in_r8 _ (List.mem_of_getElem? (i := 19) rfl)
theorem wm_ml_L_17 : (Cond.methodLink RL 17 yX10_sign) ∈ wsL_law := in_r8 _ (List.mem_of_getElem? (i := 20) rfl)
theorem wm_im_X10_sign : (Cond.instanceMethod yX10_sign) ∈ wsL_law := in_r8 _ (List.mem_of_getElem? (i := 21) rfl)
theorem wm_se_X10_sign : (Cond.selects RX10 yX10_sign yX10_sign) ∈ wsL_law := in_r8 _ (List.mem_of_getElem? (i := 22) rfl)
theorem wm_co_X10_sign : (Cond.code yX10_sign cX10_sign 4 (some .int)) ∈ wsL_law := in_r8 _ (List.mem_of_getElem? (i := 23) rfl)
theorem wm_ml_X10_73 : (Cond.methodLink RX10 73 yX10_noSign) ∈ wsL_law := in_r9 _ (List.mem_of_getElem? (i := 0) rfl)
theorem wm_im_X10_noSign : (Cond.instanceMethod yX10_noSign) ∈ wsL_law := in_r9 _ (List.mem_of_getElem? (i := 1) rfl)
theorem wm_se_X10_noSign : (Cond.selects RX10 yX10_noSign yX10_noSign) ∈ wsL_law := in_r9 _ (List.mem_of_getElem? (i := 2) rfl)
theorem wm_co_X10_noSign : (Cond.code yX10_noSign cX10_noSign 3 (some .int)) ∈ wsL_law := in_r9 _ (List.mem_of_getElem? (i := 3) rfl)
theorem wm_ct_X10_64 : (Cond.constant RX10 64 (-1000001)) ∈ wsL_law := in_r9 _ (List.mem_of_getElem? (i := 4) rfl)
theorem wm_ct_X10_37 : (Cond.constant RX10 37 (-1000002)) ∈ wsL_law := in_r9 _ (List.mem_of_getElem? (i := 5) rfl)
theorem wm_ct_X10_69 : (Cond.constant RX10 69 (-1000003)) ∈ wsL_law := in_r9 _ (List.mem_of_getElem? (i := 6) rfl)
theorem wm_ml_X10_25 : (Cond.methodLink RX10 25 yX10_in) ∈ wsL_law := in_r9 _ (List.mem_of_getElem? (i := 7) rfl)
theorem wm_st_X10_in : (Cond.static yX10_in) ∈ wsL_law := in_r9 _ (List.mem_of_getElem? (i := 8) rfl)
theorem wm_co_X10_in : (Cond.code yX10_in cX10_in 3 (some .boolean)) ∈ wsL_law := in_r9 _ (List.mem_of_getElem? (i := 9) rfl)
theorem wm_ml_X10_65 : (Cond.methodLink RX10 65 yX10_isAtSea) ∈ wsL_law := in_r9 _ (List.mem_of_getElem? (i := 10) rfl)
theorem wm_im_X10_isAtSea : (Cond.instanceMethod yX10_isAtSea) ∈ wsL_law := in_r9 _ (List.mem_of_getElem? (i := 11) rfl)
theorem wm_se_X10_isAtSea : (Cond.selects RX10 yX10_isAtSea yX10_isAtSea) ∈ wsL_law := in_r9 _ (List.mem_of_getElem? (i := 12) rfl)
theorem wm_co_X10_isAtSea : (Cond.code yX10_isAtSea cX10_isAtSea 1 (some .boolean)) ∈ wsL_law := in_r9 _ (List.mem_of_getElem? (i := 13) rfl)
theorem wm_ml_X10_76 : (Cond.methodLink RX10 76 yX10_record) ∈ wsL_law := in_r9 _ (List.mem_of_getElem? (i := 14) rfl)
theorem wm_im_X10_record : (Cond.instanceMethod yX10_record) ∈ wsL_law := in_r9 _ (List.mem_of_getElem? (i := 15) rfl)
theorem wm_se_X10_record : (Cond.selects RX10 yX10_record yX10_record) ∈ wsL_law := in_r9 _ (List.mem_of_getElem? (i := 16) rfl)
theorem wm_co_X10_record : (Cond.code yX10_record cX10_record 3 none) ∈ wsL_law := in_r9 _ (List.mem_of_getElem? (i := 17) rfl)
theorem wm_fl_X10_33 : (Cond.fieldLink RX10 33 "PurserLedgersModel" "states" "I") ∈ wsL_law := in_r9 _ (List.mem_of_getElem? (i := 18) rfl)
theorem wm_ml_X10_80 : (Cond.methodLink RX10 80 yX10_doSign) ∈ wsL_law := in_r9 _ (List.mem_of_getElem? (i := 19) rfl)
theorem wm_im_X10_doSign : (Cond.instanceMethod yX10_doSign) ∈ wsL_law := in_r9 _ (List.mem_of_getElem? (i := 20) rfl)
theorem wm_se_X10_doSign : (Cond.selects RX10 yX10_doSign yX10_doSign) ∈ wsL_law := in_r9 _ (List.mem_of_getElem? (i := 21) rfl)
theorem wm_co_X10_doSign : (Cond.code yX10_doSign cX10_doSign 4 (some .int)) ∈ wsL_law := in_r9 _ (List.mem_of_getElem? (i := 22) rfl)
theorem wm_ml_X10_70 : (Cond.methodLink RX10 70 yX10_clear) ∈ wsL_law := in_r9 _ (List.mem_of_getElem? (i := 23) rfl)
theorem wm_im_X10_clear : (Cond.instanceMethod yX10_clear) ∈ wsL_law := in_r10 _ (List.mem_of_getElem? (i := 0) rfl)
theorem wm_se_X10_clear : (Cond.selects RX10 yX10_clear yX10_clear) ∈ wsL_law := in_r10 _ (List.mem_of_getElem? (i := 1) rfl)
theorem wm_co_X10_clear : (Cond.code yX10_clear cX10_clear 3 none) ∈ wsL_law := in_r10 _ (List.mem_of_getElem? (i := 2) rfl)
theorem wm_ml_X10_53 : (Cond.methodLink RX10 53 yX10_put) ∈ wsL_law := in_r10 _ (List.mem_of_getElem? (i := 3) rfl)
theorem wm_im_X10_put : (Cond.instanceMethod yX10_put) ∈ wsL_law := in_r10 _ (List.mem_of_getElem? (i := 4) rfl)
theorem wm_se_X10_put : (Cond.selects RX10 yX10_put yX10_put) ∈ wsL_law := in_r10 _ (List.mem_of_getElem? (i := 5) rfl)
theorem wm_co_X10_put : (Cond.code yX10_put cX10_put 4 none) ∈ wsL_law := in_r10 _ (List.mem_of_getElem? (i := 6) rfl)
theorem wm_ml_L_18 : (Cond.methodLink RL 18 yX9_stock) ∈ wsL_law := in_r10 _ (List.mem_of_getElem? (i := 7) rfl)
theorem wm_im_X9_stock : (Cond.instanceMethod yX9_stock) ∈ wsL_law := in_r10 _ (List.mem_of_getElem? (i := 8) rfl)
theorem wm_se_X9_stock : (Cond.selects RX9 yX9_stock yX9_stock) ∈ wsL_law := in_r10 _ (List.mem_of_getElem? (i := 9) rfl)
theorem wm_co_X9_stock : (Cond.code yX9_stock cX9_stock 4 (some .int)) ∈ wsL_law := in_r10 _ (List.mem_of_getElem? (i := 10) rfl)
theorem wm_ml_X9_52 : (Cond.methodLink RX9 52 yX0_buyForChest) ∈ wsL_law := in_r10 _ (List.mem_of_getElem? (i := 11) rfl)
theorem wm_im_X0_buyForChest : (Cond.instanceMethod yX0_buyForChest) ∈ wsL_law := in_r10 _ (List.mem_of_getElem? (i := 12) rfl)
theorem wm_se_X0_buyForChest : (Cond.selects RX0 yX0_buyForChest yX0_buyForChest) ∈ wsL_law := in_r10 _ (List.mem_of_getElem? (i := 13) rfl)
theorem wm_co_X0_buyForChest : (Cond.code yX0_buyForChest cX0_buyForChest 5 (some .int)) ∈ wsL_law := in_r10 _ (List.mem_of_getElem? (i := 14) rfl)
theorem wm_fl_X0_95 : (Cond.fieldLink RX0 95 "PurserLedgers$Item" "inStock" "I") ∈ wsL_law := in_r10 _ (List.mem_of_getElem? (i := 15) rfl)
theorem wm_fl_X0_98 : (Cond.fieldLink RX0 98 "PurserLedgers$Totals" "spent" "I") ∈ wsL_law := in_r10 _ (List.mem_of_getElem? (i := 16) rfl)
theorem wm_fl_X0_112 : (Cond.fieldLink RX0 112 "PurserLedgers$Item" "price" "I") ∈ wsL_law := in_r10 _ (List.mem_of_getElem? (i := 17) rfl)
theorem wm_ml_X0_91 : (Cond.methodLink RX0 91 yX0_findItem) ∈ wsL_law := in_r10 _ (List.mem_of_getElem? (i := 18) rfl)
theorem wm_im_X0_findItem : (Cond.instanceMethod yX0_findItem) ∈ wsL_law := in_r10 _ (List.mem_of_getElem? (i := 19) rfl)
theorem wm_se_X0_findItem : (Cond.selects RX0 yX0_findItem yX0_findItem) ∈ wsL_law := in_r10 _ (List.mem_of_getElem? (i := 20) rfl)
theorem wm_co_X0_findItem : (Cond.code yX0_findItem cX0_findItem 2 (some (.object "PurserLedgers$Item"))) ∈ wsL_law := in_r10 _ (List.mem_of_getElem? (i := 21) rfl)
theorem wm_ml_X0_101 : (Cond.methodLink RX0 101 yX8_takeCash) ∈ wsL_law := in_r10 _ (List.mem_of_getElem? (i := 22) rfl)
theorem wm_im_X8_takeCash : (Cond.instanceMethod yX8_takeCash) ∈ wsL_law := in_r10 _ (List.mem_of_getElem? (i := 23) rfl)
theorem wm_se_X8_takeCash : (Cond.selects RX8 yX8_takeCash yX8_takeCash) ∈ wsL_law := in_r11 _ (List.mem_of_getElem? (i := 0) rfl)
theorem wm_co_X8_takeCash : (Cond.code yX8_takeCash cX8_takeCash 3 none) ∈ wsL_law := in_r11 _ (List.mem_of_getElem? (i := 1) rfl)
theorem wm_ml_X8_36 : (Cond.methodLink RX8 36 yX8_missingFor) ∈ wsL_law := in_r11 _ (List.mem_of_getElem? (i := 2) rfl)
theorem wm_im_X8_missingFor : (Cond.instanceMethod yX8_missingFor) ∈ wsL_law := in_r11 _ (List.mem_of_getElem? (i := 3) rfl)
theorem wm_se_X8_missingFor : (Cond.selects RX8 yX8_missingFor yX8_missingFor) ∈ wsL_law := in_r11 _ (List.mem_of_getElem? (i := 4) rfl)
theorem wm_co_X8_missingFor : (Cond.code yX8_missingFor cX8_missingFor 2 (some .int)) ∈ wsL_law := in_r11 _ (List.mem_of_getElem? (i := 5) rfl)
theorem wm_ml_X0_105 : (Cond.methodLink RX0 105 yX0_setting) ∈ wsL_law := in_r11 _ (List.mem_of_getElem? (i := 6) rfl)
theorem wm_im_X0_setting : (Cond.instanceMethod yX0_setting) ∈ wsL_law := in_r11 _ (List.mem_of_getElem? (i := 7) rfl)
theorem wm_se_X0_setting : (Cond.selects RX0 yX0_setting yX0_setting) ∈ wsL_law := in_r11 _ (List.mem_of_getElem? (i := 8) rfl)
theorem wm_co_X0_setting : (Cond.code yX0_setting cX0_setting 2 (some .int)) ∈ wsL_law := in_r11 _ (List.mem_of_getElem? (i := 9) rfl)
theorem wm_ml_X0_109 : (Cond.methodLink RX0 109 yX3_takeIn) ∈ wsL_law := in_r11 _ (List.mem_of_getElem? (i := 10) rfl)
theorem wm_im_X3_takeIn : (Cond.instanceMethod yX3_takeIn) ∈ wsL_law := in_r11 _ (List.mem_of_getElem? (i := 11) rfl)
theorem wm_se_X3_takeIn : (Cond.selects RX3 yX3_takeIn yX3_takeIn) ∈ wsL_law := in_r11 _ (List.mem_of_getElem? (i := 12) rfl)
theorem wm_co_X3_takeIn : (Cond.code yX3_takeIn cX3_takeIn 3 none) ∈ wsL_law := in_r11 _ (List.mem_of_getElem? (i := 13) rfl)
theorem wm_ml_L_22 : (Cond.methodLink RL 22 yX10_stock) ∈ wsL_law := in_r11 _ (List.mem_of_getElem? (i := 14) rfl)
theorem wm_im_X10_stock : (Cond.instanceMethod yX10_stock) ∈ wsL_law := in_r11 _ (List.mem_of_getElem? (i := 15) rfl)
theorem wm_se_X10_stock : (Cond.selects RX10 yX10_stock yX10_stock) ∈ wsL_law := in_r11 _ (List.mem_of_getElem? (i := 16) rfl)
theorem wm_co_X10_stock : (Cond.code yX10_stock cX10_stock 5 (some .int)) ∈ wsL_law := in_r11 _ (List.mem_of_getElem? (i := 17) rfl)
theorem wm_ml_X10_89 : (Cond.methodLink RX10 89 yX10_noStock) ∈ wsL_law := in_r11 _ (List.mem_of_getElem? (i := 18) rfl)
theorem wm_im_X10_noStock : (Cond.instanceMethod yX10_noStock) ∈ wsL_law := in_r11 _ (List.mem_of_getElem? (i := 19) rfl)
theorem wm_se_X10_noStock : (Cond.selects RX10 yX10_noStock yX10_noStock) ∈ wsL_law := in_r11 _ (List.mem_of_getElem? (i := 20) rfl)
theorem wm_co_X10_noStock : (Cond.code yX10_noStock cX10_noStock 4 (some .int)) ∈ wsL_law := in_r11 _ (List.mem_of_getElem? (i := 21) rfl)
theorem wm_ml_X10_83 : (Cond.methodLink RX10 83 yX10_isItem) ∈ wsL_law := in_r11 _ (List.mem_of_getElem? (i := 22) rfl)
theorem wm_st_X10_isItem : (Cond.static yX10_isItem) ∈ wsL_law := in_r11 _ (List.mem_of_getElem? (i := 23) rfl)
theorem wm_co_X10_isItem : (Cond.code yX10_isItem cX10_isItem 1 (some .boolean)) ∈ wsL_law := in_r12 _ (List.mem_of_getElem? (i := 0) rfl)
theorem wm_ml_X10_86 : (Cond.methodLink RX10 86 yX10_ofItem) ∈ wsL_law := in_r12 _ (List.mem_of_getElem? (i := 1) rfl)
theorem wm_im_X10_ofItem : (Cond.instanceMethod yX10_ofItem) ∈ wsL_law := in_r12 _ (List.mem_of_getElem? (i := 2) rfl)
theorem wm_se_X10_ofItem : (Cond.selects RX10 yX10_ofItem yX10_ofItem) ∈ wsL_law := in_r12 _ (List.mem_of_getElem? (i := 3) rfl)
theorem wm_co_X10_ofItem : (Cond.code yX10_ofItem cX10_ofItem 3 (some .int)) ∈ wsL_law := in_r12 _ (List.mem_of_getElem? (i := 4) rfl)
theorem wm_ml_X10_92 : (Cond.methodLink RX10 92 yX10_doStock) ∈ wsL_law := in_r12 _ (List.mem_of_getElem? (i := 5) rfl)
theorem wm_im_X10_doStock : (Cond.instanceMethod yX10_doStock) ∈ wsL_law := in_r12 _ (List.mem_of_getElem? (i := 6) rfl)
theorem wm_se_X10_doStock : (Cond.selects RX10 yX10_doStock yX10_doStock) ∈ wsL_law := in_r12 _ (List.mem_of_getElem? (i := 7) rfl)
theorem wm_co_X10_doStock : (Cond.code yX10_doStock cX10_doStock 5 (some .int)) ∈ wsL_law := in_r12 _ (List.mem_of_getElem? (i := 8) rfl)
theorem wm_ml_X10_60 : (Cond.methodLink RX10 60 yX10_spend) ∈ wsL_law := in_r12 _ (List.mem_of_getElem? (i := 9) rfl)
theorem wm_im_X10_spend : (Cond.instanceMethod yX10_spend) ∈ wsL_law := in_r12 _ (List.mem_of_getElem? (i := 10) rfl)
theorem wm_se_X10_spend : (Cond.selects RX10 yX10_spend yX10_spend) ∈ wsL_law := in_r12 _ (List.mem_of_getElem? (i := 11) rfl)
theorem wm_co_X10_spend : (Cond.code yX10_spend cX10_spend 2 none) ∈ wsL_law := in_r12 _ (List.mem_of_getElem? (i := 12) rfl)
theorem wm_ml_L_23 : (Cond.methodLink RL 23 yX9_sell) ∈ wsL_law := in_r12 _ (List.mem_of_getElem? (i := 13) rfl)
theorem wm_im_X9_sell : (Cond.instanceMethod yX9_sell) ∈ wsL_law := in_r12 _ (List.mem_of_getElem? (i := 14) rfl)
theorem wm_se_X9_sell : (Cond.selects RX9 yX9_sell yX9_sell) ∈ wsL_law := in_r12 _ (List.mem_of_getElem? (i := 15) rfl)
theorem wm_co_X9_sell : (Cond.code yX9_sell cX9_sell 4 (some .int)) ∈ wsL_law := in_r12 _ (List.mem_of_getElem? (i := 16) rfl)
theorem wm_ml_X9_56 : (Cond.methodLink RX9 56 yX0_sellFromChest) ∈ wsL_law := in_r12 _ (List.mem_of_getElem? (i := 17) rfl)
theorem wm_im_X0_sellFromChest : (Cond.instanceMethod yX0_sellFromChest) ∈ wsL_law := in_r12 _ (List.mem_of_getElem? (i := 18) rfl)
theorem wm_se_X0_sellFromChest : (Cond.selects RX0 yX0_sellFromChest yX0_sellFromChest) ∈ wsL_law := in_r12 _ (List.mem_of_getElem? (i := 19) rfl)
theorem wm_co_X0_sellFromChest : (Cond.code yX0_sellFromChest cX0_sellFromChest 7 (some .int)) ∈ wsL_law := in_r12 _ (List.mem_of_getElem? (i := 20) rfl)
theorem wm_fl_X0_126 : (Cond.fieldLink RX0 126 "PurserLedgers$Sailor" "bought" "I") ∈ wsL_law := in_r12 _ (List.mem_of_getElem? (i := 21) rfl)
theorem wm_fl_X0_129 : (Cond.fieldLink RX0 129 "PurserLedgers$Totals" "charged" "I") ∈ wsL_law := in_r12 _ (List.mem_of_getElem? (i := 22) rfl)
theorem wm_ml_X0_115 : (Cond.methodLink RX0 115 yX0_findSailor) ∈ wsL_law := in_r12 _ (List.mem_of_getElem? (i := 23) rfl)
theorem wm_im_X0_findSailor : (Cond.instanceMethod yX0_findSailor) ∈ wsL_law := in_r13 _ (List.mem_of_getElem? (i := 0) rfl)
theorem wm_se_X0_findSailor : (Cond.selects RX0 yX0_findSailor yX0_findSailor) ∈ wsL_law := in_r13 _ (List.mem_of_getElem? (i := 1) rfl)
theorem wm_co_X0_findSailor : (Cond.code yX0_findSailor cX0_findSailor 2 (some (.object "PurserLedgers$Sailor"))) ∈ wsL_law := in_r13 _ (List.mem_of_getElem? (i := 2) rfl)
theorem wm_ml_X0_119 : (Cond.methodLink RX0 119 yX0_reasonAgainst) ∈ wsL_law := in_r13 _ (List.mem_of_getElem? (i := 3) rfl)
theorem wm_im_X0_reasonAgainst : (Cond.instanceMethod yX0_reasonAgainst) ∈ wsL_law := in_r13 _ (List.mem_of_getElem? (i := 4) rfl)
theorem wm_se_X0_reasonAgainst : (Cond.selects RX0 yX0_reasonAgainst yX0_reasonAgainst) ∈ wsL_law := in_r13 _ (List.mem_of_getElem? (i := 5) rfl)
theorem wm_co_X0_reasonAgainst : (Cond.code yX0_reasonAgainst cX0_reasonAgainst 4 (some .int)) ∈ wsL_law := in_r13 _ (List.mem_of_getElem? (i := 6) rfl)
theorem wm_fl_X0_136 : (Cond.fieldLink RX0 136 "PurserLedgers$Sailor" "whereabouts" "I") ∈ wsL_law := in_r13 _ (List.mem_of_getElem? (i := 7) rfl)
theorem wm_ml_X0_139 : (Cond.methodLink RX0 139 yX6_balance) ∈ wsL_law := in_r13 _ (List.mem_of_getElem? (i := 8) rfl)
theorem wm_im_X6_balance : (Cond.instanceMethod yX6_balance) ∈ wsL_law := in_r13 _ (List.mem_of_getElem? (i := 9) rfl)
theorem wm_se_X6_balance : (Cond.selects RX6 yX6_balance yX6_balance) ∈ wsL_law := in_r13 _ (List.mem_of_getElem? (i := 10) rfl)
theorem wm_co_X6_balance : (Cond.code yX6_balance cX6_balance 1 (some .int)) ∈ wsL_law := in_r13 _ (List.mem_of_getElem? (i := 11) rfl)
theorem wm_ml_X6_50 : (Cond.methodLink RX6 50 yX6_wages) ∈ wsL_law := in_r13 _ (List.mem_of_getElem? (i := 12) rfl)
theorem wm_im_X6_wages : (Cond.instanceMethod yX6_wages) ∈ wsL_law := in_r13 _ (List.mem_of_getElem? (i := 13) rfl)
theorem wm_se_X6_wages : (Cond.selects RX6 yX6_wages yX6_wages) ∈ wsL_law := in_r13 _ (List.mem_of_getElem? (i := 14) rfl)
theorem wm_co_X6_wages : (Cond.code yX6_wages cX6_wages 3 (some .int)) ∈ wsL_law := in_r13 _ (List.mem_of_getElem? (i := 15) rfl)
theorem wm_ml_X6_54 : (Cond.methodLink RX6 54 yX6_charged) ∈ wsL_law := in_r13 _ (List.mem_of_getElem? (i := 16) rfl)
theorem wm_im_X6_charged : (Cond.instanceMethod yX6_charged) ∈ wsL_law := in_r13 _ (List.mem_of_getElem? (i := 17) rfl)
theorem wm_se_X6_charged : (Cond.selects RX6 yX6_charged yX6_charged) ∈ wsL_law := in_r13 _ (List.mem_of_getElem? (i := 18) rfl)
theorem wm_co_X6_charged : (Cond.code yX6_charged cX6_charged 1 (some .int)) ∈ wsL_law := in_r13 _ (List.mem_of_getElem? (i := 19) rfl)
theorem wm_ml_X0_123 : (Cond.methodLink RX0 123 yX3_giveOut) ∈ wsL_law := in_r13 _ (List.mem_of_getElem? (i := 20) rfl)
theorem wm_im_X3_giveOut : (Cond.instanceMethod yX3_giveOut) ∈ wsL_law := in_r13 _ (List.mem_of_getElem? (i := 21) rfl)
theorem wm_se_X3_giveOut : (Cond.selects RX3 yX3_giveOut yX3_giveOut) ∈ wsL_law := in_r13 _ (List.mem_of_getElem? (i := 22) rfl)
theorem wm_co_X3_giveOut : (Cond.code yX3_giveOut cX3_giveOut 3 none) ∈ wsL_law := in_r13 _ (List.mem_of_getElem? (i := 23) rfl)
theorem wm_ml_X0_132 : (Cond.methodLink RX0 132 yX1_enter) ∈ wsL_law := in_r14 _ (List.mem_of_getElem? (i := 0) rfl)
theorem wm_im_X1_enter : (Cond.instanceMethod yX1_enter) ∈ wsL_law := in_r14 _ (List.mem_of_getElem? (i := 1) rfl)
theorem wm_se_X1_enter : (Cond.selects RX1 yX1_enter yX1_enter) ∈ wsL_law := in_r14 _ (List.mem_of_getElem? (i := 2) rfl)
theorem wm_co_X1_enter : (Cond.code yX1_enter cX1_enter 4 none) ∈ wsL_law := in_r14 _ (List.mem_of_getElem? (i := 3) rfl)
theorem wm_ml_X1_29 : (Cond.methodLink RX1 29 yX1_putAhead) ∈ wsL_law := in_r14 _ (List.mem_of_getElem? (i := 4) rfl)
theorem wm_st_X1_putAhead : (Cond.static yX1_putAhead) ∈ wsL_law := in_r14 _ (List.mem_of_getElem? (i := 5) rfl)
theorem wm_co_X1_putAhead : (Cond.code yX1_putAhead cX1_putAhead 3 none) ∈ wsL_law := in_r14 _ (List.mem_of_getElem? (i := 6) rfl)
theorem wm_ml_L_26 : (Cond.methodLink RL 26 yX10_sell) ∈ wsL_law := in_r14 _ (List.mem_of_getElem? (i := 7) rfl)
theorem wm_im_X10_sell : (Cond.instanceMethod yX10_sell) ∈ wsL_law := in_r14 _ (List.mem_of_getElem? (i := 8) rfl)
theorem wm_se_X10_sell : (Cond.selects RX10 yX10_sell yX10_sell) ∈ wsL_law := in_r14 _ (List.mem_of_getElem? (i := 9) rfl)
theorem wm_co_X10_sell : (Cond.code yX10_sell cX10_sell 5 (some .int)) ∈ wsL_law := in_r14 _ (List.mem_of_getElem? (i := 10) rfl)
theorem wm_ml_X10_107 : (Cond.methodLink RX10 107 yX10_noSell) ∈ wsL_law := in_r14 _ (List.mem_of_getElem? (i := 11) rfl)
theorem wm_im_X10_noSell : (Cond.instanceMethod yX10_noSell) ∈ wsL_law := in_r14 _ (List.mem_of_getElem? (i := 12) rfl)
theorem wm_se_X10_noSell : (Cond.selects RX10 yX10_noSell yX10_noSell) ∈ wsL_law := in_r14 _ (List.mem_of_getElem? (i := 13) rfl)
theorem wm_co_X10_noSell : (Cond.code yX10_noSell cX10_noSell 4 (some .int)) ∈ wsL_law := in_r14 _ (List.mem_of_getElem? (i := 14) rfl)
theorem wm_ml_X10_98 : (Cond.methodLink RX10 98 yX10_isSailor) ∈ wsL_law := in_r14 _ (List.mem_of_getElem? (i := 15) rfl)
theorem wm_im_X10_isSailor : (Cond.instanceMethod yX10_isSailor) ∈ wsL_law := in_r14 _ (List.mem_of_getElem? (i := 16) rfl)
theorem wm_se_X10_isSailor : (Cond.selects RX10 yX10_isSailor yX10_isSailor) ∈ wsL_law := in_r14 _ (List.mem_of_getElem? (i := 17) rfl)
theorem wm_co_X10_isSailor : (Cond.code yX10_isSailor cX10_isSailor 2 (some .boolean)) ∈ wsL_law := in_r14 _ (List.mem_of_getElem? (i := 18) rfl)
theorem wm_ml_X10_101 : (Cond.methodLink RX10 101 yX10_whyNot) ∈ wsL_law := in_r14 _ (List.mem_of_getElem? (i := 19) rfl)
theorem wm_im_X10_whyNot : (Cond.instanceMethod yX10_whyNot) ∈ wsL_law := in_r14 _ (List.mem_of_getElem? (i := 20) rfl)
theorem wm_se_X10_whyNot : (Cond.selects RX10 yX10_whyNot yX10_whyNot) ∈ wsL_law := in_r14 _ (List.mem_of_getElem? (i := 21) rfl)
theorem wm_co_X10_whyNot : (Cond.code yX10_whyNot cX10_whyNot 4 (some .int)) ∈ wsL_law := in_r14 _ (List.mem_of_getElem? (i := 22) rfl)
theorem wm_ml_X10_29 : (Cond.methodLink RX10 29 yX10_of) ∈ wsL_law := in_r14 _ (List.mem_of_getElem? (i := 23) rfl)
theorem wm_im_X10_of : (Cond.instanceMethod yX10_of) ∈ wsL_law := in_r15 _ (List.mem_of_getElem? (i := 0) rfl)
theorem wm_se_X10_of : (Cond.selects RX10 yX10_of yX10_of) ∈ wsL_law := in_r15 _ (List.mem_of_getElem? (i := 1) rfl)
theorem wm_co_X10_of : (Cond.code yX10_of cX10_of 3 (some .int)) ∈ wsL_law := in_r15 _ (List.mem_of_getElem? (i := 2) rfl)
theorem wm_ml_X10_95 : (Cond.methodLink RX10 95 yX10_balance) ∈ wsL_law := in_r15 _ (List.mem_of_getElem? (i := 3) rfl)
theorem wm_im_X10_balance : (Cond.instanceMethod yX10_balance) ∈ wsL_law := in_r15 _ (List.mem_of_getElem? (i := 4) rfl)
theorem wm_se_X10_balance : (Cond.selects RX10 yX10_balance yX10_balance) ∈ wsL_law := in_r15 _ (List.mem_of_getElem? (i := 5) rfl)
theorem wm_co_X10_balance : (Cond.code yX10_balance cX10_balance 2 (some .int)) ∈ wsL_law := in_r15 _ (List.mem_of_getElem? (i := 6) rfl)
theorem wm_ml_X10_42 : (Cond.methodLink RX10 42 yX10_isGone) ∈ wsL_law := in_r15 _ (List.mem_of_getElem? (i := 7) rfl)
theorem wm_im_X10_isGone : (Cond.instanceMethod yX10_isGone) ∈ wsL_law := in_r15 _ (List.mem_of_getElem? (i := 8) rfl)
theorem wm_se_X10_isGone : (Cond.selects RX10 yX10_isGone yX10_isGone) ∈ wsL_law := in_r15 _ (List.mem_of_getElem? (i := 9) rfl)
theorem wm_co_X10_isGone : (Cond.code yX10_isGone cX10_isGone 2 (some .boolean)) ∈ wsL_law := in_r15 _ (List.mem_of_getElem? (i := 10) rfl)
theorem wm_ml_X10_46 : (Cond.methodLink RX10 46 yX10_earned) ∈ wsL_law := in_r15 _ (List.mem_of_getElem? (i := 11) rfl)
theorem wm_im_X10_earned : (Cond.instanceMethod yX10_earned) ∈ wsL_law := in_r15 _ (List.mem_of_getElem? (i := 12) rfl)
theorem wm_se_X10_earned : (Cond.selects RX10 yX10_earned yX10_earned) ∈ wsL_law := in_r15 _ (List.mem_of_getElem? (i := 13) rfl)
theorem wm_co_X10_earned : (Cond.code yX10_earned cX10_earned 2 (some .int)) ∈ wsL_law := in_r15 _ (List.mem_of_getElem? (i := 14) rfl)
theorem wm_ml_X10_38 : (Cond.methodLink RX10 38 yX10_wages) ∈ wsL_law := in_r15 _ (List.mem_of_getElem? (i := 15) rfl)
theorem wm_st_X10_wages : (Cond.static yX10_wages) ∈ wsL_law := in_r15 _ (List.mem_of_getElem? (i := 16) rfl)
theorem wm_co_X10_wages : (Cond.code yX10_wages cX10_wages 4 (some .int)) ∈ wsL_law := in_r15 _ (List.mem_of_getElem? (i := 17) rfl)
theorem wm_ml_X10_50 : (Cond.methodLink RX10 50 yX10_charged) ∈ wsL_law := in_r15 _ (List.mem_of_getElem? (i := 18) rfl)
theorem wm_im_X10_charged : (Cond.instanceMethod yX10_charged) ∈ wsL_law := in_r15 _ (List.mem_of_getElem? (i := 19) rfl)
theorem wm_se_X10_charged : (Cond.selects RX10 yX10_charged yX10_charged) ∈ wsL_law := in_r15 _ (List.mem_of_getElem? (i := 20) rfl)
theorem wm_co_X10_charged : (Cond.code yX10_charged cX10_charged 2 (some .int)) ∈ wsL_law := in_r15 _ (List.mem_of_getElem? (i := 21) rfl)
theorem wm_ml_X10_110 : (Cond.methodLink RX10 110 yX10_doSell) ∈ wsL_law := in_r15 _ (List.mem_of_getElem? (i := 22) rfl)
theorem wm_im_X10_doSell : (Cond.instanceMethod yX10_doSell) ∈ wsL_law := in_r15 _ (List.mem_of_getElem? (i := 23) rfl)
theorem wm_se_X10_doSell : (Cond.selects RX10 yX10_doSell yX10_doSell) ∈ wsL_law := in_r16 _ (List.mem_of_getElem? (i := 0) rfl)
theorem wm_co_X10_doSell : (Cond.code yX10_doSell cX10_doSell 6 (some .int)) ∈ wsL_law := in_r16 _ (List.mem_of_getElem? (i := 1) rfl)
theorem wm_ml_X10_104 : (Cond.methodLink RX10 104 yX10_charge) ∈ wsL_law := in_r16 _ (List.mem_of_getElem? (i := 2) rfl)
theorem wm_im_X10_charge : (Cond.instanceMethod yX10_charge) ∈ wsL_law := in_r16 _ (List.mem_of_getElem? (i := 3) rfl)
theorem wm_se_X10_charge : (Cond.selects RX10 yX10_charge yX10_charge) ∈ wsL_law := in_r16 _ (List.mem_of_getElem? (i := 4) rfl)
theorem wm_co_X10_charge : (Cond.code yX10_charge cX10_charge 4 none) ∈ wsL_law := in_r16 _ (List.mem_of_getElem? (i := 5) rfl)
theorem wm_ml_X10_57 : (Cond.methodLink RX10 57 yX10_write) ∈ wsL_law := in_r16 _ (List.mem_of_getElem? (i := 6) rfl)
theorem wm_im_X10_write : (Cond.instanceMethod yX10_write) ∈ wsL_law := in_r16 _ (List.mem_of_getElem? (i := 7) rfl)
theorem wm_se_X10_write : (Cond.selects RX10 yX10_write yX10_write) ∈ wsL_law := in_r16 _ (List.mem_of_getElem? (i := 8) rfl)
theorem wm_co_X10_write : (Cond.code yX10_write cX10_write 5 none) ∈ wsL_law := in_r16 _ (List.mem_of_getElem? (i := 9) rfl)
theorem wm_ml_L_27 : (Cond.methodLink RL 27 yX9_advance) ∈ wsL_law := in_r16 _ (List.mem_of_getElem? (i := 10) rfl)
theorem wm_im_X9_advance : (Cond.instanceMethod yX9_advance) ∈ wsL_law := in_r16 _ (List.mem_of_getElem? (i := 11) rfl)
theorem wm_se_X9_advance : (Cond.selects RX9 yX9_advance yX9_advance) ∈ wsL_law := in_r16 _ (List.mem_of_getElem? (i := 12) rfl)
theorem wm_co_X9_advance : (Cond.code yX9_advance cX9_advance 3 (some .int)) ∈ wsL_law := in_r16 _ (List.mem_of_getElem? (i := 13) rfl)
theorem wm_ml_X9_59 : (Cond.methodLink RX9 59 yX0_advanceTo) ∈ wsL_law := in_r16 _ (List.mem_of_getElem? (i := 14) rfl)
theorem wm_im_X0_advanceTo : (Cond.instanceMethod yX0_advanceTo) ∈ wsL_law := in_r16 _ (List.mem_of_getElem? (i := 15) rfl)
theorem wm_se_X0_advanceTo : (Cond.selects RX0 yX0_advanceTo yX0_advanceTo) ∈ wsL_law := in_r16 _ (List.mem_of_getElem? (i := 16) rfl)
theorem wm_co_X0_advanceTo : (Cond.code yX0_advanceTo cX0_advanceTo 4 (some .int)) ∈ wsL_law := in_r16 _ (List.mem_of_getElem? (i := 17) rfl)
theorem wm_fl_X0_153 : (Cond.fieldLink RX0 153 "PurserLedgers$Sailor" "advances" "I") ∈ wsL_law := in_r16 _ (List.mem_of_getElem? (i := 18) rfl)
theorem wm_fl_X0_156 : (Cond.fieldLink RX0 156 "PurserLedgers$Totals" "advanced" "I") ∈ wsL_law := in_r16 _ (List.mem_of_getElem? (i := 19) rfl)
theorem wm_fl_X0_159 : (Cond.fieldLink RX0 159 "PurserLedgers$Totals" "cash" "I") ∈ wsL_law := in_r16 _ (List.mem_of_getElem? (i := 20) rfl)
theorem wm_ml_X0_149 : (Cond.methodLink RX0 149 yX6_isGone) ∈ wsL_law := in_r16 _ (List.mem_of_getElem? (i := 21) rfl)
theorem wm_im_X6_isGone : (Cond.instanceMethod yX6_isGone) ∈ wsL_law := in_r16 _ (List.mem_of_getElem? (i := 22) rfl)
theorem wm_se_X6_isGone : (Cond.selects RX6 yX6_isGone yX6_isGone) ∈ wsL_law := in_r16 _ (List.mem_of_getElem? (i := 23) rfl)
theorem wm_co_X6_isGone : (Cond.code yX6_isGone cX6_isGone 1 (some .boolean)) ∈ wsL_law := in_r17 _ (List.mem_of_getElem? (i := 0) rfl)
theorem wm_ml_L_30 : (Cond.methodLink RL 30 yX10_advance) ∈ wsL_law := in_r17 _ (List.mem_of_getElem? (i := 1) rfl)
theorem wm_im_X10_advance : (Cond.instanceMethod yX10_advance) ∈ wsL_law := in_r17 _ (List.mem_of_getElem? (i := 2) rfl)
theorem wm_se_X10_advance : (Cond.selects RX10 yX10_advance yX10_advance) ∈ wsL_law := in_r17 _ (List.mem_of_getElem? (i := 3) rfl)
theorem wm_co_X10_advance : (Cond.code yX10_advance cX10_advance 4 (some .int)) ∈ wsL_law := in_r17 _ (List.mem_of_getElem? (i := 4) rfl)
theorem wm_ml_X10_113 : (Cond.methodLink RX10 113 yX10_noAdvance) ∈ wsL_law := in_r17 _ (List.mem_of_getElem? (i := 5) rfl)
theorem wm_im_X10_noAdvance : (Cond.instanceMethod yX10_noAdvance) ∈ wsL_law := in_r17 _ (List.mem_of_getElem? (i := 6) rfl)
theorem wm_se_X10_noAdvance : (Cond.selects RX10 yX10_noAdvance yX10_noAdvance) ∈ wsL_law := in_r17 _ (List.mem_of_getElem? (i := 7) rfl)
theorem wm_co_X10_noAdvance : (Cond.code yX10_noAdvance cX10_noAdvance 3 (some .int)) ∈ wsL_law := in_r17 _ (List.mem_of_getElem? (i := 8) rfl)
theorem wm_ml_X10_116 : (Cond.methodLink RX10 116 yX10_doAdvance) ∈ wsL_law := in_r17 _ (List.mem_of_getElem? (i := 9) rfl)
theorem wm_im_X10_doAdvance : (Cond.instanceMethod yX10_doAdvance) ∈ wsL_law := in_r17 _ (List.mem_of_getElem? (i := 10) rfl)
theorem wm_se_X10_doAdvance : (Cond.selects RX10 yX10_doAdvance yX10_doAdvance) ∈ wsL_law := in_r17 _ (List.mem_of_getElem? (i := 11) rfl)
theorem wm_co_X10_doAdvance : (Cond.code yX10_doAdvance cX10_doAdvance 3 (some .int)) ∈ wsL_law := in_r17 _ (List.mem_of_getElem? (i := 12) rfl)
theorem wm_ml_L_31 : (Cond.methodLink RL 31 yX9_fine) ∈ wsL_law := in_r17 _ (List.mem_of_getElem? (i := 13) rfl)
theorem wm_im_X9_fine : (Cond.instanceMethod yX9_fine) ∈ wsL_law := in_r17 _ (List.mem_of_getElem? (i := 14) rfl)
theorem wm_se_X9_fine : (Cond.selects RX9 yX9_fine yX9_fine) ∈ wsL_law := in_r17 _ (List.mem_of_getElem? (i := 15) rfl)
theorem wm_co_X9_fine : (Cond.code yX9_fine cX9_fine 3 (some .int)) ∈ wsL_law := in_r17 _ (List.mem_of_getElem? (i := 16) rfl)
theorem wm_ml_X9_62 : (Cond.methodLink RX9 62 yX0_fineOne) ∈ wsL_law := in_r17 _ (List.mem_of_getElem? (i := 17) rfl)
theorem wm_im_X0_fineOne : (Cond.instanceMethod yX0_fineOne) ∈ wsL_law := in_r17 _ (List.mem_of_getElem? (i := 18) rfl)
theorem wm_se_X0_fineOne : (Cond.selects RX0 yX0_fineOne yX0_fineOne) ∈ wsL_law := in_r17 _ (List.mem_of_getElem? (i := 19) rfl)
theorem wm_co_X0_fineOne : (Cond.code yX0_fineOne cX0_fineOne 4 (some .int)) ∈ wsL_law := in_r17 _ (List.mem_of_getElem? (i := 20) rfl)
theorem wm_ml_X0_162 : (Cond.methodLink RX0 162 yX6_couldBeFined) ∈ wsL_law := in_r17 _ (List.mem_of_getElem? (i := 21) rfl)
theorem wm_im_X6_couldBeFined : (Cond.instanceMethod yX6_couldBeFined) ∈ wsL_law := in_r17 _ (List.mem_of_getElem? (i := 22) rfl)
theorem wm_se_X6_couldBeFined : (Cond.selects RX6 yX6_couldBeFined yX6_couldBeFined) ∈ wsL_law := in_r17 _ (List.mem_of_getElem? (i := 23) rfl)
theorem wm_co_X6_couldBeFined : (Cond.code yX6_couldBeFined cX6_couldBeFined 2 (some .boolean)) ∈ wsL_law := in_r18 _ (List.mem_of_getElem? (i := 0) rfl)
theorem wm_ml_X6_58 : (Cond.methodLink RX6 58 yX6_balance) ∈ wsL_law := in_r18 _ (List.mem_of_getElem? (i := 1) rfl)
theorem wm_ml_X0_166 : (Cond.methodLink RX0 166 yX0_chargeFine) ∈ wsL_law := in_r18 _ (List.mem_of_getElem? (i := 2) rfl)
theorem wm_im_X0_chargeFine : (Cond.instanceMethod yX0_chargeFine) ∈ wsL_law := in_r18 _ (List.mem_of_getElem? (i := 3) rfl)
theorem wm_se_X0_chargeFine : (Cond.selects RX0 yX0_chargeFine yX0_chargeFine) ∈ wsL_law := in_r18 _ (List.mem_of_getElem? (i := 4) rfl)
theorem wm_co_X0_chargeFine : (Cond.code yX0_chargeFine cX0_chargeFine 4 none) ∈ wsL_law := in_r18 _ (List.mem_of_getElem? (i := 5) rfl)
theorem wm_fl_X0_170 : (Cond.fieldLink RX0 170 "PurserLedgers$Sailor" "fines" "I") ∈ wsL_law := in_r18 _ (List.mem_of_getElem? (i := 6) rfl)
theorem wm_fl_X0_173 : (Cond.fieldLink RX0 173 "PurserLedgers$Totals" "fines" "I") ∈ wsL_law := in_r18 _ (List.mem_of_getElem? (i := 7) rfl)
theorem wm_ml_L_34 : (Cond.methodLink RL 34 yX10_fine) ∈ wsL_law := in_r18 _ (List.mem_of_getElem? (i := 8) rfl)
theorem wm_im_X10_fine : (Cond.instanceMethod yX10_fine) ∈ wsL_law := in_r18 _ (List.mem_of_getElem? (i := 9) rfl)
theorem wm_se_X10_fine : (Cond.selects RX10 yX10_fine yX10_fine) ∈ wsL_law := in_r18 _ (List.mem_of_getElem? (i := 10) rfl)
theorem wm_co_X10_fine : (Cond.code yX10_fine cX10_fine 4 (some .int)) ∈ wsL_law := in_r18 _ (List.mem_of_getElem? (i := 11) rfl)
theorem wm_ml_X10_119 : (Cond.methodLink RX10 119 yX10_noFine) ∈ wsL_law := in_r18 _ (List.mem_of_getElem? (i := 12) rfl)
theorem wm_im_X10_noFine : (Cond.instanceMethod yX10_noFine) ∈ wsL_law := in_r18 _ (List.mem_of_getElem? (i := 13) rfl)
theorem wm_se_X10_noFine : (Cond.selects RX10 yX10_noFine yX10_noFine) ∈ wsL_law := in_r18 _ (List.mem_of_getElem? (i := 14) rfl)
theorem wm_co_X10_noFine : (Cond.code yX10_noFine cX10_noFine 3 (some .int)) ∈ wsL_law := in_r18 _ (List.mem_of_getElem? (i := 15) rfl)
theorem wm_ml_X10_122 : (Cond.methodLink RX10 122 yX10_doFine) ∈ wsL_law := in_r18 _ (List.mem_of_getElem? (i := 16) rfl)
theorem wm_im_X10_doFine : (Cond.instanceMethod yX10_doFine) ∈ wsL_law := in_r18 _ (List.mem_of_getElem? (i := 17) rfl)
theorem wm_se_X10_doFine : (Cond.selects RX10 yX10_doFine yX10_doFine) ∈ wsL_law := in_r18 _ (List.mem_of_getElem? (i := 18) rfl)
theorem wm_co_X10_doFine : (Cond.code yX10_doFine cX10_doFine 3 (some .int)) ∈ wsL_law := in_r18 _ (List.mem_of_getElem? (i := 19) rfl)
theorem wm_ml_L_35 : (Cond.methodLink RL 35 yX9_fineWatch) ∈ wsL_law := in_r18 _ (List.mem_of_getElem? (i := 20) rfl)
theorem wm_im_X9_fineWatch : (Cond.instanceMethod yX9_fineWatch) ∈ wsL_law := in_r18 _ (List.mem_of_getElem? (i := 21) rfl)
theorem wm_se_X9_fineWatch : (Cond.selects RX9 yX9_fineWatch yX9_fineWatch) ∈ wsL_law := in_r18 _ (List.mem_of_getElem? (i := 22) rfl)
theorem wm_co_X9_fineWatch : (Cond.code yX9_fineWatch cX9_fineWatch 3 (some .int)) ∈ wsL_law := in_r18 _ (List.mem_of_getElem? (i := 23) rfl)
theorem wm_ml_X9_65 : (Cond.methodLink RX9 65 yX0_fineAll) ∈ wsL_law := in_r19 _ (List.mem_of_getElem? (i := 0) rfl)
theorem wm_im_X0_fineAll : (Cond.instanceMethod yX0_fineAll) ∈ wsL_law := in_r19 _ (List.mem_of_getElem? (i := 1) rfl)
theorem wm_se_X0_fineAll : (Cond.selects RX0 yX0_fineAll yX0_fineAll) ∈ wsL_law := in_r19 _ (List.mem_of_getElem? (i := 2) rfl)
theorem wm_co_X0_fineAll : (Cond.code yX0_fineAll cX0_fineAll 7 (some .int)) ∈ wsL_law := in_r19 _ (List.mem_of_getElem? (i := 3) rfl)
theorem wm_ml_X0_174 : (Cond.methodLink RX0 174 yX0_sizeOfWatch) ∈ wsL_law := in_r19 _ (List.mem_of_getElem? (i := 4) rfl)
theorem wm_im_X0_sizeOfWatch : (Cond.instanceMethod yX0_sizeOfWatch) ∈ wsL_law := in_r19 _ (List.mem_of_getElem? (i := 5) rfl)
theorem wm_se_X0_sizeOfWatch : (Cond.selects RX0 yX0_sizeOfWatch yX0_sizeOfWatch) ∈ wsL_law := in_r19 _ (List.mem_of_getElem? (i := 6) rfl)
theorem wm_co_X0_sizeOfWatch : (Cond.code yX0_sizeOfWatch cX0_sizeOfWatch 4 (some .int)) ∈ wsL_law := in_r19 _ (List.mem_of_getElem? (i := 7) rfl)
theorem wm_ml_X0_180 : (Cond.methodLink RX0 180 yX6_isOfWatch) ∈ wsL_law := in_r19 _ (List.mem_of_getElem? (i := 8) rfl)
theorem wm_im_X6_isOfWatch : (Cond.instanceMethod yX6_isOfWatch) ∈ wsL_law := in_r19 _ (List.mem_of_getElem? (i := 9) rfl)
theorem wm_se_X6_isOfWatch : (Cond.selects RX6 yX6_isOfWatch yX6_isOfWatch) ∈ wsL_law := in_r19 _ (List.mem_of_getElem? (i := 10) rfl)
theorem wm_co_X6_isOfWatch : (Cond.code yX6_isOfWatch cX6_isOfWatch 2 (some .boolean)) ∈ wsL_law := in_r19 _ (List.mem_of_getElem? (i := 11) rfl)
theorem wm_ml_X6_46 : (Cond.methodLink RX6 46 yX6_isGone) ∈ wsL_law := in_r19 _ (List.mem_of_getElem? (i := 12) rfl)
theorem wm_ml_X0_177 : (Cond.methodLink RX0 177 yX0_couldAllBeFined) ∈ wsL_law := in_r19 _ (List.mem_of_getElem? (i := 13) rfl)
theorem wm_im_X0_couldAllBeFined : (Cond.instanceMethod yX0_couldAllBeFined) ∈ wsL_law := in_r19 _ (List.mem_of_getElem? (i := 14) rfl)
theorem wm_se_X0_couldAllBeFined : (Cond.selects RX0 yX0_couldAllBeFined yX0_couldAllBeFined) ∈ wsL_law := in_r19 _ (List.mem_of_getElem? (i := 15) rfl)
theorem wm_co_X0_couldAllBeFined : (Cond.code yX0_couldAllBeFined cX0_couldAllBeFined 6 (some .boolean)) ∈ wsL_law := in_r19 _ (List.mem_of_getElem? (i := 16) rfl)
theorem wm_ml_L_38 : (Cond.methodLink RL 38 yX10_fineWatch) ∈ wsL_law := in_r19 _ (List.mem_of_getElem? (i := 17) rfl)
theorem wm_im_X10_fineWatch : (Cond.instanceMethod yX10_fineWatch) ∈ wsL_law := in_r19 _ (List.mem_of_getElem? (i := 18) rfl)
theorem wm_se_X10_fineWatch : (Cond.selects RX10 yX10_fineWatch yX10_fineWatch) ∈ wsL_law := in_r19 _ (List.mem_of_getElem? (i := 19) rfl)
theorem wm_co_X10_fineWatch : (Cond.code yX10_fineWatch cX10_fineWatch 6 (some .int)) ∈ wsL_law := in_r19 _ (List.mem_of_getElem? (i := 20) rfl)
theorem wm_ml_X10_125 : (Cond.methodLink RX10 125 yX10_ofWatch) ∈ wsL_law := in_r19 _ (List.mem_of_getElem? (i := 21) rfl)
theorem wm_im_X10_ofWatch : (Cond.instanceMethod yX10_ofWatch) ∈ wsL_law := in_r19 _ (List.mem_of_getElem? (i := 22) rfl)
theorem wm_se_X10_ofWatch : (Cond.selects RX10 yX10_ofWatch yX10_ofWatch) ∈ wsL_law := in_r19 _ (List.mem_of_getElem? (i := 23) rfl)
theorem wm_co_X10_ofWatch : (Cond.code yX10_ofWatch cX10_ofWatch 5 (some .int)) ∈ wsL_law := in_r20 _ (List.mem_of_getElem? (i := 0) rfl)
theorem wm_ml_X10_128 : (Cond.methodLink RX10 128 yX10_isFined) ∈ wsL_law := in_r20 _ (List.mem_of_getElem? (i := 1) rfl)
theorem wm_im_X10_isFined : (Cond.instanceMethod yX10_isFined) ∈ wsL_law := in_r20 _ (List.mem_of_getElem? (i := 2) rfl)
theorem wm_se_X10_isFined : (Cond.selects RX10 yX10_isFined yX10_isFined) ∈ wsL_law := in_r20 _ (List.mem_of_getElem? (i := 3) rfl)
theorem wm_co_X10_isFined : (Cond.code yX10_isFined cX10_isFined 3 (some .boolean)) ∈ wsL_law := in_r20 _ (List.mem_of_getElem? (i := 4) rfl)
theorem wm_ml_X10_132 : (Cond.methodLink RX10 132 yX10_partOf) ∈ wsL_law := in_r20 _ (List.mem_of_getElem? (i := 5) rfl)
theorem wm_im_X10_partOf : (Cond.instanceMethod yX10_partOf) ∈ wsL_law := in_r20 _ (List.mem_of_getElem? (i := 6) rfl)
theorem wm_se_X10_partOf : (Cond.selects RX10 yX10_partOf yX10_partOf) ∈ wsL_law := in_r20 _ (List.mem_of_getElem? (i := 7) rfl)
theorem wm_co_X10_partOf : (Cond.code yX10_partOf cX10_partOf 5 (some .int)) ∈ wsL_law := in_r20 _ (List.mem_of_getElem? (i := 8) rfl)
theorem wm_ml_L_39 : (Cond.methodLink RL 39 yX9_leave) ∈ wsL_law := in_r20 _ (List.mem_of_getElem? (i := 9) rfl)
theorem wm_im_X9_leave : (Cond.instanceMethod yX9_leave) ∈ wsL_law := in_r20 _ (List.mem_of_getElem? (i := 10) rfl)
theorem wm_se_X9_leave : (Cond.selects RX9 yX9_leave yX9_leave) ∈ wsL_law := in_r20 _ (List.mem_of_getElem? (i := 11) rfl)
theorem wm_co_X9_leave : (Cond.code yX9_leave cX9_leave 2 (some .int)) ∈ wsL_law := in_r20 _ (List.mem_of_getElem? (i := 12) rfl)
theorem wm_ml_X9_68 : (Cond.methodLink RX9 68 yX0_letAshore) ∈ wsL_law := in_r20 _ (List.mem_of_getElem? (i := 13) rfl)
theorem wm_im_X0_letAshore : (Cond.instanceMethod yX0_letAshore) ∈ wsL_law := in_r20 _ (List.mem_of_getElem? (i := 14) rfl)
theorem wm_se_X0_letAshore : (Cond.selects RX0 yX0_letAshore yX0_letAshore) ∈ wsL_law := in_r20 _ (List.mem_of_getElem? (i := 15) rfl)
theorem wm_co_X0_letAshore : (Cond.code yX0_letAshore cX0_letAshore 4 (some .int)) ∈ wsL_law := in_r20 _ (List.mem_of_getElem? (i := 16) rfl)
theorem wm_ml_X0_183 : (Cond.methodLink RX0 183 yX0_setOf) ∈ wsL_law := in_r20 _ (List.mem_of_getElem? (i := 17) rfl)
theorem wm_im_X0_setOf : (Cond.instanceMethod yX0_setOf) ∈ wsL_law := in_r20 _ (List.mem_of_getElem? (i := 18) rfl)
theorem wm_se_X0_setOf : (Cond.selects RX0 yX0_setOf yX0_setOf) ∈ wsL_law := in_r20 _ (List.mem_of_getElem? (i := 19) rfl)
theorem wm_co_X0_setOf : (Cond.code yX0_setOf cX0_setOf 4 (some .int)) ∈ wsL_law := in_r20 _ (List.mem_of_getElem? (i := 20) rfl)
theorem wm_ml_L_43 : (Cond.methodLink RL 43 yX10_leave) ∈ wsL_law := in_r20 _ (List.mem_of_getElem? (i := 21) rfl)
theorem wm_im_X10_leave : (Cond.instanceMethod yX10_leave) ∈ wsL_law := in_r20 _ (List.mem_of_getElem? (i := 22) rfl)
theorem wm_se_X10_leave : (Cond.selects RX10 yX10_leave yX10_leave) ∈ wsL_law := in_r20 _ (List.mem_of_getElem? (i := 23) rfl)
theorem wm_co_X10_leave : (Cond.code yX10_leave cX10_leave 3 (some .int)) ∈ wsL_law := in_r21 _ (List.mem_of_getElem? (i := 0) rfl)
theorem wm_ml_X10_141 : (Cond.methodLink RX10 141 yX10_noLeave) ∈ wsL_law := in_r21 _ (List.mem_of_getElem? (i := 1) rfl)
theorem wm_im_X10_noLeave : (Cond.instanceMethod yX10_noLeave) ∈ wsL_law := in_r21 _ (List.mem_of_getElem? (i := 2) rfl)
theorem wm_se_X10_noLeave : (Cond.selects RX10 yX10_noLeave yX10_noLeave) ∈ wsL_law := in_r21 _ (List.mem_of_getElem? (i := 3) rfl)
theorem wm_co_X10_noLeave : (Cond.code yX10_noLeave cX10_noLeave 2 (some .int)) ∈ wsL_law := in_r21 _ (List.mem_of_getElem? (i := 4) rfl)
theorem wm_ml_X10_135 : (Cond.methodLink RX10 135 yX10_inPlace) ∈ wsL_law := in_r21 _ (List.mem_of_getElem? (i := 5) rfl)
theorem wm_im_X10_inPlace : (Cond.instanceMethod yX10_inPlace) ∈ wsL_law := in_r21 _ (List.mem_of_getElem? (i := 6) rfl)
theorem wm_se_X10_inPlace : (Cond.selects RX10 yX10_inPlace yX10_inPlace) ∈ wsL_law := in_r21 _ (List.mem_of_getElem? (i := 7) rfl)
theorem wm_co_X10_inPlace : (Cond.code yX10_inPlace cX10_inPlace 4 (some .int)) ∈ wsL_law := in_r21 _ (List.mem_of_getElem? (i := 8) rfl)
theorem wm_ml_X10_138 : (Cond.methodLink RX10 138 yX10_aboardOf) ∈ wsL_law := in_r21 _ (List.mem_of_getElem? (i := 9) rfl)
theorem wm_im_X10_aboardOf : (Cond.instanceMethod yX10_aboardOf) ∈ wsL_law := in_r21 _ (List.mem_of_getElem? (i := 10) rfl)
theorem wm_se_X10_aboardOf : (Cond.selects RX10 yX10_aboardOf yX10_aboardOf) ∈ wsL_law := in_r21 _ (List.mem_of_getElem? (i := 11) rfl)
theorem wm_co_X10_aboardOf : (Cond.code yX10_aboardOf cX10_aboardOf 4 (some .int)) ∈ wsL_law := in_r21 _ (List.mem_of_getElem? (i := 12) rfl)
theorem wm_ml_X10_144 : (Cond.methodLink RX10 144 yX10_doLeave) ∈ wsL_law := in_r21 _ (List.mem_of_getElem? (i := 13) rfl)
theorem wm_im_X10_doLeave : (Cond.instanceMethod yX10_doLeave) ∈ wsL_law := in_r21 _ (List.mem_of_getElem? (i := 14) rfl)
theorem wm_se_X10_doLeave : (Cond.selects RX10 yX10_doLeave yX10_doLeave) ∈ wsL_law := in_r21 _ (List.mem_of_getElem? (i := 15) rfl)
theorem wm_co_X10_doLeave : (Cond.code yX10_doLeave cX10_doLeave 4 (some .int)) ∈ wsL_law := in_r21 _ (List.mem_of_getElem? (i := 16) rfl)
theorem wm_ml_L_44 : (Cond.methodLink RL 44 yX9_back) ∈ wsL_law := in_r21 _ (List.mem_of_getElem? (i := 17) rfl)
theorem wm_im_X9_back : (Cond.instanceMethod yX9_back) ∈ wsL_law := in_r21 _ (List.mem_of_getElem? (i := 18) rfl)
theorem wm_se_X9_back : (Cond.selects RX9 yX9_back yX9_back) ∈ wsL_law := in_r21 _ (List.mem_of_getElem? (i := 19) rfl)
theorem wm_co_X9_back : (Cond.code yX9_back cX9_back 3 (some .int)) ∈ wsL_law := in_r21 _ (List.mem_of_getElem? (i := 20) rfl)
theorem wm_ml_X9_71 : (Cond.methodLink RX9 71 yX0_comeBack) ∈ wsL_law := in_r21 _ (List.mem_of_getElem? (i := 21) rfl)
theorem wm_im_X0_comeBack : (Cond.instanceMethod yX0_comeBack) ∈ wsL_law := in_r21 _ (List.mem_of_getElem? (i := 22) rfl)
theorem wm_se_X0_comeBack : (Cond.selects RX0 yX0_comeBack yX0_comeBack) ∈ wsL_law := in_r21 _ (List.mem_of_getElem? (i := 23) rfl)
theorem wm_co_X0_comeBack : (Cond.code yX0_comeBack cX0_comeBack 5 (some .int)) ∈ wsL_law := in_r22 _ (List.mem_of_getElem? (i := 0) rfl)
theorem wm_ml_L_47 : (Cond.methodLink RL 47 yX10_back) ∈ wsL_law := in_r22 _ (List.mem_of_getElem? (i := 1) rfl)
theorem wm_im_X10_back : (Cond.instanceMethod yX10_back) ∈ wsL_law := in_r22 _ (List.mem_of_getElem? (i := 2) rfl)
theorem wm_se_X10_back : (Cond.selects RX10 yX10_back yX10_back) ∈ wsL_law := in_r22 _ (List.mem_of_getElem? (i := 3) rfl)
theorem wm_co_X10_back : (Cond.code yX10_back cX10_back 4 (some .int)) ∈ wsL_law := in_r22 _ (List.mem_of_getElem? (i := 4) rfl)
theorem wm_ml_X10_147 : (Cond.methodLink RX10 147 yX10_noBack) ∈ wsL_law := in_r22 _ (List.mem_of_getElem? (i := 5) rfl)
theorem wm_im_X10_noBack : (Cond.instanceMethod yX10_noBack) ∈ wsL_law := in_r22 _ (List.mem_of_getElem? (i := 6) rfl)
theorem wm_se_X10_noBack : (Cond.selects RX10 yX10_noBack yX10_noBack) ∈ wsL_law := in_r22 _ (List.mem_of_getElem? (i := 7) rfl)
theorem wm_co_X10_noBack : (Cond.code yX10_noBack cX10_noBack 3 (some .int)) ∈ wsL_law := in_r22 _ (List.mem_of_getElem? (i := 8) rfl)
theorem wm_ml_X10_150 : (Cond.methodLink RX10 150 yX10_doBack) ∈ wsL_law := in_r22 _ (List.mem_of_getElem? (i := 9) rfl)
theorem wm_im_X10_doBack : (Cond.instanceMethod yX10_doBack) ∈ wsL_law := in_r22 _ (List.mem_of_getElem? (i := 10) rfl)
theorem wm_se_X10_doBack : (Cond.selects RX10 yX10_doBack yX10_doBack) ∈ wsL_law := in_r22 _ (List.mem_of_getElem? (i := 11) rfl)
theorem wm_co_X10_doBack : (Cond.code yX10_doBack cX10_doBack 3 (some .int)) ∈ wsL_law := in_r22 _ (List.mem_of_getElem? (i := 12) rfl)
theorem wm_ml_L_48 : (Cond.methodLink RL 48 yX9_sail) ∈ wsL_law := in_r22 _ (List.mem_of_getElem? (i := 13) rfl)
theorem wm_im_X9_sail : (Cond.instanceMethod yX9_sail) ∈ wsL_law := in_r22 _ (List.mem_of_getElem? (i := 14) rfl)
theorem wm_se_X9_sail : (Cond.selects RX9 yX9_sail yX9_sail) ∈ wsL_law := in_r22 _ (List.mem_of_getElem? (i := 15) rfl)
theorem wm_co_X9_sail : (Cond.code yX9_sail cX9_sail 1 (some .int)) ∈ wsL_law := in_r22 _ (List.mem_of_getElem? (i := 16) rfl)
theorem wm_ml_X9_74 : (Cond.methodLink RX9 74 yX0_putToSea) ∈ wsL_law := in_r22 _ (List.mem_of_getElem? (i := 17) rfl)
theorem wm_im_X0_putToSea : (Cond.instanceMethod yX0_putToSea) ∈ wsL_law := in_r22 _ (List.mem_of_getElem? (i := 18) rfl)
theorem wm_se_X0_putToSea : (Cond.selects RX0 yX0_putToSea yX0_putToSea) ∈ wsL_law := in_r22 _ (List.mem_of_getElem? (i := 19) rfl)
theorem wm_co_X0_putToSea : (Cond.code yX0_putToSea cX0_putToSea 3 (some .int)) ∈ wsL_law := in_r22 _ (List.mem_of_getElem? (i := 20) rfl)
theorem wm_fl_X0_186 : (Cond.fieldLink RX0 186 "PurserLedgers$Totals" "forfeit" "I") ∈ wsL_law := in_r22 _ (List.mem_of_getElem? (i := 21) rfl)
theorem wm_ml_X0_189 : (Cond.methodLink RX0 189 yX6_goAway) ∈ wsL_law := in_r22 _ (List.mem_of_getElem? (i := 22) rfl)
theorem wm_im_X6_goAway : (Cond.instanceMethod yX6_goAway) ∈ wsL_law := in_r22 _ (List.mem_of_getElem? (i := 23) rfl)
theorem wm_se_X6_goAway : (Cond.selects RX6 yX6_goAway yX6_goAway) ∈ wsL_law := in_r23 _ (List.mem_of_getElem? (i := 0) rfl)
theorem wm_co_X6_goAway : (Cond.code yX6_goAway cX6_goAway 1 none) ∈ wsL_law := in_r23 _ (List.mem_of_getElem? (i := 1) rfl)
theorem wm_ml_L_52 : (Cond.methodLink RL 52 yX10_sail) ∈ wsL_law := in_r23 _ (List.mem_of_getElem? (i := 2) rfl)
theorem wm_im_X10_sail : (Cond.instanceMethod yX10_sail) ∈ wsL_law := in_r23 _ (List.mem_of_getElem? (i := 3) rfl)
theorem wm_se_X10_sail : (Cond.selects RX10 yX10_sail yX10_sail) ∈ wsL_law := in_r23 _ (List.mem_of_getElem? (i := 4) rfl)
theorem wm_co_X10_sail : (Cond.code yX10_sail cX10_sail 2 (some .int)) ∈ wsL_law := in_r23 _ (List.mem_of_getElem? (i := 5) rfl)
theorem wm_ml_X10_153 : (Cond.methodLink RX10 153 yX10_noSail) ∈ wsL_law := in_r23 _ (List.mem_of_getElem? (i := 6) rfl)
theorem wm_im_X10_noSail : (Cond.instanceMethod yX10_noSail) ∈ wsL_law := in_r23 _ (List.mem_of_getElem? (i := 7) rfl)
theorem wm_se_X10_noSail : (Cond.selects RX10 yX10_noSail yX10_noSail) ∈ wsL_law := in_r23 _ (List.mem_of_getElem? (i := 8) rfl)
theorem wm_co_X10_noSail : (Cond.code yX10_noSail cX10_noSail 1 (some .int)) ∈ wsL_law := in_r23 _ (List.mem_of_getElem? (i := 9) rfl)
theorem wm_ml_X10_157 : (Cond.methodLink RX10 157 yX10_doSail) ∈ wsL_law := in_r23 _ (List.mem_of_getElem? (i := 10) rfl)
theorem wm_im_X10_doSail : (Cond.instanceMethod yX10_doSail) ∈ wsL_law := in_r23 _ (List.mem_of_getElem? (i := 11) rfl)
theorem wm_se_X10_doSail : (Cond.selects RX10 yX10_doSail yX10_doSail) ∈ wsL_law := in_r23 _ (List.mem_of_getElem? (i := 12) rfl)
theorem wm_co_X10_doSail : (Cond.code yX10_doSail cX10_doSail 3 (some .int)) ∈ wsL_law := in_r23 _ (List.mem_of_getElem? (i := 13) rfl)
theorem wm_ml_L_53 : (Cond.methodLink RL 53 yX9_port) ∈ wsL_law := in_r23 _ (List.mem_of_getElem? (i := 14) rfl)
theorem wm_im_X9_port : (Cond.instanceMethod yX9_port) ∈ wsL_law := in_r23 _ (List.mem_of_getElem? (i := 15) rfl)
theorem wm_se_X9_port : (Cond.selects RX9 yX9_port yX9_port) ∈ wsL_law := in_r23 _ (List.mem_of_getElem? (i := 16) rfl)
theorem wm_co_X9_port : (Cond.code yX9_port cX9_port 1 (some .int)) ∈ wsL_law := in_r23 _ (List.mem_of_getElem? (i := 17) rfl)
theorem wm_ml_X9_78 : (Cond.methodLink RX9 78 yX0_comeIntoPort) ∈ wsL_law := in_r23 _ (List.mem_of_getElem? (i := 18) rfl)
theorem wm_im_X0_comeIntoPort : (Cond.instanceMethod yX0_comeIntoPort) ∈ wsL_law := in_r23 _ (List.mem_of_getElem? (i := 19) rfl)
theorem wm_se_X0_comeIntoPort : (Cond.selects RX0 yX0_comeIntoPort yX0_comeIntoPort) ∈ wsL_law := in_r23 _ (List.mem_of_getElem? (i := 20) rfl)
theorem wm_co_X0_comeIntoPort : (Cond.code yX0_comeIntoPort cX0_comeIntoPort 1 (some .int)) ∈ wsL_law := in_r23 _ (List.mem_of_getElem? (i := 21) rfl)
theorem wm_ml_L_56 : (Cond.methodLink RL 56 yX10_port) ∈ wsL_law := in_r23 _ (List.mem_of_getElem? (i := 22) rfl)
theorem wm_im_X10_port : (Cond.instanceMethod yX10_port) ∈ wsL_law := in_r23 _ (List.mem_of_getElem? (i := 23) rfl)
theorem wm_se_X10_port : (Cond.selects RX10 yX10_port yX10_port) ∈ wsL_law := in_r24 _ (List.mem_of_getElem? (i := 0) rfl)
theorem wm_co_X10_port : (Cond.code yX10_port cX10_port 2 (some .int)) ∈ wsL_law := in_r24 _ (List.mem_of_getElem? (i := 1) rfl)
theorem wm_ml_X10_160 : (Cond.methodLink RX10 160 yX10_noPort) ∈ wsL_law := in_r24 _ (List.mem_of_getElem? (i := 2) rfl)
theorem wm_im_X10_noPort : (Cond.instanceMethod yX10_noPort) ∈ wsL_law := in_r24 _ (List.mem_of_getElem? (i := 3) rfl)
theorem wm_se_X10_noPort : (Cond.selects RX10 yX10_noPort yX10_noPort) ∈ wsL_law := in_r24 _ (List.mem_of_getElem? (i := 4) rfl)
theorem wm_co_X10_noPort : (Cond.code yX10_noPort cX10_noPort 1 (some .int)) ∈ wsL_law := in_r24 _ (List.mem_of_getElem? (i := 5) rfl)
theorem wm_ml_X10_163 : (Cond.methodLink RX10 163 yX10_doPort) ∈ wsL_law := in_r24 _ (List.mem_of_getElem? (i := 6) rfl)
theorem wm_im_X10_doPort : (Cond.instanceMethod yX10_doPort) ∈ wsL_law := in_r24 _ (List.mem_of_getElem? (i := 7) rfl)
theorem wm_se_X10_doPort : (Cond.selects RX10 yX10_doPort yX10_doPort) ∈ wsL_law := in_r24 _ (List.mem_of_getElem? (i := 8) rfl)
theorem wm_co_X10_doPort : (Cond.code yX10_doPort cX10_doPort 1 (some .int)) ∈ wsL_law := in_r24 _ (List.mem_of_getElem? (i := 9) rfl)
theorem wm_ml_L_57 : (Cond.methodLink RL 57 yX9_days) ∈ wsL_law := in_r24 _ (List.mem_of_getElem? (i := 10) rfl)
theorem wm_im_X9_days : (Cond.instanceMethod yX9_days) ∈ wsL_law := in_r24 _ (List.mem_of_getElem? (i := 11) rfl)
theorem wm_se_X9_days : (Cond.selects RX9 yX9_days yX9_days) ∈ wsL_law := in_r24 _ (List.mem_of_getElem? (i := 12) rfl)
theorem wm_co_X9_days : (Cond.code yX9_days cX9_days 2 (some .int)) ∈ wsL_law := in_r24 _ (List.mem_of_getElem? (i := 13) rfl)
theorem wm_ml_X9_81 : (Cond.methodLink RX9 81 yX0_passDays) ∈ wsL_law := in_r24 _ (List.mem_of_getElem? (i := 14) rfl)
theorem wm_im_X0_passDays : (Cond.instanceMethod yX0_passDays) ∈ wsL_law := in_r24 _ (List.mem_of_getElem? (i := 15) rfl)
theorem wm_se_X0_passDays : (Cond.selects RX0 yX0_passDays yX0_passDays) ∈ wsL_law := in_r24 _ (List.mem_of_getElem? (i := 16) rfl)
theorem wm_co_X0_passDays : (Cond.code yX0_passDays cX0_passDays 3 (some .int)) ∈ wsL_law := in_r24 _ (List.mem_of_getElem? (i := 17) rfl)
theorem wm_ml_X0_192 : (Cond.methodLink RX0 192 yX6_passDays) ∈ wsL_law := in_r24 _ (List.mem_of_getElem? (i := 18) rfl)
theorem wm_im_X6_passDays : (Cond.instanceMethod yX6_passDays) ∈ wsL_law := in_r24 _ (List.mem_of_getElem? (i := 19) rfl)
theorem wm_se_X6_passDays : (Cond.selects RX6 yX6_passDays yX6_passDays) ∈ wsL_law := in_r24 _ (List.mem_of_getElem? (i := 20) rfl)
theorem wm_co_X6_passDays : (Cond.code yX6_passDays cX6_passDays 3 none) ∈ wsL_law := in_r24 _ (List.mem_of_getElem? (i := 21) rfl)
theorem wm_ml_L_60 : (Cond.methodLink RL 60 yX10_days) ∈ wsL_law := in_r24 _ (List.mem_of_getElem? (i := 22) rfl)
theorem wm_im_X10_days : (Cond.instanceMethod yX10_days) ∈ wsL_law := in_r24 _ (List.mem_of_getElem? (i := 23) rfl)
theorem wm_se_X10_days : (Cond.selects RX10 yX10_days yX10_days) ∈ wsL_law := in_r25 _ (List.mem_of_getElem? (i := 0) rfl)
theorem wm_co_X10_days : (Cond.code yX10_days cX10_days 3 (some .int)) ∈ wsL_law := in_r25 _ (List.mem_of_getElem? (i := 1) rfl)
theorem wm_ml_X10_166 : (Cond.methodLink RX10 166 yX10_noDays) ∈ wsL_law := in_r25 _ (List.mem_of_getElem? (i := 2) rfl)
theorem wm_im_X10_noDays : (Cond.instanceMethod yX10_noDays) ∈ wsL_law := in_r25 _ (List.mem_of_getElem? (i := 3) rfl)
theorem wm_se_X10_noDays : (Cond.selects RX10 yX10_noDays yX10_noDays) ∈ wsL_law := in_r25 _ (List.mem_of_getElem? (i := 4) rfl)
theorem wm_co_X10_noDays : (Cond.code yX10_noDays cX10_noDays 2 (some .int)) ∈ wsL_law := in_r25 _ (List.mem_of_getElem? (i := 5) rfl)
theorem wm_ml_X10_169 : (Cond.methodLink RX10 169 yX10_doDays) ∈ wsL_law := in_r25 _ (List.mem_of_getElem? (i := 6) rfl)
theorem wm_im_X10_doDays : (Cond.instanceMethod yX10_doDays) ∈ wsL_law := in_r25 _ (List.mem_of_getElem? (i := 7) rfl)
theorem wm_se_X10_doDays : (Cond.selects RX10 yX10_doDays yX10_doDays) ∈ wsL_law := in_r25 _ (List.mem_of_getElem? (i := 8) rfl)
theorem wm_co_X10_doDays : (Cond.code yX10_doDays cX10_doDays 4 (some .int)) ∈ wsL_law := in_r25 _ (List.mem_of_getElem? (i := 9) rfl)
theorem wm_ml_L_61 : (Cond.methodLink RL 61 yX9_dismiss) ∈ wsL_law := in_r25 _ (List.mem_of_getElem? (i := 10) rfl)
theorem wm_im_X9_dismiss : (Cond.instanceMethod yX9_dismiss) ∈ wsL_law := in_r25 _ (List.mem_of_getElem? (i := 11) rfl)
theorem wm_se_X9_dismiss : (Cond.selects RX9 yX9_dismiss yX9_dismiss) ∈ wsL_law := in_r25 _ (List.mem_of_getElem? (i := 12) rfl)
theorem wm_co_X9_dismiss : (Cond.code yX9_dismiss cX9_dismiss 2 (some .int)) ∈ wsL_law := in_r25 _ (List.mem_of_getElem? (i := 13) rfl)
theorem wm_ml_X9_84 : (Cond.methodLink RX9 84 yX0_sendAway) ∈ wsL_law := in_r25 _ (List.mem_of_getElem? (i := 14) rfl)
theorem wm_im_X0_sendAway : (Cond.instanceMethod yX0_sendAway) ∈ wsL_law := in_r25 _ (List.mem_of_getElem? (i := 15) rfl)
theorem wm_se_X0_sendAway : (Cond.selects RX0 yX0_sendAway yX0_sendAway) ∈ wsL_law := in_r25 _ (List.mem_of_getElem? (i := 16) rfl)
theorem wm_co_X0_sendAway : (Cond.code yX0_sendAway cX0_sendAway 4 (some .int)) ∈ wsL_law := in_r25 _ (List.mem_of_getElem? (i := 17) rfl)
theorem wm_ml_X0_196 : (Cond.methodLink RX0 196 yX0_payTo) ∈ wsL_law := in_r25 _ (List.mem_of_getElem? (i := 18) rfl)
theorem wm_im_X0_payTo : (Cond.instanceMethod yX0_payTo) ∈ wsL_law := in_r25 _ (List.mem_of_getElem? (i := 19) rfl)
theorem wm_se_X0_payTo : (Cond.selects RX0 yX0_payTo yX0_payTo) ∈ wsL_law := in_r25 _ (List.mem_of_getElem? (i := 20) rfl)
theorem wm_co_X0_payTo : (Cond.code yX0_payTo cX0_payTo 4 none) ∈ wsL_law := in_r25 _ (List.mem_of_getElem? (i := 21) rfl)
theorem wm_fl_X0_199 : (Cond.fieldLink RX0 199 "PurserLedgers$Sailor" "paid" "I") ∈ wsL_law := in_r25 _ (List.mem_of_getElem? (i := 22) rfl)
theorem wm_fl_X0_202 : (Cond.fieldLink RX0 202 "PurserLedgers$Totals" "paid" "I") ∈ wsL_law := in_r25 _ (List.mem_of_getElem? (i := 23) rfl)
theorem wm_ml_L_64 : (Cond.methodLink RL 64 yX10_dismiss) ∈ wsL_law := in_r26 _ (List.mem_of_getElem? (i := 0) rfl)
theorem wm_im_X10_dismiss : (Cond.instanceMethod yX10_dismiss) ∈ wsL_law := in_r26 _ (List.mem_of_getElem? (i := 1) rfl)
theorem wm_se_X10_dismiss : (Cond.selects RX10 yX10_dismiss yX10_dismiss) ∈ wsL_law := in_r26 _ (List.mem_of_getElem? (i := 2) rfl)
theorem wm_co_X10_dismiss : (Cond.code yX10_dismiss cX10_dismiss 3 (some .int)) ∈ wsL_law := in_r26 _ (List.mem_of_getElem? (i := 3) rfl)
theorem wm_ml_X10_172 : (Cond.methodLink RX10 172 yX10_pay) ∈ wsL_law := in_r26 _ (List.mem_of_getElem? (i := 4) rfl)
theorem wm_im_X10_pay : (Cond.instanceMethod yX10_pay) ∈ wsL_law := in_r26 _ (List.mem_of_getElem? (i := 5) rfl)
theorem wm_se_X10_pay : (Cond.selects RX10 yX10_pay yX10_pay) ∈ wsL_law := in_r26 _ (List.mem_of_getElem? (i := 6) rfl)
theorem wm_co_X10_pay : (Cond.code yX10_pay cX10_pay 3 none) ∈ wsL_law := in_r26 _ (List.mem_of_getElem? (i := 7) rfl)
theorem wm_ml_L_65 : (Cond.methodLink RL 65 yX9_payOff) ∈ wsL_law := in_r26 _ (List.mem_of_getElem? (i := 8) rfl)
theorem wm_im_X9_payOff : (Cond.instanceMethod yX9_payOff) ∈ wsL_law := in_r26 _ (List.mem_of_getElem? (i := 9) rfl)
theorem wm_se_X9_payOff : (Cond.selects RX9 yX9_payOff yX9_payOff) ∈ wsL_law := in_r26 _ (List.mem_of_getElem? (i := 10) rfl)
theorem wm_co_X9_payOff : (Cond.code yX9_payOff cX9_payOff 1 (some .int)) ∈ wsL_law := in_r26 _ (List.mem_of_getElem? (i := 11) rfl)
theorem wm_ml_X9_87 : (Cond.methodLink RX9 87 yX0_endVoyage) ∈ wsL_law := in_r26 _ (List.mem_of_getElem? (i := 12) rfl)
theorem wm_im_X0_endVoyage : (Cond.instanceMethod yX0_endVoyage) ∈ wsL_law := in_r26 _ (List.mem_of_getElem? (i := 13) rfl)
theorem wm_se_X0_endVoyage : (Cond.selects RX0 yX0_endVoyage yX0_endVoyage) ∈ wsL_law := in_r26 _ (List.mem_of_getElem? (i := 14) rfl)
theorem wm_co_X0_endVoyage : (Cond.code yX0_endVoyage cX0_endVoyage 4 (some .int)) ∈ wsL_law := in_r26 _ (List.mem_of_getElem? (i := 15) rfl)
theorem wm_ml_X0_203 : (Cond.methodLink RX0 203 yX6_beginVoyage) ∈ wsL_law := in_r26 _ (List.mem_of_getElem? (i := 16) rfl)
theorem wm_ml_L_68 : (Cond.methodLink RL 68 yX10_payOff) ∈ wsL_law := in_r26 _ (List.mem_of_getElem? (i := 17) rfl)
theorem wm_im_X10_payOff : (Cond.instanceMethod yX10_payOff) ∈ wsL_law := in_r26 _ (List.mem_of_getElem? (i := 18) rfl)
theorem wm_se_X10_payOff : (Cond.selects RX10 yX10_payOff yX10_payOff) ∈ wsL_law := in_r26 _ (List.mem_of_getElem? (i := 19) rfl)
theorem wm_co_X10_payOff : (Cond.code yX10_payOff cX10_payOff 2 (some .int)) ∈ wsL_law := in_r26 _ (List.mem_of_getElem? (i := 20) rfl)
theorem wm_ml_X10_176 : (Cond.methodLink RX10 176 yX10_noPayOff) ∈ wsL_law := in_r26 _ (List.mem_of_getElem? (i := 21) rfl)
theorem wm_im_X10_noPayOff : (Cond.instanceMethod yX10_noPayOff) ∈ wsL_law := in_r26 _ (List.mem_of_getElem? (i := 22) rfl)
theorem wm_se_X10_noPayOff : (Cond.selects RX10 yX10_noPayOff yX10_noPayOff) ∈ wsL_law := in_r26 _ (List.mem_of_getElem? (i := 23) rfl)
theorem wm_co_X10_noPayOff : (Cond.code yX10_noPayOff cX10_noPayOff 1 (some .int)) ∈ wsL_law := in_r27 _ (List.mem_of_getElem? (i := 0) rfl)
theorem wm_ml_X10_179 : (Cond.methodLink RX10 179 yX10_doPayOff) ∈ wsL_law := in_r27 _ (List.mem_of_getElem? (i := 1) rfl)
theorem wm_im_X10_doPayOff : (Cond.instanceMethod yX10_doPayOff) ∈ wsL_law := in_r27 _ (List.mem_of_getElem? (i := 2) rfl)
theorem wm_se_X10_doPayOff : (Cond.selects RX10 yX10_doPayOff yX10_doPayOff) ∈ wsL_law := in_r27 _ (List.mem_of_getElem? (i := 3) rfl)
theorem wm_co_X10_doPayOff : (Cond.code yX10_doPayOff cX10_doPayOff 4 (some .int)) ∈ wsL_law := in_r27 _ (List.mem_of_getElem? (i := 4) rfl)
theorem wm_ml_L_69 : (Cond.methodLink RL 69 yX9_set) ∈ wsL_law := in_r27 _ (List.mem_of_getElem? (i := 5) rfl)
theorem wm_im_X9_set : (Cond.instanceMethod yX9_set) ∈ wsL_law := in_r27 _ (List.mem_of_getElem? (i := 6) rfl)
theorem wm_se_X9_set : (Cond.selects RX9 yX9_set yX9_set) ∈ wsL_law := in_r27 _ (List.mem_of_getElem? (i := 7) rfl)
theorem wm_co_X9_set : (Cond.code yX9_set cX9_set 3 (some .int)) ∈ wsL_law := in_r27 _ (List.mem_of_getElem? (i := 8) rfl)
theorem wm_ml_X9_90 : (Cond.methodLink RX9 90 yX0_changeSetting) ∈ wsL_law := in_r27 _ (List.mem_of_getElem? (i := 9) rfl)
theorem wm_im_X0_changeSetting : (Cond.instanceMethod yX0_changeSetting) ∈ wsL_law := in_r27 _ (List.mem_of_getElem? (i := 10) rfl)
theorem wm_se_X0_changeSetting : (Cond.selects RX0 yX0_changeSetting yX0_changeSetting) ∈ wsL_law := in_r27 _ (List.mem_of_getElem? (i := 11) rfl)
theorem wm_co_X0_changeSetting : (Cond.code yX0_changeSetting cX0_changeSetting 4 (some .int)) ∈ wsL_law := in_r27 _ (List.mem_of_getElem? (i := 12) rfl)
theorem wm_ml_L_72 : (Cond.methodLink RL 72 yX10_set) ∈ wsL_law := in_r27 _ (List.mem_of_getElem? (i := 13) rfl)
theorem wm_im_X10_set : (Cond.instanceMethod yX10_set) ∈ wsL_law := in_r27 _ (List.mem_of_getElem? (i := 14) rfl)
theorem wm_se_X10_set : (Cond.selects RX10 yX10_set yX10_set) ∈ wsL_law := in_r27 _ (List.mem_of_getElem? (i := 15) rfl)
theorem wm_co_X10_set : (Cond.code yX10_set cX10_set 4 (some .int)) ∈ wsL_law := in_r27 _ (List.mem_of_getElem? (i := 16) rfl)
theorem wm_ml_L_73 : (Cond.methodLink RL 73 yX9_sailor) ∈ wsL_law := in_r27 _ (List.mem_of_getElem? (i := 17) rfl)
theorem wm_im_X9_sailor : (Cond.instanceMethod yX9_sailor) ∈ wsL_law := in_r27 _ (List.mem_of_getElem? (i := 18) rfl)
theorem wm_se_X9_sailor : (Cond.selects RX9 yX9_sailor yX9_sailor) ∈ wsL_law := in_r27 _ (List.mem_of_getElem? (i := 19) rfl)
theorem wm_co_X9_sailor : (Cond.code yX9_sailor cX9_sailor 4 (some .int)) ∈ wsL_law := in_r27 _ (List.mem_of_getElem? (i := 20) rfl)
theorem wm_ct_X9_97 : (Cond.constant RX9 97 (-1000001)) ∈ wsL_law := in_r27 _ (List.mem_of_getElem? (i := 21) rfl)
theorem wm_ml_X9_93 : (Cond.methodLink RX9 93 yX0_findSailor) ∈ wsL_law := in_r27 _ (List.mem_of_getElem? (i := 22) rfl)
theorem wm_ml_X9_98 : (Cond.methodLink RX9 98 yX6_tell) ∈ wsL_law := in_r27 _ (List.mem_of_getElem? (i := 23) rfl)
theorem wm_im_X6_tell : (Cond.instanceMethod yX6_tell) ∈ wsL_law := in_r28 _ (List.mem_of_getElem? (i := 0) rfl)
theorem wm_se_X6_tell : (Cond.selects RX6 yX6_tell yX6_tell) ∈ wsL_law := in_r28 _ (List.mem_of_getElem? (i := 1) rfl)
theorem wm_co_X6_tell : (Cond.code yX6_tell cX6_tell 2 (some .int)) ∈ wsL_law := in_r28 _ (List.mem_of_getElem? (i := 2) rfl)
theorem wm_ct_X6_64 : (Cond.constant RX6 64 (-1000001)) ∈ wsL_law := in_r28 _ (List.mem_of_getElem? (i := 3) rfl)
theorem wm_ml_X6_61 : (Cond.methodLink RX6 61 yX6_earned) ∈ wsL_law := in_r28 _ (List.mem_of_getElem? (i := 4) rfl)
theorem wm_im_X6_earned : (Cond.instanceMethod yX6_earned) ∈ wsL_law := in_r28 _ (List.mem_of_getElem? (i := 5) rfl)
theorem wm_se_X6_earned : (Cond.selects RX6 yX6_earned yX6_earned) ∈ wsL_law := in_r28 _ (List.mem_of_getElem? (i := 6) rfl)
theorem wm_co_X6_earned : (Cond.code yX6_earned cX6_earned 1 (some .int)) ∈ wsL_law := in_r28 _ (List.mem_of_getElem? (i := 7) rfl)
theorem wm_ml_L_76 : (Cond.methodLink RL 76 yX10_sailor) ∈ wsL_law := in_r28 _ (List.mem_of_getElem? (i := 8) rfl)
theorem wm_im_X10_sailor : (Cond.instanceMethod yX10_sailor) ∈ wsL_law := in_r28 _ (List.mem_of_getElem? (i := 9) rfl)
theorem wm_se_X10_sailor : (Cond.selects RX10 yX10_sailor yX10_sailor) ∈ wsL_law := in_r28 _ (List.mem_of_getElem? (i := 10) rfl)
theorem wm_co_X10_sailor : (Cond.code yX10_sailor cX10_sailor 3 (some .int)) ∈ wsL_law := in_r28 _ (List.mem_of_getElem? (i := 11) rfl)
theorem wm_ml_L_77 : (Cond.methodLink RL 77 yX9_item) ∈ wsL_law := in_r28 _ (List.mem_of_getElem? (i := 12) rfl)
theorem wm_im_X9_item : (Cond.instanceMethod yX9_item) ∈ wsL_law := in_r28 _ (List.mem_of_getElem? (i := 13) rfl)
theorem wm_se_X9_item : (Cond.selects RX9 yX9_item yX9_item) ∈ wsL_law := in_r28 _ (List.mem_of_getElem? (i := 14) rfl)
theorem wm_co_X9_item : (Cond.code yX9_item cX9_item 4 (some .int)) ∈ wsL_law := in_r28 _ (List.mem_of_getElem? (i := 15) rfl)
theorem wm_ml_X9_103 : (Cond.methodLink RX9 103 yX0_findItem) ∈ wsL_law := in_r28 _ (List.mem_of_getElem? (i := 16) rfl)
theorem wm_ml_X9_107 : (Cond.methodLink RX9 107 yX3_tell) ∈ wsL_law := in_r28 _ (List.mem_of_getElem? (i := 17) rfl)
theorem wm_im_X3_tell : (Cond.instanceMethod yX3_tell) ∈ wsL_law := in_r28 _ (List.mem_of_getElem? (i := 18) rfl)
theorem wm_se_X3_tell : (Cond.selects RX3 yX3_tell yX3_tell) ∈ wsL_law := in_r28 _ (List.mem_of_getElem? (i := 19) rfl)
theorem wm_co_X3_tell : (Cond.code yX3_tell cX3_tell 2 (some .int)) ∈ wsL_law := in_r28 _ (List.mem_of_getElem? (i := 20) rfl)
theorem wm_ct_X3_27 : (Cond.constant RX3 27 (-1000001)) ∈ wsL_law := in_r28 _ (List.mem_of_getElem? (i := 21) rfl)
theorem wm_ml_L_80 : (Cond.methodLink RL 80 yX10_item) ∈ wsL_law := in_r28 _ (List.mem_of_getElem? (i := 22) rfl)
theorem wm_im_X10_item : (Cond.instanceMethod yX10_item) ∈ wsL_law := in_r28 _ (List.mem_of_getElem? (i := 23) rfl)
theorem wm_se_X10_item : (Cond.selects RX10 yX10_item yX10_item) ∈ wsL_law := in_r29 _ (List.mem_of_getElem? (i := 0) rfl)
theorem wm_co_X10_item : (Cond.code yX10_item cX10_item 3 (some .int)) ∈ wsL_law := in_r29 _ (List.mem_of_getElem? (i := 1) rfl)
theorem wm_ml_L_81 : (Cond.methodLink RL 81 yX9_book) ∈ wsL_law := in_r29 _ (List.mem_of_getElem? (i := 2) rfl)
theorem wm_im_X9_book : (Cond.instanceMethod yX9_book) ∈ wsL_law := in_r29 _ (List.mem_of_getElem? (i := 3) rfl)
theorem wm_se_X9_book : (Cond.selects RX9 yX9_book yX9_book) ∈ wsL_law := in_r29 _ (List.mem_of_getElem? (i := 4) rfl)
theorem wm_co_X9_book : (Cond.code yX9_book cX9_book 3 (some .int)) ∈ wsL_law := in_r29 _ (List.mem_of_getElem? (i := 5) rfl)
theorem wm_fl_X9_110 : (Cond.fieldLink RX9 110 "PurserLedgers$Books" "entries" "LPurserLedgers$Entries;") ∈ wsL_law := in_r29 _ (List.mem_of_getElem? (i := 6) rfl)
theorem wm_ml_X9_114 : (Cond.methodLink RX9 114 yX1_tell) ∈ wsL_law := in_r29 _ (List.mem_of_getElem? (i := 7) rfl)
theorem wm_im_X1_tell : (Cond.instanceMethod yX1_tell) ∈ wsL_law := in_r29 _ (List.mem_of_getElem? (i := 8) rfl)
theorem wm_se_X1_tell : (Cond.selects RX1 yX1_tell yX1_tell) ∈ wsL_law := in_r29 _ (List.mem_of_getElem? (i := 9) rfl)
theorem wm_co_X1_tell : (Cond.code yX1_tell cX1_tell 3 (some .int)) ∈ wsL_law := in_r29 _ (List.mem_of_getElem? (i := 10) rfl)
theorem wm_ct_X1_37 : (Cond.constant RX1 37 (-1000001)) ∈ wsL_law := in_r29 _ (List.mem_of_getElem? (i := 11) rfl)
theorem wm_ct_X1_38 : (Cond.constant RX1 38 (-1000004)) ∈ wsL_law := in_r29 _ (List.mem_of_getElem? (i := 12) rfl)
theorem wm_ml_X1_39 : (Cond.methodLink RX1 39 yX1_numberAt) ∈ wsL_law := in_r29 _ (List.mem_of_getElem? (i := 13) rfl)
theorem wm_st_X1_numberAt : (Cond.static yX1_numberAt) ∈ wsL_law := in_r29 _ (List.mem_of_getElem? (i := 14) rfl)
theorem wm_co_X1_numberAt : (Cond.code yX1_numberAt cX1_numberAt 2 (some .int)) ∈ wsL_law := in_r29 _ (List.mem_of_getElem? (i := 15) rfl)
theorem wm_ml_L_84 : (Cond.methodLink RL 84 yX10_book) ∈ wsL_law := in_r29 _ (List.mem_of_getElem? (i := 16) rfl)
theorem wm_im_X10_book : (Cond.instanceMethod yX10_book) ∈ wsL_law := in_r29 _ (List.mem_of_getElem? (i := 17) rfl)
theorem wm_se_X10_book : (Cond.selects RX10 yX10_book yX10_book) ∈ wsL_law := in_r29 _ (List.mem_of_getElem? (i := 18) rfl)
theorem wm_co_X10_book : (Cond.code yX10_book cX10_book 3 (some .int)) ∈ wsL_law := in_r29 _ (List.mem_of_getElem? (i := 19) rfl)
theorem wm_ct_X10_182 : (Cond.constant RX10 182 (-1000004)) ∈ wsL_law := in_r29 _ (List.mem_of_getElem? (i := 20) rfl)
theorem wm_ml_L_85 : (Cond.methodLink RL 85 yX9_why) ∈ wsL_law := in_r29 _ (List.mem_of_getElem? (i := 21) rfl)
theorem wm_im_X9_why : (Cond.instanceMethod yX9_why) ∈ wsL_law := in_r29 _ (List.mem_of_getElem? (i := 22) rfl)
theorem wm_se_X9_why : (Cond.selects RX9 yX9_why yX9_why) ∈ wsL_law := in_r29 _ (List.mem_of_getElem? (i := 23) rfl)
theorem wm_co_X9_why : (Cond.code yX9_why cX9_why 4 (some .int)) ∈ wsL_law := in_r30 _ (List.mem_of_getElem? (i := 0) rfl)
theorem wm_ml_X9_118 : (Cond.methodLink RX9 118 yX0_reasonNotToSell) ∈ wsL_law := in_r30 _ (List.mem_of_getElem? (i := 1) rfl)
theorem wm_im_X0_reasonNotToSell : (Cond.instanceMethod yX0_reasonNotToSell) ∈ wsL_law := in_r30 _ (List.mem_of_getElem? (i := 2) rfl)
theorem wm_se_X0_reasonNotToSell : (Cond.selects RX0 yX0_reasonNotToSell yX0_reasonNotToSell) ∈ wsL_law := in_r30 _ (List.mem_of_getElem? (i := 3) rfl)
theorem wm_co_X0_reasonNotToSell : (Cond.code yX0_reasonNotToSell cX0_reasonNotToSell 6 (some .int)) ∈ wsL_law := in_r30 _ (List.mem_of_getElem? (i := 4) rfl)
theorem wm_ml_L_88 : (Cond.methodLink RL 88 yX10_why) ∈ wsL_law := in_r30 _ (List.mem_of_getElem? (i := 5) rfl)
theorem wm_im_X10_why : (Cond.instanceMethod yX10_why) ∈ wsL_law := in_r30 _ (List.mem_of_getElem? (i := 6) rfl)
theorem wm_se_X10_why : (Cond.selects RX10 yX10_why yX10_why) ∈ wsL_law := in_r30 _ (List.mem_of_getElem? (i := 7) rfl)
theorem wm_co_X10_why : (Cond.code yX10_why cX10_why 4 (some .int)) ∈ wsL_law := in_r30 _ (List.mem_of_getElem? (i := 8) rfl)
theorem wm_ml_L_89 : (Cond.methodLink RL 89 yX9_most) ∈ wsL_law := in_r30 _ (List.mem_of_getElem? (i := 9) rfl)
theorem wm_im_X9_most : (Cond.instanceMethod yX9_most) ∈ wsL_law := in_r30 _ (List.mem_of_getElem? (i := 10) rfl)
theorem wm_se_X9_most : (Cond.selects RX9 yX9_most yX9_most) ∈ wsL_law := in_r30 _ (List.mem_of_getElem? (i := 11) rfl)
theorem wm_co_X9_most : (Cond.code yX9_most cX9_most 3 (some .int)) ∈ wsL_law := in_r30 _ (List.mem_of_getElem? (i := 12) rfl)
theorem wm_ml_X9_121 : (Cond.methodLink RX9 121 yX0_couldBuy) ∈ wsL_law := in_r30 _ (List.mem_of_getElem? (i := 13) rfl)
theorem wm_im_X0_couldBuy : (Cond.instanceMethod yX0_couldBuy) ∈ wsL_law := in_r30 _ (List.mem_of_getElem? (i := 14) rfl)
theorem wm_se_X0_couldBuy : (Cond.selects RX0 yX0_couldBuy yX0_couldBuy) ∈ wsL_law := in_r30 _ (List.mem_of_getElem? (i := 15) rfl)
theorem wm_co_X0_couldBuy : (Cond.code yX0_couldBuy cX0_couldBuy 6 (some .int)) ∈ wsL_law := in_r30 _ (List.mem_of_getElem? (i := 16) rfl)
theorem wm_ml_X0_143 : (Cond.methodLink RX0 143 Lib.Math.min.name) ∈ wsL_law := in_r30 _ (List.mem_of_getElem? (i := 17) rfl)
theorem wm_st_Lib_Math_min_name : (Cond.static Lib.Math.min.name) ∈ wsL_law := in_r30 _ (List.mem_of_getElem? (i := 18) rfl)
theorem wm_in_java_lang_Math : (Cond.initialized "java/lang/Math") ∈ wsL_law := in_r30 _ (List.mem_of_getElem? (i := 19) rfl)
theorem wm_co_Lib_Math_min_name : (Cond.code Lib.Math.min.name Lib.Math.min.code 2 (some .int)) ∈ wsL_law := in_r30 _ (List.mem_of_getElem? (i := 20) rfl)
theorem wm_ml_L_92 : (Cond.methodLink RL 92 yX10_most) ∈ wsL_law := in_r30 _ (List.mem_of_getElem? (i := 21) rfl)
theorem wm_im_X10_most : (Cond.instanceMethod yX10_most) ∈ wsL_law := in_r30 _ (List.mem_of_getElem? (i := 22) rfl)
theorem wm_se_X10_most : (Cond.selects RX10 yX10_most yX10_most) ∈ wsL_law := in_r30 _ (List.mem_of_getElem? (i := 23) rfl)
theorem wm_co_X10_most : (Cond.code yX10_most cX10_most 4 (some .int)) ∈ wsL_law := in_r31 _ (List.mem_of_getElem? (i := 0) rfl)
theorem wm_ml_L_93 : (Cond.methodLink RL 93 yX9_clearIn) ∈ wsL_law := in_r31 _ (List.mem_of_getElem? (i := 1) rfl)
theorem wm_im_X9_clearIn : (Cond.instanceMethod yX9_clearIn) ∈ wsL_law := in_r31 _ (List.mem_of_getElem? (i := 2) rfl)
theorem wm_se_X9_clearIn : (Cond.selects RX9 yX9_clearIn yX9_clearIn) ∈ wsL_law := in_r31 _ (List.mem_of_getElem? (i := 3) rfl)
theorem wm_co_X9_clearIn : (Cond.code yX9_clearIn cX9_clearIn 2 (some .int)) ∈ wsL_law := in_r31 _ (List.mem_of_getElem? (i := 4) rfl)
theorem wm_ml_X9_124 : (Cond.methodLink RX9 124 yX0_daysUntilClear) ∈ wsL_law := in_r31 _ (List.mem_of_getElem? (i := 5) rfl)
theorem wm_im_X0_daysUntilClear : (Cond.instanceMethod yX0_daysUntilClear) ∈ wsL_law := in_r31 _ (List.mem_of_getElem? (i := 6) rfl)
theorem wm_se_X0_daysUntilClear : (Cond.selects RX0 yX0_daysUntilClear yX0_daysUntilClear) ∈ wsL_law := in_r31 _ (List.mem_of_getElem? (i := 7) rfl)
theorem wm_co_X0_daysUntilClear : (Cond.code yX0_daysUntilClear cX0_daysUntilClear 5 (some .int)) ∈ wsL_law := in_r31 _ (List.mem_of_getElem? (i := 8) rfl)
theorem wm_fl_X0_209 : (Cond.fieldLink RX0 209 "PurserLedgers$Sailor" "debt" "I") ∈ wsL_law := in_r31 _ (List.mem_of_getElem? (i := 9) rfl)
theorem wm_ct_X0_218 : (Cond.constant RX0 218 (-1000004)) ∈ wsL_law := in_r31 _ (List.mem_of_getElem? (i := 10) rfl)
theorem wm_ml_X0_212 : (Cond.methodLink RX0 212 yX6_charged) ∈ wsL_law := in_r31 _ (List.mem_of_getElem? (i := 11) rfl)
theorem wm_ml_X0_214 : (Cond.methodLink RX0 214 yX6_earnedAfter) ∈ wsL_law := in_r31 _ (List.mem_of_getElem? (i := 12) rfl)
theorem wm_im_X6_earnedAfter : (Cond.instanceMethod yX6_earnedAfter) ∈ wsL_law := in_r31 _ (List.mem_of_getElem? (i := 13) rfl)
theorem wm_se_X6_earnedAfter : (Cond.selects RX6 yX6_earnedAfter yX6_earnedAfter) ∈ wsL_law := in_r31 _ (List.mem_of_getElem? (i := 14) rfl)
theorem wm_co_X6_earnedAfter : (Cond.code yX6_earnedAfter cX6_earnedAfter 3 (some .int)) ∈ wsL_law := in_r31 _ (List.mem_of_getElem? (i := 15) rfl)
theorem wm_ml_L_96 : (Cond.methodLink RL 96 yX10_clearIn) ∈ wsL_law := in_r31 _ (List.mem_of_getElem? (i := 16) rfl)
theorem wm_im_X10_clearIn : (Cond.instanceMethod yX10_clearIn) ∈ wsL_law := in_r31 _ (List.mem_of_getElem? (i := 17) rfl)
theorem wm_se_X10_clearIn : (Cond.selects RX10 yX10_clearIn yX10_clearIn) ∈ wsL_law := in_r31 _ (List.mem_of_getElem? (i := 18) rfl)
theorem wm_co_X10_clearIn : (Cond.code yX10_clearIn cX10_clearIn 7 (some .int)) ∈ wsL_law := in_r31 _ (List.mem_of_getElem? (i := 19) rfl)
theorem wm_ml_L_97 : (Cond.methodLink RL 97 yX9_ifPaidOff) ∈ wsL_law := in_r31 _ (List.mem_of_getElem? (i := 20) rfl)
theorem wm_im_X9_ifPaidOff : (Cond.instanceMethod yX9_ifPaidOff) ∈ wsL_law := in_r31 _ (List.mem_of_getElem? (i := 21) rfl)
theorem wm_se_X9_ifPaidOff : (Cond.selects RX9 yX9_ifPaidOff yX9_ifPaidOff) ∈ wsL_law := in_r31 _ (List.mem_of_getElem? (i := 22) rfl)
theorem wm_co_X9_ifPaidOff : (Cond.code yX9_ifPaidOff cX9_ifPaidOff 2 (some .int)) ∈ wsL_law := in_r31 _ (List.mem_of_getElem? (i := 23) rfl)
theorem wm_ml_X9_127 : (Cond.methodLink RX9 127 yX0_tellPayingOff) ∈ wsL_law := in_r32 _ (List.mem_of_getElem? (i := 0) rfl)
theorem wm_im_X0_tellPayingOff : (Cond.instanceMethod yX0_tellPayingOff) ∈ wsL_law := in_r32 _ (List.mem_of_getElem? (i := 1) rfl)
theorem wm_se_X0_tellPayingOff : (Cond.selects RX0 yX0_tellPayingOff yX0_tellPayingOff) ∈ wsL_law := in_r32 _ (List.mem_of_getElem? (i := 2) rfl)
theorem wm_co_X0_tellPayingOff : (Cond.code yX0_tellPayingOff cX0_tellPayingOff 2 (some .int)) ∈ wsL_law := in_r32 _ (List.mem_of_getElem? (i := 3) rfl)
theorem wm_ml_X0_219 : (Cond.methodLink RX0 219 yX0_wouldBePaid) ∈ wsL_law := in_r32 _ (List.mem_of_getElem? (i := 4) rfl)
theorem wm_im_X0_wouldBePaid : (Cond.instanceMethod yX0_wouldBePaid) ∈ wsL_law := in_r32 _ (List.mem_of_getElem? (i := 5) rfl)
theorem wm_se_X0_wouldBePaid : (Cond.selects RX0 yX0_wouldBePaid yX0_wouldBePaid) ∈ wsL_law := in_r32 _ (List.mem_of_getElem? (i := 6) rfl)
theorem wm_co_X0_wouldBePaid : (Cond.code yX0_wouldBePaid cX0_wouldBePaid 3 (some .int)) ∈ wsL_law := in_r32 _ (List.mem_of_getElem? (i := 7) rfl)
theorem wm_ml_X0_231 : (Cond.methodLink RX0 231 Lib.Math.max.name) ∈ wsL_law := in_r32 _ (List.mem_of_getElem? (i := 8) rfl)
theorem wm_st_Lib_Math_max_name : (Cond.static Lib.Math.max.name) ∈ wsL_law := in_r32 _ (List.mem_of_getElem? (i := 9) rfl)
theorem wm_co_Lib_Math_max_name : (Cond.code Lib.Math.max.name Lib.Math.max.code 2 (some .int)) ∈ wsL_law := in_r32 _ (List.mem_of_getElem? (i := 10) rfl)
theorem wm_ml_X0_222 : (Cond.methodLink RX0 222 yX8_missingFor) ∈ wsL_law := in_r32 _ (List.mem_of_getElem? (i := 11) rfl)
theorem wm_ml_X0_225 : (Cond.methodLink RX0 225 yX0_debtsTogether) ∈ wsL_law := in_r32 _ (List.mem_of_getElem? (i := 12) rfl)
theorem wm_im_X0_debtsTogether : (Cond.instanceMethod yX0_debtsTogether) ∈ wsL_law := in_r32 _ (List.mem_of_getElem? (i := 13) rfl)
theorem wm_se_X0_debtsTogether : (Cond.selects RX0 yX0_debtsTogether yX0_debtsTogether) ∈ wsL_law := in_r32 _ (List.mem_of_getElem? (i := 14) rfl)
theorem wm_co_X0_debtsTogether : (Cond.code yX0_debtsTogether cX0_debtsTogether 3 (some .int)) ∈ wsL_law := in_r32 _ (List.mem_of_getElem? (i := 15) rfl)
theorem wm_ml_X0_228 : (Cond.methodLink RX0 228 yX0_setOfDebtors) ∈ wsL_law := in_r32 _ (List.mem_of_getElem? (i := 16) rfl)
theorem wm_im_X0_setOfDebtors : (Cond.instanceMethod yX0_setOfDebtors) ∈ wsL_law := in_r32 _ (List.mem_of_getElem? (i := 17) rfl)
theorem wm_se_X0_setOfDebtors : (Cond.selects RX0 yX0_setOfDebtors yX0_setOfDebtors) ∈ wsL_law := in_r32 _ (List.mem_of_getElem? (i := 18) rfl)
theorem wm_co_X0_setOfDebtors : (Cond.code yX0_setOfDebtors cX0_setOfDebtors 3 (some .int)) ∈ wsL_law := in_r32 _ (List.mem_of_getElem? (i := 19) rfl)
theorem wm_ml_L_100 : (Cond.methodLink RL 100 yX10_ifPaidOff) ∈ wsL_law := in_r32 _ (List.mem_of_getElem? (i := 20) rfl)
theorem wm_im_X10_ifPaidOff : (Cond.instanceMethod yX10_ifPaidOff) ∈ wsL_law := in_r32 _ (List.mem_of_getElem? (i := 21) rfl)
theorem wm_se_X10_ifPaidOff : (Cond.selects RX10 yX10_ifPaidOff yX10_ifPaidOff) ∈ wsL_law := in_r32 _ (List.mem_of_getElem? (i := 22) rfl)
theorem wm_co_X10_ifPaidOff : (Cond.code yX10_ifPaidOff cX10_ifPaidOff 7 (some .int)) ∈ wsL_law := in_r32 _ (List.mem_of_getElem? (i := 23) rfl)
theorem wm_ml_L_101 : (Cond.methodLink RL 101 yX9_poorest) ∈ wsL_law := in_r33 _ (List.mem_of_getElem? (i := 0) rfl)
theorem wm_im_X9_poorest : (Cond.instanceMethod yX9_poorest) ∈ wsL_law := in_r33 _ (List.mem_of_getElem? (i := 1) rfl)
theorem wm_se_X9_poorest : (Cond.selects RX9 yX9_poorest yX9_poorest) ∈ wsL_law := in_r33 _ (List.mem_of_getElem? (i := 2) rfl)
theorem wm_co_X9_poorest : (Cond.code yX9_poorest cX9_poorest 2 (some .int)) ∈ wsL_law := in_r33 _ (List.mem_of_getElem? (i := 3) rfl)
theorem wm_ml_X9_130 : (Cond.methodLink RX9 130 yX0_sailorByBalance) ∈ wsL_law := in_r33 _ (List.mem_of_getElem? (i := 4) rfl)
theorem wm_im_X0_sailorByBalance : (Cond.instanceMethod yX0_sailorByBalance) ∈ wsL_law := in_r33 _ (List.mem_of_getElem? (i := 5) rfl)
theorem wm_se_X0_sailorByBalance : (Cond.selects RX0 yX0_sailorByBalance yX0_sailorByBalance) ∈ wsL_law := in_r33 _ (List.mem_of_getElem? (i := 6) rfl)
theorem wm_co_X0_sailorByBalance : (Cond.code yX0_sailorByBalance cX0_sailorByBalance 3 (some .int)) ∈ wsL_law := in_r33 _ (List.mem_of_getElem? (i := 7) rfl)
theorem wm_ml_X0_234 : (Cond.methodLink RX0 234 yX0_poorerThan) ∈ wsL_law := in_r33 _ (List.mem_of_getElem? (i := 8) rfl)
theorem wm_im_X0_poorerThan : (Cond.instanceMethod yX0_poorerThan) ∈ wsL_law := in_r33 _ (List.mem_of_getElem? (i := 9) rfl)
theorem wm_se_X0_poorerThan : (Cond.selects RX0 yX0_poorerThan yX0_poorerThan) ∈ wsL_law := in_r33 _ (List.mem_of_getElem? (i := 10) rfl)
theorem wm_co_X0_poorerThan : (Cond.code yX0_poorerThan cX0_poorerThan 6 (some .int)) ∈ wsL_law := in_r33 _ (List.mem_of_getElem? (i := 11) rfl)
theorem wm_ml_L_104 : (Cond.methodLink RL 104 yX10_poorest) ∈ wsL_law := in_r33 _ (List.mem_of_getElem? (i := 12) rfl)
theorem wm_im_X10_poorest : (Cond.instanceMethod yX10_poorest) ∈ wsL_law := in_r33 _ (List.mem_of_getElem? (i := 13) rfl)
theorem wm_se_X10_poorest : (Cond.selects RX10 yX10_poorest yX10_poorest) ∈ wsL_law := in_r33 _ (List.mem_of_getElem? (i := 14) rfl)
theorem wm_co_X10_poorest : (Cond.code yX10_poorest cX10_poorest 7 (some .int)) ∈ wsL_law := in_r33 _ (List.mem_of_getElem? (i := 15) rfl)
theorem wm_ml_L_105 : (Cond.methodLink RL 105 yX9_share) ∈ wsL_law := in_r33 _ (List.mem_of_getElem? (i := 16) rfl)
theorem wm_im_X9_share : (Cond.instanceMethod yX9_share) ∈ wsL_law := in_r33 _ (List.mem_of_getElem? (i := 17) rfl)
theorem wm_se_X9_share : (Cond.selects RX9 yX9_share yX9_share) ∈ wsL_law := in_r33 _ (List.mem_of_getElem? (i := 18) rfl)
theorem wm_co_X9_share : (Cond.code yX9_share cX9_share 1 (some .int)) ∈ wsL_law := in_r33 _ (List.mem_of_getElem? (i := 19) rfl)
theorem wm_ml_X9_133 : (Cond.methodLink RX9 133 yX0_chargedShare) ∈ wsL_law := in_r33 _ (List.mem_of_getElem? (i := 20) rfl)
theorem wm_im_X0_chargedShare : (Cond.instanceMethod yX0_chargedShare) ∈ wsL_law := in_r33 _ (List.mem_of_getElem? (i := 21) rfl)
theorem wm_se_X0_chargedShare : (Cond.selects RX0 yX0_chargedShare yX0_chargedShare) ∈ wsL_law := in_r33 _ (List.mem_of_getElem? (i := 22) rfl)
theorem wm_co_X0_chargedShare : (Cond.code yX0_chargedShare cX0_chargedShare 4 (some .int)) ∈ wsL_law := in_r33 _ (List.mem_of_getElem? (i := 23) rfl)
theorem wm_ml_X0_237 : (Cond.methodLink RX0 237 yX6_earned) ∈ wsL_law := in_r34 _ (List.mem_of_getElem? (i := 0) rfl)
theorem wm_st_X9_bitsOf : (Cond.static yX9_bitsOf) ∈ wsL_law := in_r34 _ (List.mem_of_getElem? (i := 1) rfl)
theorem wm_co_X9_bitsOf : (Cond.code yX9_bitsOf cX9_bitsOf 4 (some .int)) ∈ wsL_law := in_r34 _ (List.mem_of_getElem? (i := 2) rfl)
theorem wm_cf_X9_180 : (Cond.constantFloat RX9 180 (1258291200)) ∈ wsL_law := in_r34 _ (List.mem_of_getElem? (i := 3) rfl)
theorem wm_ml_L_108 : (Cond.methodLink RL 108 yX10_share) ∈ wsL_law := in_r34 _ (List.mem_of_getElem? (i := 4) rfl)
theorem wm_im_X10_share : (Cond.instanceMethod yX10_share) ∈ wsL_law := in_r34 _ (List.mem_of_getElem? (i := 5) rfl)
theorem wm_se_X10_share : (Cond.selects RX10 yX10_share yX10_share) ∈ wsL_law := in_r34 _ (List.mem_of_getElem? (i := 6) rfl)
theorem wm_co_X10_share : (Cond.code yX10_share cX10_share 4 (some .int)) ∈ wsL_law := in_r34 _ (List.mem_of_getElem? (i := 7) rfl)
theorem wm_ml_X10_183 : (Cond.methodLink RX10 183 yJxf58ca_floatToIntBits_5c35a) ∈ wsL_law := in_r34 _ (List.mem_of_getElem? (i := 8) rfl)
theorem wm_st_Jxf58ca_floatToIntBits_5c35a : (Cond.static yJxf58ca_floatToIntBits_5c35a) ∈ wsL_law := in_r34 _ (List.mem_of_getElem? (i := 9) rfl)
theorem wm_in_RJxf58ca : (Cond.initialized RJxf58ca) ∈ wsL_law := in_r34 _ (List.mem_of_getElem? (i := 10) rfl)
theorem wm_co_Jxf58ca_floatToIntBits_5c35a : (Cond.code yJxf58ca_floatToIntBits_5c35a cJxf58ca_floatToIntBits_5c35a 1 (some .int)) ∈ wsL_law := in_r34 _ (List.mem_of_getElem? (i := 11) rfl)
theorem wm_ml_RJxf58ca_74 : (Cond.methodLink RJxf58ca 74 ⟨"java/lang/Float", "floatToRawIntBits", "(F)I"⟩) ∈ wsL_law := in_r34 _ (List.mem_of_getElem? (i := 12) rfl)
theorem wm_ow_r34_13 : (Cond.native ⟨"java/lang/Float", "floatToRawIntBits", "(F)I"⟩) ∈ wsL_law := in_r34 _ (List.mem_of_getElem? (i := 13) rfl)
theorem wm_st__java_lang_Float_ : (Cond.static ⟨"java/lang/Float", "floatToRawIntBits", "(F)I"⟩) ∈ wsL_law := in_r34 _ (List.mem_of_getElem? (i := 14) rfl)
theorem wm_in_java_lang_Float : (Cond.initialized "java/lang/Float") ∈ wsL_law := in_r34 _ (List.mem_of_getElem? (i := 15) rfl)
theorem wm_ct_RJxf58ca_77 : (Cond.constant RJxf58ca 77 (2143289344)) ∈ wsL_law := in_r34 _ (List.mem_of_getElem? (i := 16) rfl)
theorem wm_ml_RJxf58ca_59 : (Cond.methodLink RJxf58ca 59 yJxf58ca_isNaN_12338) ∈ wsL_law := in_r34 _ (List.mem_of_getElem? (i := 17) rfl)
theorem wm_st_Jxf58ca_isNaN_12338 : (Cond.static yJxf58ca_isNaN_12338) ∈ wsL_law := in_r34 _ (List.mem_of_getElem? (i := 18) rfl)
theorem wm_co_Jxf58ca_isNaN_12338 : (Cond.code yJxf58ca_isNaN_12338 cJxf58ca_isNaN_12338 1 (some .boolean)) ∈ wsL_law := in_r34 _ (List.mem_of_getElem? (i := 19) rfl)
theorem wm_ml_L_109 : (Cond.methodLink RL 109 yX9_count) ∈ wsL_law := in_r34 _ (List.mem_of_getElem? (i := 20) rfl)
theorem wm_im_X9_count : (Cond.instanceMethod yX9_count) ∈ wsL_law := in_r34 _ (List.mem_of_getElem? (i := 21) rfl)
theorem wm_se_X9_count : (Cond.selects RX9 yX9_count yX9_count) ∈ wsL_law := in_r34 _ (List.mem_of_getElem? (i := 22) rfl)
theorem wm_co_X9_count : (Cond.code yX9_count cX9_count 2 (some .int)) ∈ wsL_law := in_r34 _ (List.mem_of_getElem? (i := 23) rfl)
theorem wm_fl_X9_136 : (Cond.fieldLink RX9 136 "PurserLedgers$History" "kept" "I") ∈ wsL_law := in_r35 _ (List.mem_of_getElem? (i := 0) rfl)
theorem wm_fl_X9_140 : (Cond.fieldLink RX9 140 "PurserLedgers$Text" "length" "I") ∈ wsL_law := in_r35 _ (List.mem_of_getElem? (i := 1) rfl)
theorem wm_ml_X9_143 : (Cond.methodLink RX9 143 yX0_tell) ∈ wsL_law := in_r35 _ (List.mem_of_getElem? (i := 2) rfl)
theorem wm_im_X0_tell : (Cond.instanceMethod yX0_tell) ∈ wsL_law := in_r35 _ (List.mem_of_getElem? (i := 3) rfl)
theorem wm_se_X0_tell : (Cond.selects RX0 yX0_tell yX0_tell) ∈ wsL_law := in_r35 _ (List.mem_of_getElem? (i := 4) rfl)
theorem wm_co_X0_tell : (Cond.code yX0_tell cX0_tell 2 (some .int)) ∈ wsL_law := in_r35 _ (List.mem_of_getElem? (i := 5) rfl)
theorem wm_fl_X0_244 : (Cond.fieldLink RX0 244 "PurserLedgers$Entries" "kept" "I") ∈ wsL_law := in_r35 _ (List.mem_of_getElem? (i := 6) rfl)
theorem wm_ml_X0_247 : (Cond.methodLink RX0 247 yX0_tellCoins) ∈ wsL_law := in_r35 _ (List.mem_of_getElem? (i := 7) rfl)
theorem wm_im_X0_tellCoins : (Cond.instanceMethod yX0_tellCoins) ∈ wsL_law := in_r35 _ (List.mem_of_getElem? (i := 8) rfl)
theorem wm_se_X0_tellCoins : (Cond.selects RX0 yX0_tellCoins yX0_tellCoins) ∈ wsL_law := in_r35 _ (List.mem_of_getElem? (i := 9) rfl)
theorem wm_co_X0_tellCoins : (Cond.code yX0_tellCoins cX0_tellCoins 2 (some .int)) ∈ wsL_law := in_r35 _ (List.mem_of_getElem? (i := 10) rfl)
theorem wm_fl_X0_250 : (Cond.fieldLink RX0 250 "PurserLedgers$Totals" "drawn" "I") ∈ wsL_law := in_r35 _ (List.mem_of_getElem? (i := 11) rfl)
theorem wm_ct_X0_253 : (Cond.constant RX0 253 (100000)) ∈ wsL_law := in_r35 _ (List.mem_of_getElem? (i := 12) rfl)
theorem wm_ml_L_112 : (Cond.methodLink RL 112 yX10_count) ∈ wsL_law := in_r35 _ (List.mem_of_getElem? (i := 13) rfl)
theorem wm_im_X10_count : (Cond.instanceMethod yX10_count) ∈ wsL_law := in_r35 _ (List.mem_of_getElem? (i := 14) rfl)
theorem wm_se_X10_count : (Cond.selects RX10 yX10_count yX10_count) ∈ wsL_law := in_r35 _ (List.mem_of_getElem? (i := 15) rfl)
theorem wm_co_X10_count : (Cond.code yX10_count cX10_count 2 (some .int)) ∈ wsL_law := in_r35 _ (List.mem_of_getElem? (i := 16) rfl)
theorem wm_ct_X10_189 : (Cond.constant RX10 189 (100000)) ∈ wsL_law := in_r35 _ (List.mem_of_getElem? (i := 17) rfl)
theorem wm_fl_X10_190 : (Cond.fieldLink RX10 190 "PurserLedgersModel" "length" "I") ∈ wsL_law := in_r35 _ (List.mem_of_getElem? (i := 18) rfl)
theorem wm_ml_L_113 : (Cond.methodLink RL 113 yX9_undo) ∈ wsL_law := in_r35 _ (List.mem_of_getElem? (i := 19) rfl)
theorem wm_im_X9_undo : (Cond.instanceMethod yX9_undo) ∈ wsL_law := in_r35 _ (List.mem_of_getElem? (i := 20) rfl)
theorem wm_se_X9_undo : (Cond.selects RX9 yX9_undo yX9_undo) ∈ wsL_law := in_r35 _ (List.mem_of_getElem? (i := 21) rfl)
theorem wm_co_X9_undo : (Cond.code yX9_undo cX9_undo 1 (some .int)) ∈ wsL_law := in_r35 _ (List.mem_of_getElem? (i := 22) rfl)
theorem wm_ml_X9_144 : (Cond.methodLink RX9 144 yX2_restoreInto) ∈ wsL_law := in_r35 _ (List.mem_of_getElem? (i := 23) rfl)
theorem wm_im_X2_restoreInto : (Cond.instanceMethod yX2_restoreInto) ∈ wsL_law := in_r36 _ (List.mem_of_getElem? (i := 0) rfl)
theorem wm_se_X2_restoreInto : (Cond.selects RX2 yX2_restoreInto yX2_restoreInto) ∈ wsL_law := in_r36 _ (List.mem_of_getElem? (i := 1) rfl)
theorem wm_co_X2_restoreInto : (Cond.code yX2_restoreInto cX2_restoreInto 5 (some .int)) ∈ wsL_law := in_r36 _ (List.mem_of_getElem? (i := 2) rfl)
theorem wm_ct_X2_26 : (Cond.constant RX2 26 (-1000002)) ∈ wsL_law := in_r36 _ (List.mem_of_getElem? (i := 3) rfl)
theorem wm_ml_L_116 : (Cond.methodLink RL 116 yX10_undo) ∈ wsL_law := in_r36 _ (List.mem_of_getElem? (i := 4) rfl)
theorem wm_im_X10_undo : (Cond.instanceMethod yX10_undo) ∈ wsL_law := in_r36 _ (List.mem_of_getElem? (i := 5) rfl)
theorem wm_se_X10_undo : (Cond.selects RX10 yX10_undo yX10_undo) ∈ wsL_law := in_r36 _ (List.mem_of_getElem? (i := 6) rfl)
theorem wm_co_X10_undo : (Cond.code yX10_undo cX10_undo 2 (some .int)) ∈ wsL_law := in_r36 _ (List.mem_of_getElem? (i := 7) rfl)
theorem wm_ml_L_117 : (Cond.methodLink RL 117 yX9_type) ∈ wsL_law := in_r36 _ (List.mem_of_getElem? (i := 8) rfl)
theorem wm_im_X9_type : (Cond.instanceMethod yX9_type) ∈ wsL_law := in_r36 _ (List.mem_of_getElem? (i := 9) rfl)
theorem wm_se_X9_type : (Cond.selects RX9 yX9_type yX9_type) ∈ wsL_law := in_r36 _ (List.mem_of_getElem? (i := 10) rfl)
theorem wm_co_X9_type : (Cond.code yX9_type cX9_type 2 (some .int)) ∈ wsL_law := in_r36 _ (List.mem_of_getElem? (i := 11) rfl)
theorem wm_ml_X9_148 : (Cond.methodLink RX9 148 yX7_append) ∈ wsL_law := in_r36 _ (List.mem_of_getElem? (i := 12) rfl)
theorem wm_im_X7_append : (Cond.instanceMethod yX7_append) ∈ wsL_law := in_r36 _ (List.mem_of_getElem? (i := 13) rfl)
theorem wm_se_X7_append : (Cond.selects RX7 yX7_append yX7_append) ∈ wsL_law := in_r36 _ (List.mem_of_getElem? (i := 14) rfl)
theorem wm_co_X7_append : (Cond.code yX7_append cX7_append 2 (some .int)) ∈ wsL_law := in_r36 _ (List.mem_of_getElem? (i := 15) rfl)
theorem wm_ct_X7_19 : (Cond.constant RX7 19 (-1000001)) ∈ wsL_law := in_r36 _ (List.mem_of_getElem? (i := 16) rfl)
theorem wm_fl_X7_20 : (Cond.fieldLink RX7 20 "PurserLedgers$Text" "length" "I") ∈ wsL_law := in_r36 _ (List.mem_of_getElem? (i := 17) rfl)
theorem wm_ct_X7_24 : (Cond.constant RX7 24 (-1000003)) ∈ wsL_law := in_r36 _ (List.mem_of_getElem? (i := 18) rfl)
theorem wm_ml_L_120 : (Cond.methodLink RL 120 yX10_type) ∈ wsL_law := in_r36 _ (List.mem_of_getElem? (i := 19) rfl)
theorem wm_im_X10_type : (Cond.instanceMethod yX10_type) ∈ wsL_law := in_r36 _ (List.mem_of_getElem? (i := 20) rfl)
theorem wm_se_X10_type : (Cond.selects RX10 yX10_type yX10_type) ∈ wsL_law := in_r36 _ (List.mem_of_getElem? (i := 21) rfl)
theorem wm_co_X10_type : (Cond.code yX10_type cX10_type 2 (some .int)) ∈ wsL_law := in_r36 _ (List.mem_of_getElem? (i := 22) rfl)
theorem wm_ml_L_121 : (Cond.methodLink RL 121 yX9_clearText) ∈ wsL_law := in_r36 _ (List.mem_of_getElem? (i := 23) rfl)
theorem wm_im_X9_clearText : (Cond.instanceMethod yX9_clearText) ∈ wsL_law := in_r37 _ (List.mem_of_getElem? (i := 0) rfl)
theorem wm_se_X9_clearText : (Cond.selects RX9 yX9_clearText yX9_clearText) ∈ wsL_law := in_r37 _ (List.mem_of_getElem? (i := 1) rfl)
theorem wm_co_X9_clearText : (Cond.code yX9_clearText cX9_clearText 1 (some .int)) ∈ wsL_law := in_r37 _ (List.mem_of_getElem? (i := 2) rfl)
theorem wm_ml_X9_151 : (Cond.methodLink RX9 151 yX7_empty) ∈ wsL_law := in_r37 _ (List.mem_of_getElem? (i := 3) rfl)
theorem wm_im_X7_empty : (Cond.instanceMethod yX7_empty) ∈ wsL_law := in_r37 _ (List.mem_of_getElem? (i := 4) rfl)
theorem wm_se_X7_empty : (Cond.selects RX7 yX7_empty yX7_empty) ∈ wsL_law := in_r37 _ (List.mem_of_getElem? (i := 5) rfl)
theorem wm_co_X7_empty : (Cond.code yX7_empty cX7_empty 2 (some .int)) ∈ wsL_law := in_r37 _ (List.mem_of_getElem? (i := 6) rfl)
theorem wm_ml_L_124 : (Cond.methodLink RL 124 yX10_clearText) ∈ wsL_law := in_r37 _ (List.mem_of_getElem? (i := 7) rfl)
theorem wm_im_X10_clearText : (Cond.instanceMethod yX10_clearText) ∈ wsL_law := in_r37 _ (List.mem_of_getElem? (i := 8) rfl)
theorem wm_se_X10_clearText : (Cond.selects RX10 yX10_clearText yX10_clearText) ∈ wsL_law := in_r37 _ (List.mem_of_getElem? (i := 9) rfl)
theorem wm_co_X10_clearText : (Cond.code yX10_clearText cX10_clearText 2 (some .int)) ∈ wsL_law := in_r37 _ (List.mem_of_getElem? (i := 10) rfl)
theorem wm_ml_L_125 : (Cond.methodLink RL 125 yX9_fault) ∈ wsL_law := in_r37 _ (List.mem_of_getElem? (i := 11) rfl)
theorem wm_im_X9_fault : (Cond.instanceMethod yX9_fault) ∈ wsL_law := in_r37 _ (List.mem_of_getElem? (i := 12) rfl)
theorem wm_se_X9_fault : (Cond.selects RX9 yX9_fault yX9_fault) ∈ wsL_law := in_r37 _ (List.mem_of_getElem? (i := 13) rfl)
theorem wm_co_X9_fault : (Cond.code yX9_fault cX9_fault 2 (some .int)) ∈ wsL_law := in_r37 _ (List.mem_of_getElem? (i := 14) rfl)
theorem wm_ml_X9_154 : (Cond.methodLink RX9 154 yX9_within) ∈ wsL_law := in_r37 _ (List.mem_of_getElem? (i := 15) rfl)
theorem wm_ml_X9_158 : (Cond.methodLink RX9 158 yX5_runThrough) ∈ wsL_law := in_r37 _ (List.mem_of_getElem? (i := 16) rfl)
theorem wm_im_X5_runThrough : (Cond.instanceMethod yX5_runThrough) ∈ wsL_law := in_r37 _ (List.mem_of_getElem? (i := 17) rfl)
theorem wm_se_X5_runThrough : (Cond.selects RX5 yX5_runThrough yX5_runThrough) ∈ wsL_law := in_r37 _ (List.mem_of_getElem? (i := 18) rfl)
theorem wm_co_X5_runThrough : (Cond.code yX5_runThrough cX5_runThrough 5 none) ∈ wsL_law := in_r37 _ (List.mem_of_getElem? (i := 19) rfl)
theorem wm_fl_X5_18 : (Cond.fieldLink RX5 18 "PurserLedgers$Rehearsal" "done" "I") ∈ wsL_law := in_r37 _ (List.mem_of_getElem? (i := 20) rfl)
theorem wm_fl_X5_22 : (Cond.fieldLink RX5 22 "PurserLedgers$Rehearsal" "position" "I") ∈ wsL_law := in_r37 _ (List.mem_of_getElem? (i := 21) rfl)
theorem wm_fl_X5_25 : (Cond.fieldLink RX5 25 "PurserLedgers$Rehearsal" "reason" "I") ∈ wsL_law := in_r37 _ (List.mem_of_getElem? (i := 22) rfl)
theorem wm_fl_X5_28 : (Cond.fieldLink RX5 28 "PurserLedgers$Rehearsal" "cause" "I") ∈ wsL_law := in_r37 _ (List.mem_of_getElem? (i := 23) rfl)
theorem wm_fl_X5_31 : (Cond.fieldLink RX5 31 "PurserLedgers$Text" "length" "I") ∈ wsL_law := in_r38 _ (List.mem_of_getElem? (i := 0) rfl)
theorem wm_fl_X5_40 : (Cond.fieldLink RX5 40 "PurserLedgers$Order" "place" "I") ∈ wsL_law := in_r38 _ (List.mem_of_getElem? (i := 1) rfl)
theorem wm_ml_X5_36 : (Cond.methodLink RX5 36 yX4_readFrom) ∈ wsL_law := in_r38 _ (List.mem_of_getElem? (i := 2) rfl)
theorem wm_im_X4_readFrom : (Cond.instanceMethod yX4_readFrom) ∈ wsL_law := in_r38 _ (List.mem_of_getElem? (i := 3) rfl)
theorem wm_se_X4_readFrom : (Cond.selects RX4 yX4_readFrom yX4_readFrom) ∈ wsL_law := in_r38 _ (List.mem_of_getElem? (i := 4) rfl)
theorem wm_co_X4_readFrom : (Cond.code yX4_readFrom cX4_readFrom 6 (some .boolean)) ∈ wsL_law := in_r38 _ (List.mem_of_getElem? (i := 5) rfl)
theorem wm_fl_X4_15 : (Cond.fieldLink RX4 15 "PurserLedgers$Order" "place" "I") ∈ wsL_law := in_r38 _ (List.mem_of_getElem? (i := 6) rfl)
theorem wm_fl_X4_25 : (Cond.fieldLink RX4 25 "PurserLedgers$Order" "letter" "I") ∈ wsL_law := in_r38 _ (List.mem_of_getElem? (i := 7) rfl)
theorem wm_ml_X4_19 : (Cond.methodLink RX4 19 yX7_at) ∈ wsL_law := in_r38 _ (List.mem_of_getElem? (i := 8) rfl)
theorem wm_im_X7_at : (Cond.instanceMethod yX7_at) ∈ wsL_law := in_r38 _ (List.mem_of_getElem? (i := 9) rfl)
theorem wm_se_X7_at : (Cond.selects RX7 yX7_at yX7_at) ∈ wsL_law := in_r38 _ (List.mem_of_getElem? (i := 10) rfl)
theorem wm_co_X7_at : (Cond.code yX7_at cX7_at 2 (some .int)) ∈ wsL_law := in_r38 _ (List.mem_of_getElem? (i := 11) rfl)
theorem wm_ml_X4_28 : (Cond.methodLink RX4 28 yX4_numbersOf) ∈ wsL_law := in_r38 _ (List.mem_of_getElem? (i := 12) rfl)
theorem wm_st_X4_numbersOf : (Cond.static yX4_numbersOf) ∈ wsL_law := in_r38 _ (List.mem_of_getElem? (i := 13) rfl)
theorem wm_co_X4_numbersOf : (Cond.code yX4_numbersOf cX4_numbersOf 1 (some .int)) ∈ wsL_law := in_r38 _ (List.mem_of_getElem? (i := 14) rfl)
theorem wm_ml_X4_31 : (Cond.methodLink RX4 31 yX4_readSign) ∈ wsL_law := in_r38 _ (List.mem_of_getElem? (i := 15) rfl)
theorem wm_im_X4_readSign : (Cond.instanceMethod yX4_readSign) ∈ wsL_law := in_r38 _ (List.mem_of_getElem? (i := 16) rfl)
theorem wm_se_X4_readSign : (Cond.selects RX4 yX4_readSign yX4_readSign) ∈ wsL_law := in_r38 _ (List.mem_of_getElem? (i := 17) rfl)
theorem wm_co_X4_readSign : (Cond.code yX4_readSign cX4_readSign 3 (some .boolean)) ∈ wsL_law := in_r38 _ (List.mem_of_getElem? (i := 18) rfl)
theorem wm_ml_X4_35 : (Cond.methodLink RX4 35 yX4_readNumber) ∈ wsL_law := in_r38 _ (List.mem_of_getElem? (i := 19) rfl)
theorem wm_im_X4_readNumber : (Cond.instanceMethod yX4_readNumber) ∈ wsL_law := in_r38 _ (List.mem_of_getElem? (i := 20) rfl)
theorem wm_se_X4_readNumber : (Cond.selects RX4 yX4_readNumber yX4_readNumber) ∈ wsL_law := in_r38 _ (List.mem_of_getElem? (i := 21) rfl)
theorem wm_co_X4_readNumber : (Cond.code yX4_readNumber cX4_readNumber 4 (some .int)) ∈ wsL_law := in_r38 _ (List.mem_of_getElem? (i := 22) rfl)
theorem wm_ml_X4_43 : (Cond.methodLink RX4 43 Lib.Math.max.name) ∈ wsL_law := in_r38 _ (List.mem_of_getElem? (i := 23) rfl)
theorem wm_ml_X5_43 : (Cond.methodLink RX5 43 yX4_carryOut) ∈ wsL_law := in_r39 _ (List.mem_of_getElem? (i := 0) rfl)
theorem wm_im_X4_carryOut : (Cond.instanceMethod yX4_carryOut) ∈ wsL_law := in_r39 _ (List.mem_of_getElem? (i := 1) rfl)
theorem wm_se_X4_carryOut : (Cond.selects RX4 yX4_carryOut yX4_carryOut) ∈ wsL_law := in_r39 _ (List.mem_of_getElem? (i := 2) rfl)
theorem wm_co_X4_carryOut : (Cond.code yX4_carryOut cX4_carryOut 2 (some .int)) ∈ wsL_law := in_r39 _ (List.mem_of_getElem? (i := 3) rfl)
theorem wm_ml_X4_49 : (Cond.methodLink RX4 49 yX4_number) ∈ wsL_law := in_r39 _ (List.mem_of_getElem? (i := 4) rfl)
theorem wm_im_X4_number : (Cond.instanceMethod yX4_number) ∈ wsL_law := in_r39 _ (List.mem_of_getElem? (i := 5) rfl)
theorem wm_se_X4_number : (Cond.selects RX4 yX4_number yX4_number) ∈ wsL_law := in_r39 _ (List.mem_of_getElem? (i := 6) rfl)
theorem wm_co_X4_number : (Cond.code yX4_number cX4_number 2 (some .int)) ∈ wsL_law := in_r39 _ (List.mem_of_getElem? (i := 7) rfl)
theorem wm_ml_X4_52 : (Cond.methodLink RX4 52 yX0_signOn) ∈ wsL_law := in_r39 _ (List.mem_of_getElem? (i := 8) rfl)
theorem wm_ml_X4_57 : (Cond.methodLink RX4 57 yX0_buyForChest) ∈ wsL_law := in_r39 _ (List.mem_of_getElem? (i := 9) rfl)
theorem wm_ml_X4_61 : (Cond.methodLink RX4 61 yX0_sellFromChest) ∈ wsL_law := in_r39 _ (List.mem_of_getElem? (i := 10) rfl)
theorem wm_ml_X4_64 : (Cond.methodLink RX4 64 yX0_advanceTo) ∈ wsL_law := in_r39 _ (List.mem_of_getElem? (i := 11) rfl)
theorem wm_ml_X4_67 : (Cond.methodLink RX4 67 yX0_fineOne) ∈ wsL_law := in_r39 _ (List.mem_of_getElem? (i := 12) rfl)
theorem wm_ml_X4_70 : (Cond.methodLink RX4 70 yX0_passDays) ∈ wsL_law := in_r39 _ (List.mem_of_getElem? (i := 13) rfl)
theorem wm_ml_X4_73 : (Cond.methodLink RX4 73 yX0_letAshore) ∈ wsL_law := in_r39 _ (List.mem_of_getElem? (i := 14) rfl)
theorem wm_ml_X4_76 : (Cond.methodLink RX4 76 yX0_comeBack) ∈ wsL_law := in_r39 _ (List.mem_of_getElem? (i := 15) rfl)
theorem wm_ml_X4_79 : (Cond.methodLink RX4 79 yX0_putToSea) ∈ wsL_law := in_r39 _ (List.mem_of_getElem? (i := 16) rfl)
theorem wm_ml_X4_83 : (Cond.methodLink RX4 83 yX0_comeIntoPort) ∈ wsL_law := in_r39 _ (List.mem_of_getElem? (i := 17) rfl)
theorem wm_ml_X4_86 : (Cond.methodLink RX4 86 yX0_endVoyage) ∈ wsL_law := in_r39 _ (List.mem_of_getElem? (i := 18) rfl)
theorem wm_ml_X9_162 : (Cond.methodLink RX9 162 yX5_tellFault) ∈ wsL_law := in_r39 _ (List.mem_of_getElem? (i := 19) rfl)
theorem wm_im_X5_tellFault : (Cond.instanceMethod yX5_tellFault) ∈ wsL_law := in_r39 _ (List.mem_of_getElem? (i := 20) rfl)
theorem wm_se_X5_tellFault : (Cond.selects RX5 yX5_tellFault yX5_tellFault) ∈ wsL_law := in_r39 _ (List.mem_of_getElem? (i := 21) rfl)
theorem wm_co_X5_tellFault : (Cond.code yX5_tellFault cX5_tellFault 2 (some .int)) ∈ wsL_law := in_r39 _ (List.mem_of_getElem? (i := 22) rfl)
theorem wm_ct_X5_51 : (Cond.constant RX5 51 (-1000004)) ∈ wsL_law := in_r39 _ (List.mem_of_getElem? (i := 23) rfl)
theorem wm_ml_X5_47 : (Cond.methodLink RX5 47 yX5_isFaulty) ∈ wsL_law := in_r40 _ (List.mem_of_getElem? (i := 0) rfl)
theorem wm_im_X5_isFaulty : (Cond.instanceMethod yX5_isFaulty) ∈ wsL_law := in_r40 _ (List.mem_of_getElem? (i := 1) rfl)
theorem wm_se_X5_isFaulty : (Cond.selects RX5 yX5_isFaulty yX5_isFaulty) ∈ wsL_law := in_r40 _ (List.mem_of_getElem? (i := 2) rfl)
theorem wm_co_X5_isFaulty : (Cond.code yX5_isFaulty cX5_isFaulty 1 (some .boolean)) ∈ wsL_law := in_r40 _ (List.mem_of_getElem? (i := 3) rfl)
theorem wm_ml_L_128 : (Cond.methodLink RL 128 yX10_fault) ∈ wsL_law := in_r40 _ (List.mem_of_getElem? (i := 4) rfl)
theorem wm_im_X10_fault : (Cond.instanceMethod yX10_fault) ∈ wsL_law := in_r40 _ (List.mem_of_getElem? (i := 5) rfl)
theorem wm_se_X10_fault : (Cond.selects RX10 yX10_fault yX10_fault) ∈ wsL_law := in_r40 _ (List.mem_of_getElem? (i := 6) rfl)
theorem wm_co_X10_fault : (Cond.code yX10_fault cX10_fault 3 (some .int)) ∈ wsL_law := in_r40 _ (List.mem_of_getElem? (i := 7) rfl)
theorem wm_fl_X10_217 : (Cond.fieldLink RX10 217 "PurserLedgersModel" "position" "I") ∈ wsL_law := in_r40 _ (List.mem_of_getElem? (i := 8) rfl)
theorem wm_fl_X10_220 : (Cond.fieldLink RX10 220 "PurserLedgersModel" "reason" "I") ∈ wsL_law := in_r40 _ (List.mem_of_getElem? (i := 9) rfl)
theorem wm_fl_X10_214 : (Cond.fieldLink RX10 214 "PurserLedgersModel" "cause" "I") ∈ wsL_law := in_r40 _ (List.mem_of_getElem? (i := 10) rfl)
theorem wm_ml_X10_226 : (Cond.methodLink RX10 226 yX10_putAside) ∈ wsL_law := in_r40 _ (List.mem_of_getElem? (i := 11) rfl)
theorem wm_im_X10_putAside : (Cond.instanceMethod yX10_putAside) ∈ wsL_law := in_r40 _ (List.mem_of_getElem? (i := 12) rfl)
theorem wm_se_X10_putAside : (Cond.selects RX10 yX10_putAside yX10_putAside) ∈ wsL_law := in_r40 _ (List.mem_of_getElem? (i := 13) rfl)
theorem wm_co_X10_putAside : (Cond.code yX10_putAside cX10_putAside 2 none) ∈ wsL_law := in_r40 _ (List.mem_of_getElem? (i := 14) rfl)
theorem wm_ml_X10_229 : (Cond.methodLink RX10 229 yX10_doText) ∈ wsL_law := in_r40 _ (List.mem_of_getElem? (i := 15) rfl)
theorem wm_im_X10_doText : (Cond.instanceMethod yX10_doText) ∈ wsL_law := in_r40 _ (List.mem_of_getElem? (i := 16) rfl)
theorem wm_se_X10_doText : (Cond.selects RX10 yX10_doText yX10_doText) ∈ wsL_law := in_r40 _ (List.mem_of_getElem? (i := 17) rfl)
theorem wm_co_X10_doText : (Cond.code yX10_doText cX10_doText 3 (some .boolean)) ∈ wsL_law := in_r40 _ (List.mem_of_getElem? (i := 18) rfl)
theorem wm_fl_X10_205 : (Cond.fieldLink RX10 205 "PurserLedgersModel" "orders" "I") ∈ wsL_law := in_r40 _ (List.mem_of_getElem? (i := 19) rfl)
theorem wm_fl_X10_202 : (Cond.fieldLink RX10 202 "PurserLedgersModel" "broken" "I") ∈ wsL_law := in_r40 _ (List.mem_of_getElem? (i := 20) rfl)
theorem wm_ml_X10_208 : (Cond.methodLink RX10 208 yX10_readOrder) ∈ wsL_law := in_r40 _ (List.mem_of_getElem? (i := 21) rfl)
theorem wm_im_X10_readOrder : (Cond.instanceMethod yX10_readOrder) ∈ wsL_law := in_r40 _ (List.mem_of_getElem? (i := 22) rfl)
theorem wm_se_X10_readOrder : (Cond.selects RX10 yX10_readOrder yX10_readOrder) ∈ wsL_law := in_r40 _ (List.mem_of_getElem? (i := 23) rfl)
theorem wm_co_X10_readOrder : (Cond.code yX10_readOrder cX10_readOrder 6 (some .int)) ∈ wsL_law := in_r41 _ (List.mem_of_getElem? (i := 0) rfl)
theorem wm_fl_X10_196 : (Cond.fieldLink RX10 196 "PurserLedgersModel" "letter" "I") ∈ wsL_law := in_r41 _ (List.mem_of_getElem? (i := 1) rfl)
theorem wm_ml_X10_193 : (Cond.methodLink RX10 193 yX10_at) ∈ wsL_law := in_r41 _ (List.mem_of_getElem? (i := 2) rfl)
theorem wm_im_X10_at : (Cond.instanceMethod yX10_at) ∈ wsL_law := in_r41 _ (List.mem_of_getElem? (i := 3) rfl)
theorem wm_se_X10_at : (Cond.selects RX10 yX10_at yX10_at) ∈ wsL_law := in_r41 _ (List.mem_of_getElem? (i := 4) rfl)
theorem wm_co_X10_at : (Cond.code yX10_at cX10_at 2 (some .int)) ∈ wsL_law := in_r41 _ (List.mem_of_getElem? (i := 5) rfl)
theorem wm_ml_X10_199 : (Cond.methodLink RX10 199 yX10_numbers) ∈ wsL_law := in_r41 _ (List.mem_of_getElem? (i := 6) rfl)
theorem wm_st_X10_numbers : (Cond.static yX10_numbers) ∈ wsL_law := in_r41 _ (List.mem_of_getElem? (i := 7) rfl)
theorem wm_co_X10_numbers : (Cond.code yX10_numbers cX10_numbers 1 (some .int)) ∈ wsL_law := in_r41 _ (List.mem_of_getElem? (i := 8) rfl)
theorem wm_ml_X10_211 : (Cond.methodLink RX10 211 yX10_noOrder) ∈ wsL_law := in_r41 _ (List.mem_of_getElem? (i := 9) rfl)
theorem wm_im_X10_noOrder : (Cond.instanceMethod yX10_noOrder) ∈ wsL_law := in_r41 _ (List.mem_of_getElem? (i := 10) rfl)
theorem wm_se_X10_noOrder : (Cond.selects RX10 yX10_noOrder yX10_noOrder) ∈ wsL_law := in_r41 _ (List.mem_of_getElem? (i := 11) rfl)
theorem wm_co_X10_noOrder : (Cond.code yX10_noOrder cX10_noOrder 1 (some .int)) ∈ wsL_law := in_r41 _ (List.mem_of_getElem? (i := 12) rfl)
theorem wm_ml_X10_223 : (Cond.methodLink RX10 223 yX10_doOrder) ∈ wsL_law := in_r41 _ (List.mem_of_getElem? (i := 13) rfl)
theorem wm_im_X10_doOrder : (Cond.instanceMethod yX10_doOrder) ∈ wsL_law := in_r41 _ (List.mem_of_getElem? (i := 14) rfl)
theorem wm_se_X10_doOrder : (Cond.selects RX10 yX10_doOrder yX10_doOrder) ∈ wsL_law := in_r41 _ (List.mem_of_getElem? (i := 15) rfl)
theorem wm_co_X10_doOrder : (Cond.code yX10_doOrder cX10_doOrder 1 (some .int)) ∈ wsL_law := in_r41 _ (List.mem_of_getElem? (i := 16) rfl)
theorem wm_ml_X10_232 : (Cond.methodLink RX10 232 yX10_putBack) ∈ wsL_law := in_r41 _ (List.mem_of_getElem? (i := 17) rfl)
theorem wm_im_X10_putBack : (Cond.instanceMethod yX10_putBack) ∈ wsL_law := in_r41 _ (List.mem_of_getElem? (i := 18) rfl)
theorem wm_se_X10_putBack : (Cond.selects RX10 yX10_putBack yX10_putBack) ∈ wsL_law := in_r41 _ (List.mem_of_getElem? (i := 19) rfl)
theorem wm_co_X10_putBack : (Cond.code yX10_putBack cX10_putBack 2 none) ∈ wsL_law := in_r41 _ (List.mem_of_getElem? (i := 20) rfl)
theorem wm_ml_L_129 : (Cond.methodLink RL 129 yX9_play) ∈ wsL_law := in_r41 _ (List.mem_of_getElem? (i := 21) rfl)
theorem wm_im_X9_play : (Cond.instanceMethod yX9_play) ∈ wsL_law := in_r41 _ (List.mem_of_getElem? (i := 22) rfl)
theorem wm_se_X9_play : (Cond.selects RX9 yX9_play yX9_play) ∈ wsL_law := in_r41 _ (List.mem_of_getElem? (i := 23) rfl)
theorem wm_co_X9_play : (Cond.code yX9_play cX9_play 1 (some .int)) ∈ wsL_law := in_r42 _ (List.mem_of_getElem? (i := 0) rfl)
theorem wm_ct_X9_169 : (Cond.constant RX9 169 (-1000002)) ∈ wsL_law := in_r42 _ (List.mem_of_getElem? (i := 1) rfl)
theorem wm_fl_X9_170 : (Cond.fieldLink RX9 170 "PurserLedgers$Rehearsal" "done" "I") ∈ wsL_law := in_r42 _ (List.mem_of_getElem? (i := 2) rfl)
theorem wm_ml_X9_165 : (Cond.methodLink RX9 165 yX5_isFaulty) ∈ wsL_law := in_r42 _ (List.mem_of_getElem? (i := 3) rfl)
theorem wm_ml_L_132 : (Cond.methodLink RL 132 yX10_play) ∈ wsL_law := in_r42 _ (List.mem_of_getElem? (i := 4) rfl)
theorem wm_im_X10_play : (Cond.instanceMethod yX10_play) ∈ wsL_law := in_r42 _ (List.mem_of_getElem? (i := 5) rfl)
theorem wm_se_X10_play : (Cond.selects RX10 yX10_play yX10_play) ∈ wsL_law := in_r42 _ (List.mem_of_getElem? (i := 6) rfl)
theorem wm_co_X10_play : (Cond.code yX10_play cX10_play 1 (some .int)) ∈ wsL_law := in_r42 _ (List.mem_of_getElem? (i := 7) rfl)
set_option maxRecDepth 100000 in
theorem wsL_good : wsL_law.all goodWord = true := by decide +kernel
/-- the one word list: a method's own code, then all words of the law -/
def wsO (y : MethodName) (cc : ByteArray) (n : Nat) (r : Option FieldType) : List Cond := Cond.code y cc n r :: wsL_law
theorem wsO_good {y y2 : MethodName} {cc cc2 : ByteArray} {n n2 : Nat} {r r2 : Option FieldType} (h : Cond.code y2 cc2 n2 r2 ∈ wsL_law) : GoodIn (wsO y cc n r) (wsO y2 cc2 n2 r2) := fun w hw => (List.mem_cons.mp hw).elim (fun e => by subst e; exact ⟨List.mem_cons_of_mem _ h, good_of_word (List.all_eq_true.mp wsL_good _ h)⟩) (fun hw => ⟨List.mem_cons_of_mem _ hw, good_of_word (List.all_eq_true.mp wsL_good _ hw)⟩)
end
section
theorem dL_law_0 : decode cL_law 0 = .ok (.new 7, 3) := by decide +kernel
theorem dL_law_3 : decode cL_law 3 = .ok (.dup, 1) := by decide +kernel
theorem dL_law_4 : decode cL_law 4 = .ok (.invokespecial 9, 3) := by decide +kernel
theorem dL_law_7 : decode cL_law 7 = .ok (.astore_n 1, 1) := by decide +kernel
theorem dL_law_8 : decode cL_law 8 = .ok (.new 10, 3) := by decide +kernel
theorem dL_law_11 : decode cL_law 11 = .ok (.dup, 1) := by decide +kernel
theorem dL_law_12 : decode cL_law 12 = .ok (.invokespecial 12, 3) := by decide +kernel
theorem dL_law_15 : decode cL_law 15 = .ok (.astore_n 2, 1) := by decide +kernel
theorem dL_law_16 : decode cL_law 16 = .ok (.iconst 0, 1) := by decide +kernel
theorem dL_law_17 : decode cL_law 17 = .ok (.istore_n 3, 1) := by decide +kernel
theorem dL_law_18 : decode cL_law 18 = .ok (.iload_n 3, 1) := by decide +kernel
theorem dL_law_19 : decode cL_law 19 = .ok (.aload_n 0, 1) := by decide +kernel
theorem dL_law_20 : decode cL_law 20 = .ok (.arraylength, 1) := by decide +kernel
theorem dL_law_21 : decode cL_law 21 = .ok (.iconst 4, 1) := by decide +kernel
theorem dL_law_22 : decode cL_law 22 = .ok (.isub, 1) := by decide +kernel
theorem dL_law_23 : decode cL_law 23 = .ok (.if_icmp .gt 904, 3) := by decide +kernel
theorem dL_law_26 : decode cL_law 26 = .ok (.aload_n 0, 1) := by decide +kernel
theorem dL_law_27 : decode cL_law 27 = .ok (.iload_n 3, 1) := by decide +kernel
theorem dL_law_28 : decode cL_law 28 = .ok (.iaload, 1) := by decide +kernel
theorem dL_law_29 : decode cL_law 29 = .ok (.bipush 31, 2) := by decide +kernel
theorem dL_law_31 : decode cL_law 31 = .ok (.iand, 1) := by decide +kernel
theorem dL_law_32 : decode cL_law 32 = .ok (.tableswitch 889 0 28 #[132, 165, 208, 251, 284, 317, 350, 373, 406, 419, 432, 455, 478, 491, 524, 557, 590, 623, 666, 699, 722, 745, 768, 781, 804, 817, 840, 853, 876], 132) := by decide +kernel
theorem dL_law_164 : decode cL_law 164 = .ok (.aload_n 1, 1) := by decide +kernel
theorem dL_law_165 : decode cL_law 165 = .ok (.aload_n 0, 1) := by decide +kernel
theorem dL_law_166 : decode cL_law 166 = .ok (.iload_n 3, 1) := by decide +kernel
theorem dL_law_167 : decode cL_law 167 = .ok (.iconst 1, 1) := by decide +kernel
theorem dL_law_168 : decode cL_law 168 = .ok (.iadd, 1) := by decide +kernel
theorem dL_law_169 : decode cL_law 169 = .ok (.iaload, 1) := by decide +kernel
theorem dL_law_170 : decode cL_law 170 = .ok (.aload_n 0, 1) := by decide +kernel
theorem dL_law_171 : decode cL_law 171 = .ok (.iload_n 3, 1) := by decide +kernel
theorem dL_law_172 : decode cL_law 172 = .ok (.iconst 2, 1) := by decide +kernel
theorem dL_law_173 : decode cL_law 173 = .ok (.iadd, 1) := by decide +kernel
theorem dL_law_174 : decode cL_law 174 = .ok (.iaload, 1) := by decide +kernel
theorem dL_law_175 : decode cL_law 175 = .ok (.invokevirtual 13, 3) := by decide +kernel
theorem dL_law_178 : decode cL_law 178 = .ok (.aload_n 2, 1) := by decide +kernel
theorem dL_law_179 : decode cL_law 179 = .ok (.aload_n 0, 1) := by decide +kernel
theorem dL_law_180 : decode cL_law 180 = .ok (.iload_n 3, 1) := by decide +kernel
theorem dL_law_181 : decode cL_law 181 = .ok (.iconst 1, 1) := by decide +kernel
theorem dL_law_182 : decode cL_law 182 = .ok (.iadd, 1) := by decide +kernel
theorem dL_law_183 : decode cL_law 183 = .ok (.iaload, 1) := by decide +kernel
theorem dL_law_184 : decode cL_law 184 = .ok (.aload_n 0, 1) := by decide +kernel
theorem dL_law_185 : decode cL_law 185 = .ok (.iload_n 3, 1) := by decide +kernel
theorem dL_law_186 : decode cL_law 186 = .ok (.iconst 2, 1) := by decide +kernel
theorem dL_law_187 : decode cL_law 187 = .ok (.iadd, 1) := by decide +kernel
theorem dL_law_188 : decode cL_law 188 = .ok (.iaload, 1) := by decide +kernel
theorem dL_law_189 : decode cL_law 189 = .ok (.invokevirtual 17, 3) := by decide +kernel
theorem dL_law_192 : decode cL_law 192 = .ok (.if_icmp .eq 729, 3) := by decide +kernel
theorem dL_law_195 : decode cL_law 195 = .ok (.iconst 0, 1) := by decide +kernel
theorem dL_law_196 : decode cL_law 196 = .ok (.ireturn, 1) := by decide +kernel
theorem dL_law_197 : decode cL_law 197 = .ok (.aload_n 1, 1) := by decide +kernel
theorem dL_law_198 : decode cL_law 198 = .ok (.aload_n 0, 1) := by decide +kernel
theorem dL_law_199 : decode cL_law 199 = .ok (.iload_n 3, 1) := by decide +kernel
theorem dL_law_200 : decode cL_law 200 = .ok (.iconst 1, 1) := by decide +kernel
theorem dL_law_201 : decode cL_law 201 = .ok (.iadd, 1) := by decide +kernel
theorem dL_law_202 : decode cL_law 202 = .ok (.iaload, 1) := by decide +kernel
theorem dL_law_203 : decode cL_law 203 = .ok (.aload_n 0, 1) := by decide +kernel
theorem dL_law_204 : decode cL_law 204 = .ok (.iload_n 3, 1) := by decide +kernel
theorem dL_law_205 : decode cL_law 205 = .ok (.iconst 2, 1) := by decide +kernel
theorem dL_law_206 : decode cL_law 206 = .ok (.iadd, 1) := by decide +kernel
theorem dL_law_207 : decode cL_law 207 = .ok (.iaload, 1) := by decide +kernel
theorem dL_law_208 : decode cL_law 208 = .ok (.aload_n 0, 1) := by decide +kernel
theorem dL_law_209 : decode cL_law 209 = .ok (.iload_n 3, 1) := by decide +kernel
theorem dL_law_210 : decode cL_law 210 = .ok (.iconst 3, 1) := by decide +kernel
theorem dL_law_211 : decode cL_law 211 = .ok (.iadd, 1) := by decide +kernel
theorem dL_law_212 : decode cL_law 212 = .ok (.iaload, 1) := by decide +kernel
theorem dL_law_213 : decode cL_law 213 = .ok (.invokevirtual 18, 3) := by decide +kernel
theorem dL_law_216 : decode cL_law 216 = .ok (.aload_n 2, 1) := by decide +kernel
theorem dL_law_217 : decode cL_law 217 = .ok (.aload_n 0, 1) := by decide +kernel
theorem dL_law_218 : decode cL_law 218 = .ok (.iload_n 3, 1) := by decide +kernel
theorem dL_law_219 : decode cL_law 219 = .ok (.iconst 1, 1) := by decide +kernel
theorem dL_law_220 : decode cL_law 220 = .ok (.iadd, 1) := by decide +kernel
theorem dL_law_221 : decode cL_law 221 = .ok (.iaload, 1) := by decide +kernel
theorem dL_law_222 : decode cL_law 222 = .ok (.aload_n 0, 1) := by decide +kernel
theorem dL_law_223 : decode cL_law 223 = .ok (.iload_n 3, 1) := by decide +kernel
theorem dL_law_224 : decode cL_law 224 = .ok (.iconst 2, 1) := by decide +kernel
theorem dL_law_225 : decode cL_law 225 = .ok (.iadd, 1) := by decide +kernel
theorem dL_law_226 : decode cL_law 226 = .ok (.iaload, 1) := by decide +kernel
theorem dL_law_227 : decode cL_law 227 = .ok (.aload_n 0, 1) := by decide +kernel
theorem dL_law_228 : decode cL_law 228 = .ok (.iload_n 3, 1) := by decide +kernel
theorem dL_law_229 : decode cL_law 229 = .ok (.iconst 3, 1) := by decide +kernel
theorem dL_law_230 : decode cL_law 230 = .ok (.iadd, 1) := by decide +kernel
theorem dL_law_231 : decode cL_law 231 = .ok (.iaload, 1) := by decide +kernel
theorem dL_law_232 : decode cL_law 232 = .ok (.invokevirtual 22, 3) := by decide +kernel
theorem dL_law_235 : decode cL_law 235 = .ok (.if_icmp .eq 686, 3) := by decide +kernel
theorem dL_law_238 : decode cL_law 238 = .ok (.iconst 0, 1) := by decide +kernel
theorem dL_law_239 : decode cL_law 239 = .ok (.ireturn, 1) := by decide +kernel
theorem dL_law_240 : decode cL_law 240 = .ok (.aload_n 1, 1) := by decide +kernel
theorem dL_law_241 : decode cL_law 241 = .ok (.aload_n 0, 1) := by decide +kernel
theorem dL_law_242 : decode cL_law 242 = .ok (.iload_n 3, 1) := by decide +kernel
theorem dL_law_243 : decode cL_law 243 = .ok (.iconst 1, 1) := by decide +kernel
theorem dL_law_244 : decode cL_law 244 = .ok (.iadd, 1) := by decide +kernel
theorem dL_law_245 : decode cL_law 245 = .ok (.iaload, 1) := by decide +kernel
theorem dL_law_246 : decode cL_law 246 = .ok (.aload_n 0, 1) := by decide +kernel
theorem dL_law_247 : decode cL_law 247 = .ok (.iload_n 3, 1) := by decide +kernel
theorem dL_law_248 : decode cL_law 248 = .ok (.iconst 2, 1) := by decide +kernel
theorem dL_law_249 : decode cL_law 249 = .ok (.iadd, 1) := by decide +kernel
theorem dL_law_250 : decode cL_law 250 = .ok (.iaload, 1) := by decide +kernel
theorem dL_law_251 : decode cL_law 251 = .ok (.aload_n 0, 1) := by decide +kernel
theorem dL_law_252 : decode cL_law 252 = .ok (.iload_n 3, 1) := by decide +kernel
theorem dL_law_253 : decode cL_law 253 = .ok (.iconst 3, 1) := by decide +kernel
theorem dL_law_254 : decode cL_law 254 = .ok (.iadd, 1) := by decide +kernel
theorem dL_law_255 : decode cL_law 255 = .ok (.iaload, 1) := by decide +kernel
theorem dL_law_256 : decode cL_law 256 = .ok (.invokevirtual 23, 3) := by decide +kernel
theorem dL_law_259 : decode cL_law 259 = .ok (.aload_n 2, 1) := by decide +kernel
theorem dL_law_260 : decode cL_law 260 = .ok (.aload_n 0, 1) := by decide +kernel
theorem dL_law_261 : decode cL_law 261 = .ok (.iload_n 3, 1) := by decide +kernel
theorem dL_law_262 : decode cL_law 262 = .ok (.iconst 1, 1) := by decide +kernel
theorem dL_law_263 : decode cL_law 263 = .ok (.iadd, 1) := by decide +kernel
theorem dL_law_264 : decode cL_law 264 = .ok (.iaload, 1) := by decide +kernel
theorem dL_law_265 : decode cL_law 265 = .ok (.aload_n 0, 1) := by decide +kernel
theorem dL_law_266 : decode cL_law 266 = .ok (.iload_n 3, 1) := by decide +kernel
theorem dL_law_267 : decode cL_law 267 = .ok (.iconst 2, 1) := by decide +kernel
theorem dL_law_268 : decode cL_law 268 = .ok (.iadd, 1) := by decide +kernel
theorem dL_law_269 : decode cL_law 269 = .ok (.iaload, 1) := by decide +kernel
theorem dL_law_270 : decode cL_law 270 = .ok (.aload_n 0, 1) := by decide +kernel
theorem dL_law_271 : decode cL_law 271 = .ok (.iload_n 3, 1) := by decide +kernel
theorem dL_law_272 : decode cL_law 272 = .ok (.iconst 3, 1) := by decide +kernel
theorem dL_law_273 : decode cL_law 273 = .ok (.iadd, 1) := by decide +kernel
theorem dL_law_274 : decode cL_law 274 = .ok (.iaload, 1) := by decide +kernel
theorem dL_law_275 : decode cL_law 275 = .ok (.invokevirtual 26, 3) := by decide +kernel
theorem dL_law_278 : decode cL_law 278 = .ok (.if_icmp .eq 643, 3) := by decide +kernel
theorem dL_law_281 : decode cL_law 281 = .ok (.iconst 0, 1) := by decide +kernel
theorem dL_law_282 : decode cL_law 282 = .ok (.ireturn, 1) := by decide +kernel
theorem dL_law_283 : decode cL_law 283 = .ok (.aload_n 1, 1) := by decide +kernel
theorem dL_law_284 : decode cL_law 284 = .ok (.aload_n 0, 1) := by decide +kernel
theorem dL_law_285 : decode cL_law 285 = .ok (.iload_n 3, 1) := by decide +kernel
theorem dL_law_286 : decode cL_law 286 = .ok (.iconst 1, 1) := by decide +kernel
theorem dL_law_287 : decode cL_law 287 = .ok (.iadd, 1) := by decide +kernel
theorem dL_law_288 : decode cL_law 288 = .ok (.iaload, 1) := by decide +kernel
theorem dL_law_289 : decode cL_law 289 = .ok (.aload_n 0, 1) := by decide +kernel
theorem dL_law_290 : decode cL_law 290 = .ok (.iload_n 3, 1) := by decide +kernel
theorem dL_law_291 : decode cL_law 291 = .ok (.iconst 2, 1) := by decide +kernel
theorem dL_law_292 : decode cL_law 292 = .ok (.iadd, 1) := by decide +kernel
theorem dL_law_293 : decode cL_law 293 = .ok (.iaload, 1) := by decide +kernel
theorem dL_law_294 : decode cL_law 294 = .ok (.invokevirtual 27, 3) := by decide +kernel
theorem dL_law_297 : decode cL_law 297 = .ok (.aload_n 2, 1) := by decide +kernel
theorem dL_law_298 : decode cL_law 298 = .ok (.aload_n 0, 1) := by decide +kernel
theorem dL_law_299 : decode cL_law 299 = .ok (.iload_n 3, 1) := by decide +kernel
theorem dL_law_300 : decode cL_law 300 = .ok (.iconst 1, 1) := by decide +kernel
theorem dL_law_301 : decode cL_law 301 = .ok (.iadd, 1) := by decide +kernel
theorem dL_law_302 : decode cL_law 302 = .ok (.iaload, 1) := by decide +kernel
theorem dL_law_303 : decode cL_law 303 = .ok (.aload_n 0, 1) := by decide +kernel
theorem dL_law_304 : decode cL_law 304 = .ok (.iload_n 3, 1) := by decide +kernel
theorem dL_law_305 : decode cL_law 305 = .ok (.iconst 2, 1) := by decide +kernel
theorem dL_law_306 : decode cL_law 306 = .ok (.iadd, 1) := by decide +kernel
theorem dL_law_307 : decode cL_law 307 = .ok (.iaload, 1) := by decide +kernel
theorem dL_law_308 : decode cL_law 308 = .ok (.invokevirtual 30, 3) := by decide +kernel
theorem dL_law_311 : decode cL_law 311 = .ok (.if_icmp .eq 610, 3) := by decide +kernel
theorem dL_law_314 : decode cL_law 314 = .ok (.iconst 0, 1) := by decide +kernel
theorem dL_law_315 : decode cL_law 315 = .ok (.ireturn, 1) := by decide +kernel
theorem dL_law_316 : decode cL_law 316 = .ok (.aload_n 1, 1) := by decide +kernel
theorem dL_law_317 : decode cL_law 317 = .ok (.aload_n 0, 1) := by decide +kernel
theorem dL_law_318 : decode cL_law 318 = .ok (.iload_n 3, 1) := by decide +kernel
theorem dL_law_319 : decode cL_law 319 = .ok (.iconst 1, 1) := by decide +kernel
theorem dL_law_320 : decode cL_law 320 = .ok (.iadd, 1) := by decide +kernel
theorem dL_law_321 : decode cL_law 321 = .ok (.iaload, 1) := by decide +kernel
theorem dL_law_322 : decode cL_law 322 = .ok (.aload_n 0, 1) := by decide +kernel
theorem dL_law_323 : decode cL_law 323 = .ok (.iload_n 3, 1) := by decide +kernel
theorem dL_law_324 : decode cL_law 324 = .ok (.iconst 2, 1) := by decide +kernel
theorem dL_law_325 : decode cL_law 325 = .ok (.iadd, 1) := by decide +kernel
theorem dL_law_326 : decode cL_law 326 = .ok (.iaload, 1) := by decide +kernel
theorem dL_law_327 : decode cL_law 327 = .ok (.invokevirtual 31, 3) := by decide +kernel
theorem dL_law_330 : decode cL_law 330 = .ok (.aload_n 2, 1) := by decide +kernel
theorem dL_law_331 : decode cL_law 331 = .ok (.aload_n 0, 1) := by decide +kernel
theorem dL_law_332 : decode cL_law 332 = .ok (.iload_n 3, 1) := by decide +kernel
theorem dL_law_333 : decode cL_law 333 = .ok (.iconst 1, 1) := by decide +kernel
theorem dL_law_334 : decode cL_law 334 = .ok (.iadd, 1) := by decide +kernel
theorem dL_law_335 : decode cL_law 335 = .ok (.iaload, 1) := by decide +kernel
theorem dL_law_336 : decode cL_law 336 = .ok (.aload_n 0, 1) := by decide +kernel
theorem dL_law_337 : decode cL_law 337 = .ok (.iload_n 3, 1) := by decide +kernel
theorem dL_law_338 : decode cL_law 338 = .ok (.iconst 2, 1) := by decide +kernel
theorem dL_law_339 : decode cL_law 339 = .ok (.iadd, 1) := by decide +kernel
theorem dL_law_340 : decode cL_law 340 = .ok (.iaload, 1) := by decide +kernel
theorem dL_law_341 : decode cL_law 341 = .ok (.invokevirtual 34, 3) := by decide +kernel
theorem dL_law_344 : decode cL_law 344 = .ok (.if_icmp .eq 577, 3) := by decide +kernel
theorem dL_law_347 : decode cL_law 347 = .ok (.iconst 0, 1) := by decide +kernel
theorem dL_law_348 : decode cL_law 348 = .ok (.ireturn, 1) := by decide +kernel
theorem dL_law_349 : decode cL_law 349 = .ok (.aload_n 1, 1) := by decide +kernel
theorem dL_law_350 : decode cL_law 350 = .ok (.aload_n 0, 1) := by decide +kernel
theorem dL_law_351 : decode cL_law 351 = .ok (.iload_n 3, 1) := by decide +kernel
theorem dL_law_352 : decode cL_law 352 = .ok (.iconst 1, 1) := by decide +kernel
theorem dL_law_353 : decode cL_law 353 = .ok (.iadd, 1) := by decide +kernel
theorem dL_law_354 : decode cL_law 354 = .ok (.iaload, 1) := by decide +kernel
theorem dL_law_355 : decode cL_law 355 = .ok (.aload_n 0, 1) := by decide +kernel
theorem dL_law_356 : decode cL_law 356 = .ok (.iload_n 3, 1) := by decide +kernel
theorem dL_law_357 : decode cL_law 357 = .ok (.iconst 2, 1) := by decide +kernel
theorem dL_law_358 : decode cL_law 358 = .ok (.iadd, 1) := by decide +kernel
theorem dL_law_359 : decode cL_law 359 = .ok (.iaload, 1) := by decide +kernel
theorem dL_law_360 : decode cL_law 360 = .ok (.invokevirtual 35, 3) := by decide +kernel
theorem dL_law_363 : decode cL_law 363 = .ok (.aload_n 2, 1) := by decide +kernel
theorem dL_law_364 : decode cL_law 364 = .ok (.aload_n 0, 1) := by decide +kernel
theorem dL_law_365 : decode cL_law 365 = .ok (.iload_n 3, 1) := by decide +kernel
theorem dL_law_366 : decode cL_law 366 = .ok (.iconst 1, 1) := by decide +kernel
theorem dL_law_367 : decode cL_law 367 = .ok (.iadd, 1) := by decide +kernel
theorem dL_law_368 : decode cL_law 368 = .ok (.iaload, 1) := by decide +kernel
theorem dL_law_369 : decode cL_law 369 = .ok (.aload_n 0, 1) := by decide +kernel
theorem dL_law_370 : decode cL_law 370 = .ok (.iload_n 3, 1) := by decide +kernel
theorem dL_law_371 : decode cL_law 371 = .ok (.iconst 2, 1) := by decide +kernel
theorem dL_law_372 : decode cL_law 372 = .ok (.iadd, 1) := by decide +kernel
theorem dL_law_373 : decode cL_law 373 = .ok (.iaload, 1) := by decide +kernel
theorem dL_law_374 : decode cL_law 374 = .ok (.invokevirtual 38, 3) := by decide +kernel
theorem dL_law_377 : decode cL_law 377 = .ok (.if_icmp .eq 544, 3) := by decide +kernel
theorem dL_law_380 : decode cL_law 380 = .ok (.iconst 0, 1) := by decide +kernel
theorem dL_law_381 : decode cL_law 381 = .ok (.ireturn, 1) := by decide +kernel
theorem dL_law_382 : decode cL_law 382 = .ok (.aload_n 1, 1) := by decide +kernel
theorem dL_law_383 : decode cL_law 383 = .ok (.aload_n 0, 1) := by decide +kernel
theorem dL_law_384 : decode cL_law 384 = .ok (.iload_n 3, 1) := by decide +kernel
theorem dL_law_385 : decode cL_law 385 = .ok (.iconst 1, 1) := by decide +kernel
theorem dL_law_386 : decode cL_law 386 = .ok (.iadd, 1) := by decide +kernel
theorem dL_law_387 : decode cL_law 387 = .ok (.iaload, 1) := by decide +kernel
theorem dL_law_388 : decode cL_law 388 = .ok (.invokevirtual 39, 3) := by decide +kernel
theorem dL_law_391 : decode cL_law 391 = .ok (.aload_n 2, 1) := by decide +kernel
theorem dL_law_392 : decode cL_law 392 = .ok (.aload_n 0, 1) := by decide +kernel
theorem dL_law_393 : decode cL_law 393 = .ok (.iload_n 3, 1) := by decide +kernel
theorem dL_law_394 : decode cL_law 394 = .ok (.iconst 1, 1) := by decide +kernel
theorem dL_law_395 : decode cL_law 395 = .ok (.iadd, 1) := by decide +kernel
theorem dL_law_396 : decode cL_law 396 = .ok (.iaload, 1) := by decide +kernel
theorem dL_law_397 : decode cL_law 397 = .ok (.invokevirtual 43, 3) := by decide +kernel
theorem dL_law_400 : decode cL_law 400 = .ok (.if_icmp .eq 521, 3) := by decide +kernel
theorem dL_law_403 : decode cL_law 403 = .ok (.iconst 0, 1) := by decide +kernel
theorem dL_law_404 : decode cL_law 404 = .ok (.ireturn, 1) := by decide +kernel
theorem dL_law_405 : decode cL_law 405 = .ok (.aload_n 1, 1) := by decide +kernel
theorem dL_law_406 : decode cL_law 406 = .ok (.aload_n 0, 1) := by decide +kernel
theorem dL_law_407 : decode cL_law 407 = .ok (.iload_n 3, 1) := by decide +kernel
theorem dL_law_408 : decode cL_law 408 = .ok (.iconst 1, 1) := by decide +kernel
theorem dL_law_409 : decode cL_law 409 = .ok (.iadd, 1) := by decide +kernel
theorem dL_law_410 : decode cL_law 410 = .ok (.iaload, 1) := by decide +kernel
theorem dL_law_411 : decode cL_law 411 = .ok (.aload_n 0, 1) := by decide +kernel
theorem dL_law_412 : decode cL_law 412 = .ok (.iload_n 3, 1) := by decide +kernel
theorem dL_law_413 : decode cL_law 413 = .ok (.iconst 2, 1) := by decide +kernel
theorem dL_law_414 : decode cL_law 414 = .ok (.iadd, 1) := by decide +kernel
theorem dL_law_415 : decode cL_law 415 = .ok (.iaload, 1) := by decide +kernel
theorem dL_law_416 : decode cL_law 416 = .ok (.invokevirtual 44, 3) := by decide +kernel
theorem dL_law_419 : decode cL_law 419 = .ok (.aload_n 2, 1) := by decide +kernel
theorem dL_law_420 : decode cL_law 420 = .ok (.aload_n 0, 1) := by decide +kernel
theorem dL_law_421 : decode cL_law 421 = .ok (.iload_n 3, 1) := by decide +kernel
theorem dL_law_422 : decode cL_law 422 = .ok (.iconst 1, 1) := by decide +kernel
theorem dL_law_423 : decode cL_law 423 = .ok (.iadd, 1) := by decide +kernel
theorem dL_law_424 : decode cL_law 424 = .ok (.iaload, 1) := by decide +kernel
theorem dL_law_425 : decode cL_law 425 = .ok (.aload_n 0, 1) := by decide +kernel
theorem dL_law_426 : decode cL_law 426 = .ok (.iload_n 3, 1) := by decide +kernel
theorem dL_law_427 : decode cL_law 427 = .ok (.iconst 2, 1) := by decide +kernel
theorem dL_law_428 : decode cL_law 428 = .ok (.iadd, 1) := by decide +kernel
theorem dL_law_429 : decode cL_law 429 = .ok (.iaload, 1) := by decide +kernel
theorem dL_law_430 : decode cL_law 430 = .ok (.invokevirtual 47, 3) := by decide +kernel
theorem dL_law_433 : decode cL_law 433 = .ok (.if_icmp .eq 488, 3) := by decide +kernel
theorem dL_law_436 : decode cL_law 436 = .ok (.iconst 0, 1) := by decide +kernel
theorem dL_law_437 : decode cL_law 437 = .ok (.ireturn, 1) := by decide +kernel
theorem dL_law_438 : decode cL_law 438 = .ok (.aload_n 1, 1) := by decide +kernel
theorem dL_law_439 : decode cL_law 439 = .ok (.invokevirtual 48, 3) := by decide +kernel
theorem dL_law_442 : decode cL_law 442 = .ok (.aload_n 2, 1) := by decide +kernel
theorem dL_law_443 : decode cL_law 443 = .ok (.invokevirtual 52, 3) := by decide +kernel
theorem dL_law_446 : decode cL_law 446 = .ok (.if_icmp .eq 475, 3) := by decide +kernel
theorem dL_law_449 : decode cL_law 449 = .ok (.iconst 0, 1) := by decide +kernel
theorem dL_law_450 : decode cL_law 450 = .ok (.ireturn, 1) := by decide +kernel
theorem dL_law_451 : decode cL_law 451 = .ok (.aload_n 1, 1) := by decide +kernel
theorem dL_law_452 : decode cL_law 452 = .ok (.invokevirtual 53, 3) := by decide +kernel
theorem dL_law_455 : decode cL_law 455 = .ok (.aload_n 2, 1) := by decide +kernel
theorem dL_law_456 : decode cL_law 456 = .ok (.invokevirtual 56, 3) := by decide +kernel
theorem dL_law_459 : decode cL_law 459 = .ok (.if_icmp .eq 462, 3) := by decide +kernel
theorem dL_law_462 : decode cL_law 462 = .ok (.iconst 0, 1) := by decide +kernel
theorem dL_law_463 : decode cL_law 463 = .ok (.ireturn, 1) := by decide +kernel
theorem dL_law_464 : decode cL_law 464 = .ok (.aload_n 1, 1) := by decide +kernel
theorem dL_law_465 : decode cL_law 465 = .ok (.aload_n 0, 1) := by decide +kernel
theorem dL_law_466 : decode cL_law 466 = .ok (.iload_n 3, 1) := by decide +kernel
theorem dL_law_467 : decode cL_law 467 = .ok (.iconst 1, 1) := by decide +kernel
theorem dL_law_468 : decode cL_law 468 = .ok (.iadd, 1) := by decide +kernel
theorem dL_law_469 : decode cL_law 469 = .ok (.iaload, 1) := by decide +kernel
theorem dL_law_470 : decode cL_law 470 = .ok (.invokevirtual 57, 3) := by decide +kernel
theorem dL_law_473 : decode cL_law 473 = .ok (.aload_n 2, 1) := by decide +kernel
theorem dL_law_474 : decode cL_law 474 = .ok (.aload_n 0, 1) := by decide +kernel
theorem dL_law_475 : decode cL_law 475 = .ok (.iload_n 3, 1) := by decide +kernel
theorem dL_law_476 : decode cL_law 476 = .ok (.iconst 1, 1) := by decide +kernel
theorem dL_law_477 : decode cL_law 477 = .ok (.iadd, 1) := by decide +kernel
theorem dL_law_478 : decode cL_law 478 = .ok (.iaload, 1) := by decide +kernel
theorem dL_law_479 : decode cL_law 479 = .ok (.invokevirtual 60, 3) := by decide +kernel
theorem dL_law_482 : decode cL_law 482 = .ok (.if_icmp .eq 439, 3) := by decide +kernel
theorem dL_law_485 : decode cL_law 485 = .ok (.iconst 0, 1) := by decide +kernel
theorem dL_law_486 : decode cL_law 486 = .ok (.ireturn, 1) := by decide +kernel
theorem dL_law_487 : decode cL_law 487 = .ok (.aload_n 1, 1) := by decide +kernel
theorem dL_law_488 : decode cL_law 488 = .ok (.aload_n 0, 1) := by decide +kernel
theorem dL_law_489 : decode cL_law 489 = .ok (.iload_n 3, 1) := by decide +kernel
theorem dL_law_490 : decode cL_law 490 = .ok (.iconst 1, 1) := by decide +kernel
theorem dL_law_491 : decode cL_law 491 = .ok (.iadd, 1) := by decide +kernel
theorem dL_law_492 : decode cL_law 492 = .ok (.iaload, 1) := by decide +kernel
theorem dL_law_493 : decode cL_law 493 = .ok (.invokevirtual 61, 3) := by decide +kernel
theorem dL_law_496 : decode cL_law 496 = .ok (.aload_n 2, 1) := by decide +kernel
theorem dL_law_497 : decode cL_law 497 = .ok (.aload_n 0, 1) := by decide +kernel
theorem dL_law_498 : decode cL_law 498 = .ok (.iload_n 3, 1) := by decide +kernel
theorem dL_law_499 : decode cL_law 499 = .ok (.iconst 1, 1) := by decide +kernel
theorem dL_law_500 : decode cL_law 500 = .ok (.iadd, 1) := by decide +kernel
theorem dL_law_501 : decode cL_law 501 = .ok (.iaload, 1) := by decide +kernel
theorem dL_law_502 : decode cL_law 502 = .ok (.invokevirtual 64, 3) := by decide +kernel
theorem dL_law_505 : decode cL_law 505 = .ok (.if_icmp .eq 416, 3) := by decide +kernel
theorem dL_law_508 : decode cL_law 508 = .ok (.iconst 0, 1) := by decide +kernel
theorem dL_law_509 : decode cL_law 509 = .ok (.ireturn, 1) := by decide +kernel
theorem dL_law_510 : decode cL_law 510 = .ok (.aload_n 1, 1) := by decide +kernel
theorem dL_law_511 : decode cL_law 511 = .ok (.invokevirtual 65, 3) := by decide +kernel
theorem dL_law_514 : decode cL_law 514 = .ok (.aload_n 2, 1) := by decide +kernel
theorem dL_law_515 : decode cL_law 515 = .ok (.invokevirtual 68, 3) := by decide +kernel
theorem dL_law_518 : decode cL_law 518 = .ok (.if_icmp .eq 403, 3) := by decide +kernel
theorem dL_law_521 : decode cL_law 521 = .ok (.iconst 0, 1) := by decide +kernel
theorem dL_law_522 : decode cL_law 522 = .ok (.ireturn, 1) := by decide +kernel
theorem dL_law_523 : decode cL_law 523 = .ok (.aload_n 1, 1) := by decide +kernel
theorem dL_law_524 : decode cL_law 524 = .ok (.aload_n 0, 1) := by decide +kernel
theorem dL_law_525 : decode cL_law 525 = .ok (.iload_n 3, 1) := by decide +kernel
theorem dL_law_526 : decode cL_law 526 = .ok (.iconst 1, 1) := by decide +kernel
theorem dL_law_527 : decode cL_law 527 = .ok (.iadd, 1) := by decide +kernel
theorem dL_law_528 : decode cL_law 528 = .ok (.iaload, 1) := by decide +kernel
theorem dL_law_529 : decode cL_law 529 = .ok (.aload_n 0, 1) := by decide +kernel
theorem dL_law_530 : decode cL_law 530 = .ok (.iload_n 3, 1) := by decide +kernel
theorem dL_law_531 : decode cL_law 531 = .ok (.iconst 2, 1) := by decide +kernel
theorem dL_law_532 : decode cL_law 532 = .ok (.iadd, 1) := by decide +kernel
theorem dL_law_533 : decode cL_law 533 = .ok (.iaload, 1) := by decide +kernel
theorem dL_law_534 : decode cL_law 534 = .ok (.invokevirtual 69, 3) := by decide +kernel
theorem dL_law_537 : decode cL_law 537 = .ok (.aload_n 2, 1) := by decide +kernel
theorem dL_law_538 : decode cL_law 538 = .ok (.aload_n 0, 1) := by decide +kernel
theorem dL_law_539 : decode cL_law 539 = .ok (.iload_n 3, 1) := by decide +kernel
theorem dL_law_540 : decode cL_law 540 = .ok (.iconst 1, 1) := by decide +kernel
theorem dL_law_541 : decode cL_law 541 = .ok (.iadd, 1) := by decide +kernel
theorem dL_law_542 : decode cL_law 542 = .ok (.iaload, 1) := by decide +kernel
theorem dL_law_543 : decode cL_law 543 = .ok (.aload_n 0, 1) := by decide +kernel
theorem dL_law_544 : decode cL_law 544 = .ok (.iload_n 3, 1) := by decide +kernel
theorem dL_law_545 : decode cL_law 545 = .ok (.iconst 2, 1) := by decide +kernel
theorem dL_law_546 : decode cL_law 546 = .ok (.iadd, 1) := by decide +kernel
theorem dL_law_547 : decode cL_law 547 = .ok (.iaload, 1) := by decide +kernel
theorem dL_law_548 : decode cL_law 548 = .ok (.invokevirtual 72, 3) := by decide +kernel
theorem dL_law_551 : decode cL_law 551 = .ok (.if_icmp .eq 370, 3) := by decide +kernel
theorem dL_law_554 : decode cL_law 554 = .ok (.iconst 0, 1) := by decide +kernel
theorem dL_law_555 : decode cL_law 555 = .ok (.ireturn, 1) := by decide +kernel
theorem dL_law_556 : decode cL_law 556 = .ok (.aload_n 1, 1) := by decide +kernel
theorem dL_law_557 : decode cL_law 557 = .ok (.aload_n 0, 1) := by decide +kernel
theorem dL_law_558 : decode cL_law 558 = .ok (.iload_n 3, 1) := by decide +kernel
theorem dL_law_559 : decode cL_law 559 = .ok (.iconst 1, 1) := by decide +kernel
theorem dL_law_560 : decode cL_law 560 = .ok (.iadd, 1) := by decide +kernel
theorem dL_law_561 : decode cL_law 561 = .ok (.iaload, 1) := by decide +kernel
theorem dL_law_562 : decode cL_law 562 = .ok (.aload_n 0, 1) := by decide +kernel
theorem dL_law_563 : decode cL_law 563 = .ok (.iload_n 3, 1) := by decide +kernel
theorem dL_law_564 : decode cL_law 564 = .ok (.iconst 2, 1) := by decide +kernel
theorem dL_law_565 : decode cL_law 565 = .ok (.iadd, 1) := by decide +kernel
theorem dL_law_566 : decode cL_law 566 = .ok (.iaload, 1) := by decide +kernel
theorem dL_law_567 : decode cL_law 567 = .ok (.invokevirtual 73, 3) := by decide +kernel
theorem dL_law_570 : decode cL_law 570 = .ok (.aload_n 2, 1) := by decide +kernel
theorem dL_law_571 : decode cL_law 571 = .ok (.aload_n 0, 1) := by decide +kernel
theorem dL_law_572 : decode cL_law 572 = .ok (.iload_n 3, 1) := by decide +kernel
theorem dL_law_573 : decode cL_law 573 = .ok (.iconst 1, 1) := by decide +kernel
theorem dL_law_574 : decode cL_law 574 = .ok (.iadd, 1) := by decide +kernel
theorem dL_law_575 : decode cL_law 575 = .ok (.iaload, 1) := by decide +kernel
theorem dL_law_576 : decode cL_law 576 = .ok (.aload_n 0, 1) := by decide +kernel
theorem dL_law_577 : decode cL_law 577 = .ok (.iload_n 3, 1) := by decide +kernel
theorem dL_law_578 : decode cL_law 578 = .ok (.iconst 2, 1) := by decide +kernel
theorem dL_law_579 : decode cL_law 579 = .ok (.iadd, 1) := by decide +kernel
theorem dL_law_580 : decode cL_law 580 = .ok (.iaload, 1) := by decide +kernel
theorem dL_law_581 : decode cL_law 581 = .ok (.invokevirtual 76, 3) := by decide +kernel
theorem dL_law_584 : decode cL_law 584 = .ok (.if_icmp .eq 337, 3) := by decide +kernel
theorem dL_law_587 : decode cL_law 587 = .ok (.iconst 0, 1) := by decide +kernel
theorem dL_law_588 : decode cL_law 588 = .ok (.ireturn, 1) := by decide +kernel
theorem dL_law_589 : decode cL_law 589 = .ok (.aload_n 1, 1) := by decide +kernel
theorem dL_law_590 : decode cL_law 590 = .ok (.aload_n 0, 1) := by decide +kernel
theorem dL_law_591 : decode cL_law 591 = .ok (.iload_n 3, 1) := by decide +kernel
theorem dL_law_592 : decode cL_law 592 = .ok (.iconst 1, 1) := by decide +kernel
theorem dL_law_593 : decode cL_law 593 = .ok (.iadd, 1) := by decide +kernel
theorem dL_law_594 : decode cL_law 594 = .ok (.iaload, 1) := by decide +kernel
theorem dL_law_595 : decode cL_law 595 = .ok (.aload_n 0, 1) := by decide +kernel
theorem dL_law_596 : decode cL_law 596 = .ok (.iload_n 3, 1) := by decide +kernel
theorem dL_law_597 : decode cL_law 597 = .ok (.iconst 2, 1) := by decide +kernel
theorem dL_law_598 : decode cL_law 598 = .ok (.iadd, 1) := by decide +kernel
theorem dL_law_599 : decode cL_law 599 = .ok (.iaload, 1) := by decide +kernel
theorem dL_law_600 : decode cL_law 600 = .ok (.invokevirtual 77, 3) := by decide +kernel
theorem dL_law_603 : decode cL_law 603 = .ok (.aload_n 2, 1) := by decide +kernel
theorem dL_law_604 : decode cL_law 604 = .ok (.aload_n 0, 1) := by decide +kernel
theorem dL_law_605 : decode cL_law 605 = .ok (.iload_n 3, 1) := by decide +kernel
theorem dL_law_606 : decode cL_law 606 = .ok (.iconst 1, 1) := by decide +kernel
theorem dL_law_607 : decode cL_law 607 = .ok (.iadd, 1) := by decide +kernel
theorem dL_law_608 : decode cL_law 608 = .ok (.iaload, 1) := by decide +kernel
theorem dL_law_609 : decode cL_law 609 = .ok (.aload_n 0, 1) := by decide +kernel
theorem dL_law_610 : decode cL_law 610 = .ok (.iload_n 3, 1) := by decide +kernel
theorem dL_law_611 : decode cL_law 611 = .ok (.iconst 2, 1) := by decide +kernel
theorem dL_law_612 : decode cL_law 612 = .ok (.iadd, 1) := by decide +kernel
theorem dL_law_613 : decode cL_law 613 = .ok (.iaload, 1) := by decide +kernel
theorem dL_law_614 : decode cL_law 614 = .ok (.invokevirtual 80, 3) := by decide +kernel
theorem dL_law_617 : decode cL_law 617 = .ok (.if_icmp .eq 304, 3) := by decide +kernel
theorem dL_law_620 : decode cL_law 620 = .ok (.iconst 0, 1) := by decide +kernel
theorem dL_law_621 : decode cL_law 621 = .ok (.ireturn, 1) := by decide +kernel
theorem dL_law_622 : decode cL_law 622 = .ok (.aload_n 1, 1) := by decide +kernel
theorem dL_law_623 : decode cL_law 623 = .ok (.aload_n 0, 1) := by decide +kernel
theorem dL_law_624 : decode cL_law 624 = .ok (.iload_n 3, 1) := by decide +kernel
theorem dL_law_625 : decode cL_law 625 = .ok (.iconst 1, 1) := by decide +kernel
theorem dL_law_626 : decode cL_law 626 = .ok (.iadd, 1) := by decide +kernel
theorem dL_law_627 : decode cL_law 627 = .ok (.iaload, 1) := by decide +kernel
theorem dL_law_628 : decode cL_law 628 = .ok (.aload_n 0, 1) := by decide +kernel
theorem dL_law_629 : decode cL_law 629 = .ok (.iload_n 3, 1) := by decide +kernel
theorem dL_law_630 : decode cL_law 630 = .ok (.iconst 2, 1) := by decide +kernel
theorem dL_law_631 : decode cL_law 631 = .ok (.iadd, 1) := by decide +kernel
theorem dL_law_632 : decode cL_law 632 = .ok (.iaload, 1) := by decide +kernel
theorem dL_law_633 : decode cL_law 633 = .ok (.invokevirtual 81, 3) := by decide +kernel
theorem dL_law_636 : decode cL_law 636 = .ok (.aload_n 2, 1) := by decide +kernel
theorem dL_law_637 : decode cL_law 637 = .ok (.aload_n 0, 1) := by decide +kernel
theorem dL_law_638 : decode cL_law 638 = .ok (.iload_n 3, 1) := by decide +kernel
theorem dL_law_639 : decode cL_law 639 = .ok (.iconst 1, 1) := by decide +kernel
theorem dL_law_640 : decode cL_law 640 = .ok (.iadd, 1) := by decide +kernel
theorem dL_law_641 : decode cL_law 641 = .ok (.iaload, 1) := by decide +kernel
theorem dL_law_642 : decode cL_law 642 = .ok (.aload_n 0, 1) := by decide +kernel
theorem dL_law_643 : decode cL_law 643 = .ok (.iload_n 3, 1) := by decide +kernel
theorem dL_law_644 : decode cL_law 644 = .ok (.iconst 2, 1) := by decide +kernel
theorem dL_law_645 : decode cL_law 645 = .ok (.iadd, 1) := by decide +kernel
theorem dL_law_646 : decode cL_law 646 = .ok (.iaload, 1) := by decide +kernel
theorem dL_law_647 : decode cL_law 647 = .ok (.invokevirtual 84, 3) := by decide +kernel
theorem dL_law_650 : decode cL_law 650 = .ok (.if_icmp .eq 271, 3) := by decide +kernel
theorem dL_law_653 : decode cL_law 653 = .ok (.iconst 0, 1) := by decide +kernel
theorem dL_law_654 : decode cL_law 654 = .ok (.ireturn, 1) := by decide +kernel
theorem dL_law_655 : decode cL_law 655 = .ok (.aload_n 1, 1) := by decide +kernel
theorem dL_law_656 : decode cL_law 656 = .ok (.aload_n 0, 1) := by decide +kernel
theorem dL_law_657 : decode cL_law 657 = .ok (.iload_n 3, 1) := by decide +kernel
theorem dL_law_658 : decode cL_law 658 = .ok (.iconst 1, 1) := by decide +kernel
theorem dL_law_659 : decode cL_law 659 = .ok (.iadd, 1) := by decide +kernel
theorem dL_law_660 : decode cL_law 660 = .ok (.iaload, 1) := by decide +kernel
theorem dL_law_661 : decode cL_law 661 = .ok (.aload_n 0, 1) := by decide +kernel
theorem dL_law_662 : decode cL_law 662 = .ok (.iload_n 3, 1) := by decide +kernel
theorem dL_law_663 : decode cL_law 663 = .ok (.iconst 2, 1) := by decide +kernel
theorem dL_law_664 : decode cL_law 664 = .ok (.iadd, 1) := by decide +kernel
theorem dL_law_665 : decode cL_law 665 = .ok (.iaload, 1) := by decide +kernel
theorem dL_law_666 : decode cL_law 666 = .ok (.aload_n 0, 1) := by decide +kernel
theorem dL_law_667 : decode cL_law 667 = .ok (.iload_n 3, 1) := by decide +kernel
theorem dL_law_668 : decode cL_law 668 = .ok (.iconst 3, 1) := by decide +kernel
theorem dL_law_669 : decode cL_law 669 = .ok (.iadd, 1) := by decide +kernel
theorem dL_law_670 : decode cL_law 670 = .ok (.iaload, 1) := by decide +kernel
theorem dL_law_671 : decode cL_law 671 = .ok (.invokevirtual 85, 3) := by decide +kernel
theorem dL_law_674 : decode cL_law 674 = .ok (.aload_n 2, 1) := by decide +kernel
theorem dL_law_675 : decode cL_law 675 = .ok (.aload_n 0, 1) := by decide +kernel
theorem dL_law_676 : decode cL_law 676 = .ok (.iload_n 3, 1) := by decide +kernel
theorem dL_law_677 : decode cL_law 677 = .ok (.iconst 1, 1) := by decide +kernel
theorem dL_law_678 : decode cL_law 678 = .ok (.iadd, 1) := by decide +kernel
theorem dL_law_679 : decode cL_law 679 = .ok (.iaload, 1) := by decide +kernel
theorem dL_law_680 : decode cL_law 680 = .ok (.aload_n 0, 1) := by decide +kernel
theorem dL_law_681 : decode cL_law 681 = .ok (.iload_n 3, 1) := by decide +kernel
theorem dL_law_682 : decode cL_law 682 = .ok (.iconst 2, 1) := by decide +kernel
theorem dL_law_683 : decode cL_law 683 = .ok (.iadd, 1) := by decide +kernel
theorem dL_law_684 : decode cL_law 684 = .ok (.iaload, 1) := by decide +kernel
theorem dL_law_685 : decode cL_law 685 = .ok (.aload_n 0, 1) := by decide +kernel
theorem dL_law_686 : decode cL_law 686 = .ok (.iload_n 3, 1) := by decide +kernel
theorem dL_law_687 : decode cL_law 687 = .ok (.iconst 3, 1) := by decide +kernel
theorem dL_law_688 : decode cL_law 688 = .ok (.iadd, 1) := by decide +kernel
theorem dL_law_689 : decode cL_law 689 = .ok (.iaload, 1) := by decide +kernel
theorem dL_law_690 : decode cL_law 690 = .ok (.invokevirtual 88, 3) := by decide +kernel
theorem dL_law_693 : decode cL_law 693 = .ok (.if_icmp .eq 228, 3) := by decide +kernel
theorem dL_law_696 : decode cL_law 696 = .ok (.iconst 0, 1) := by decide +kernel
theorem dL_law_697 : decode cL_law 697 = .ok (.ireturn, 1) := by decide +kernel
theorem dL_law_698 : decode cL_law 698 = .ok (.aload_n 1, 1) := by decide +kernel
theorem dL_law_699 : decode cL_law 699 = .ok (.aload_n 0, 1) := by decide +kernel
theorem dL_law_700 : decode cL_law 700 = .ok (.iload_n 3, 1) := by decide +kernel
theorem dL_law_701 : decode cL_law 701 = .ok (.iconst 1, 1) := by decide +kernel
theorem dL_law_702 : decode cL_law 702 = .ok (.iadd, 1) := by decide +kernel
theorem dL_law_703 : decode cL_law 703 = .ok (.iaload, 1) := by decide +kernel
theorem dL_law_704 : decode cL_law 704 = .ok (.aload_n 0, 1) := by decide +kernel
theorem dL_law_705 : decode cL_law 705 = .ok (.iload_n 3, 1) := by decide +kernel
theorem dL_law_706 : decode cL_law 706 = .ok (.iconst 2, 1) := by decide +kernel
theorem dL_law_707 : decode cL_law 707 = .ok (.iadd, 1) := by decide +kernel
theorem dL_law_708 : decode cL_law 708 = .ok (.iaload, 1) := by decide +kernel
theorem dL_law_709 : decode cL_law 709 = .ok (.invokevirtual 89, 3) := by decide +kernel
theorem dL_law_712 : decode cL_law 712 = .ok (.aload_n 2, 1) := by decide +kernel
theorem dL_law_713 : decode cL_law 713 = .ok (.aload_n 0, 1) := by decide +kernel
theorem dL_law_714 : decode cL_law 714 = .ok (.iload_n 3, 1) := by decide +kernel
theorem dL_law_715 : decode cL_law 715 = .ok (.iconst 1, 1) := by decide +kernel
theorem dL_law_716 : decode cL_law 716 = .ok (.iadd, 1) := by decide +kernel
theorem dL_law_717 : decode cL_law 717 = .ok (.iaload, 1) := by decide +kernel
theorem dL_law_718 : decode cL_law 718 = .ok (.aload_n 0, 1) := by decide +kernel
theorem dL_law_719 : decode cL_law 719 = .ok (.iload_n 3, 1) := by decide +kernel
theorem dL_law_720 : decode cL_law 720 = .ok (.iconst 2, 1) := by decide +kernel
theorem dL_law_721 : decode cL_law 721 = .ok (.iadd, 1) := by decide +kernel
theorem dL_law_722 : decode cL_law 722 = .ok (.iaload, 1) := by decide +kernel
theorem dL_law_723 : decode cL_law 723 = .ok (.invokevirtual 92, 3) := by decide +kernel
theorem dL_law_726 : decode cL_law 726 = .ok (.if_icmp .eq 195, 3) := by decide +kernel
theorem dL_law_729 : decode cL_law 729 = .ok (.iconst 0, 1) := by decide +kernel
theorem dL_law_730 : decode cL_law 730 = .ok (.ireturn, 1) := by decide +kernel
theorem dL_law_731 : decode cL_law 731 = .ok (.aload_n 1, 1) := by decide +kernel
theorem dL_law_732 : decode cL_law 732 = .ok (.aload_n 0, 1) := by decide +kernel
theorem dL_law_733 : decode cL_law 733 = .ok (.iload_n 3, 1) := by decide +kernel
theorem dL_law_734 : decode cL_law 734 = .ok (.iconst 1, 1) := by decide +kernel
theorem dL_law_735 : decode cL_law 735 = .ok (.iadd, 1) := by decide +kernel
theorem dL_law_736 : decode cL_law 736 = .ok (.iaload, 1) := by decide +kernel
theorem dL_law_737 : decode cL_law 737 = .ok (.invokevirtual 93, 3) := by decide +kernel
theorem dL_law_740 : decode cL_law 740 = .ok (.aload_n 2, 1) := by decide +kernel
theorem dL_law_741 : decode cL_law 741 = .ok (.aload_n 0, 1) := by decide +kernel
theorem dL_law_742 : decode cL_law 742 = .ok (.iload_n 3, 1) := by decide +kernel
theorem dL_law_743 : decode cL_law 743 = .ok (.iconst 1, 1) := by decide +kernel
theorem dL_law_744 : decode cL_law 744 = .ok (.iadd, 1) := by decide +kernel
theorem dL_law_745 : decode cL_law 745 = .ok (.iaload, 1) := by decide +kernel
theorem dL_law_746 : decode cL_law 746 = .ok (.invokevirtual 96, 3) := by decide +kernel
theorem dL_law_749 : decode cL_law 749 = .ok (.if_icmp .eq 172, 3) := by decide +kernel
theorem dL_law_752 : decode cL_law 752 = .ok (.iconst 0, 1) := by decide +kernel
theorem dL_law_753 : decode cL_law 753 = .ok (.ireturn, 1) := by decide +kernel
theorem dL_law_754 : decode cL_law 754 = .ok (.aload_n 1, 1) := by decide +kernel
theorem dL_law_755 : decode cL_law 755 = .ok (.aload_n 0, 1) := by decide +kernel
theorem dL_law_756 : decode cL_law 756 = .ok (.iload_n 3, 1) := by decide +kernel
theorem dL_law_757 : decode cL_law 757 = .ok (.iconst 1, 1) := by decide +kernel
theorem dL_law_758 : decode cL_law 758 = .ok (.iadd, 1) := by decide +kernel
theorem dL_law_759 : decode cL_law 759 = .ok (.iaload, 1) := by decide +kernel
theorem dL_law_760 : decode cL_law 760 = .ok (.invokevirtual 97, 3) := by decide +kernel
theorem dL_law_763 : decode cL_law 763 = .ok (.aload_n 2, 1) := by decide +kernel
theorem dL_law_764 : decode cL_law 764 = .ok (.aload_n 0, 1) := by decide +kernel
theorem dL_law_765 : decode cL_law 765 = .ok (.iload_n 3, 1) := by decide +kernel
theorem dL_law_766 : decode cL_law 766 = .ok (.iconst 1, 1) := by decide +kernel
theorem dL_law_767 : decode cL_law 767 = .ok (.iadd, 1) := by decide +kernel
theorem dL_law_768 : decode cL_law 768 = .ok (.iaload, 1) := by decide +kernel
theorem dL_law_769 : decode cL_law 769 = .ok (.invokevirtual 100, 3) := by decide +kernel
theorem dL_law_772 : decode cL_law 772 = .ok (.if_icmp .eq 149, 3) := by decide +kernel
theorem dL_law_775 : decode cL_law 775 = .ok (.iconst 0, 1) := by decide +kernel
theorem dL_law_776 : decode cL_law 776 = .ok (.ireturn, 1) := by decide +kernel
theorem dL_law_777 : decode cL_law 777 = .ok (.aload_n 1, 1) := by decide +kernel
theorem dL_law_778 : decode cL_law 778 = .ok (.aload_n 0, 1) := by decide +kernel
theorem dL_law_779 : decode cL_law 779 = .ok (.iload_n 3, 1) := by decide +kernel
theorem dL_law_780 : decode cL_law 780 = .ok (.iconst 1, 1) := by decide +kernel
theorem dL_law_781 : decode cL_law 781 = .ok (.iadd, 1) := by decide +kernel
theorem dL_law_782 : decode cL_law 782 = .ok (.iaload, 1) := by decide +kernel
theorem dL_law_783 : decode cL_law 783 = .ok (.invokevirtual 101, 3) := by decide +kernel
theorem dL_law_786 : decode cL_law 786 = .ok (.aload_n 2, 1) := by decide +kernel
theorem dL_law_787 : decode cL_law 787 = .ok (.aload_n 0, 1) := by decide +kernel
theorem dL_law_788 : decode cL_law 788 = .ok (.iload_n 3, 1) := by decide +kernel
theorem dL_law_789 : decode cL_law 789 = .ok (.iconst 1, 1) := by decide +kernel
theorem dL_law_790 : decode cL_law 790 = .ok (.iadd, 1) := by decide +kernel
theorem dL_law_791 : decode cL_law 791 = .ok (.iaload, 1) := by decide +kernel
theorem dL_law_792 : decode cL_law 792 = .ok (.invokevirtual 104, 3) := by decide +kernel
theorem dL_law_795 : decode cL_law 795 = .ok (.if_icmp .eq 126, 3) := by decide +kernel
theorem dL_law_798 : decode cL_law 798 = .ok (.iconst 0, 1) := by decide +kernel
theorem dL_law_799 : decode cL_law 799 = .ok (.ireturn, 1) := by decide +kernel
theorem dL_law_800 : decode cL_law 800 = .ok (.aload_n 1, 1) := by decide +kernel
theorem dL_law_801 : decode cL_law 801 = .ok (.invokevirtual 105, 3) := by decide +kernel
theorem dL_law_804 : decode cL_law 804 = .ok (.aload_n 2, 1) := by decide +kernel
theorem dL_law_805 : decode cL_law 805 = .ok (.invokevirtual 108, 3) := by decide +kernel
theorem dL_law_808 : decode cL_law 808 = .ok (.if_icmp .eq 113, 3) := by decide +kernel
theorem dL_law_811 : decode cL_law 811 = .ok (.iconst 0, 1) := by decide +kernel
theorem dL_law_812 : decode cL_law 812 = .ok (.ireturn, 1) := by decide +kernel
theorem dL_law_813 : decode cL_law 813 = .ok (.aload_n 1, 1) := by decide +kernel
theorem dL_law_814 : decode cL_law 814 = .ok (.aload_n 0, 1) := by decide +kernel
theorem dL_law_815 : decode cL_law 815 = .ok (.iload_n 3, 1) := by decide +kernel
theorem dL_law_816 : decode cL_law 816 = .ok (.iconst 1, 1) := by decide +kernel
theorem dL_law_817 : decode cL_law 817 = .ok (.iadd, 1) := by decide +kernel
theorem dL_law_818 : decode cL_law 818 = .ok (.iaload, 1) := by decide +kernel
theorem dL_law_819 : decode cL_law 819 = .ok (.invokevirtual 109, 3) := by decide +kernel
theorem dL_law_822 : decode cL_law 822 = .ok (.aload_n 2, 1) := by decide +kernel
theorem dL_law_823 : decode cL_law 823 = .ok (.aload_n 0, 1) := by decide +kernel
theorem dL_law_824 : decode cL_law 824 = .ok (.iload_n 3, 1) := by decide +kernel
theorem dL_law_825 : decode cL_law 825 = .ok (.iconst 1, 1) := by decide +kernel
theorem dL_law_826 : decode cL_law 826 = .ok (.iadd, 1) := by decide +kernel
theorem dL_law_827 : decode cL_law 827 = .ok (.iaload, 1) := by decide +kernel
theorem dL_law_828 : decode cL_law 828 = .ok (.invokevirtual 112, 3) := by decide +kernel
theorem dL_law_831 : decode cL_law 831 = .ok (.if_icmp .eq 90, 3) := by decide +kernel
theorem dL_law_834 : decode cL_law 834 = .ok (.iconst 0, 1) := by decide +kernel
theorem dL_law_835 : decode cL_law 835 = .ok (.ireturn, 1) := by decide +kernel
theorem dL_law_836 : decode cL_law 836 = .ok (.aload_n 1, 1) := by decide +kernel
theorem dL_law_837 : decode cL_law 837 = .ok (.invokevirtual 113, 3) := by decide +kernel
theorem dL_law_840 : decode cL_law 840 = .ok (.aload_n 2, 1) := by decide +kernel
theorem dL_law_841 : decode cL_law 841 = .ok (.invokevirtual 116, 3) := by decide +kernel
theorem dL_law_844 : decode cL_law 844 = .ok (.if_icmp .eq 77, 3) := by decide +kernel
theorem dL_law_847 : decode cL_law 847 = .ok (.iconst 0, 1) := by decide +kernel
theorem dL_law_848 : decode cL_law 848 = .ok (.ireturn, 1) := by decide +kernel
theorem dL_law_849 : decode cL_law 849 = .ok (.aload_n 1, 1) := by decide +kernel
theorem dL_law_850 : decode cL_law 850 = .ok (.aload_n 0, 1) := by decide +kernel
theorem dL_law_851 : decode cL_law 851 = .ok (.iload_n 3, 1) := by decide +kernel
theorem dL_law_852 : decode cL_law 852 = .ok (.iconst 1, 1) := by decide +kernel
theorem dL_law_853 : decode cL_law 853 = .ok (.iadd, 1) := by decide +kernel
theorem dL_law_854 : decode cL_law 854 = .ok (.iaload, 1) := by decide +kernel
theorem dL_law_855 : decode cL_law 855 = .ok (.invokevirtual 117, 3) := by decide +kernel
theorem dL_law_858 : decode cL_law 858 = .ok (.aload_n 2, 1) := by decide +kernel
theorem dL_law_859 : decode cL_law 859 = .ok (.aload_n 0, 1) := by decide +kernel
theorem dL_law_860 : decode cL_law 860 = .ok (.iload_n 3, 1) := by decide +kernel
theorem dL_law_861 : decode cL_law 861 = .ok (.iconst 1, 1) := by decide +kernel
theorem dL_law_862 : decode cL_law 862 = .ok (.iadd, 1) := by decide +kernel
theorem dL_law_863 : decode cL_law 863 = .ok (.iaload, 1) := by decide +kernel
theorem dL_law_864 : decode cL_law 864 = .ok (.invokevirtual 120, 3) := by decide +kernel
theorem dL_law_867 : decode cL_law 867 = .ok (.if_icmp .eq 54, 3) := by decide +kernel
theorem dL_law_870 : decode cL_law 870 = .ok (.iconst 0, 1) := by decide +kernel
theorem dL_law_871 : decode cL_law 871 = .ok (.ireturn, 1) := by decide +kernel
theorem dL_law_872 : decode cL_law 872 = .ok (.aload_n 1, 1) := by decide +kernel
theorem dL_law_873 : decode cL_law 873 = .ok (.invokevirtual 121, 3) := by decide +kernel
theorem dL_law_876 : decode cL_law 876 = .ok (.aload_n 2, 1) := by decide +kernel
theorem dL_law_877 : decode cL_law 877 = .ok (.invokevirtual 124, 3) := by decide +kernel
theorem dL_law_880 : decode cL_law 880 = .ok (.if_icmp .eq 41, 3) := by decide +kernel
theorem dL_law_883 : decode cL_law 883 = .ok (.iconst 0, 1) := by decide +kernel
theorem dL_law_884 : decode cL_law 884 = .ok (.ireturn, 1) := by decide +kernel
theorem dL_law_885 : decode cL_law 885 = .ok (.aload_n 1, 1) := by decide +kernel
theorem dL_law_886 : decode cL_law 886 = .ok (.aload_n 0, 1) := by decide +kernel
theorem dL_law_887 : decode cL_law 887 = .ok (.iload_n 3, 1) := by decide +kernel
theorem dL_law_888 : decode cL_law 888 = .ok (.iconst 1, 1) := by decide +kernel
theorem dL_law_889 : decode cL_law 889 = .ok (.iadd, 1) := by decide +kernel
theorem dL_law_890 : decode cL_law 890 = .ok (.iaload, 1) := by decide +kernel
theorem dL_law_891 : decode cL_law 891 = .ok (.invokevirtual 125, 3) := by decide +kernel
theorem dL_law_894 : decode cL_law 894 = .ok (.aload_n 2, 1) := by decide +kernel
theorem dL_law_895 : decode cL_law 895 = .ok (.aload_n 0, 1) := by decide +kernel
theorem dL_law_896 : decode cL_law 896 = .ok (.iload_n 3, 1) := by decide +kernel
theorem dL_law_897 : decode cL_law 897 = .ok (.iconst 1, 1) := by decide +kernel
theorem dL_law_898 : decode cL_law 898 = .ok (.iadd, 1) := by decide +kernel
theorem dL_law_899 : decode cL_law 899 = .ok (.iaload, 1) := by decide +kernel
theorem dL_law_900 : decode cL_law 900 = .ok (.invokevirtual 128, 3) := by decide +kernel
theorem dL_law_903 : decode cL_law 903 = .ok (.if_icmp .eq 18, 3) := by decide +kernel
theorem dL_law_906 : decode cL_law 906 = .ok (.iconst 0, 1) := by decide +kernel
theorem dL_law_907 : decode cL_law 907 = .ok (.ireturn, 1) := by decide +kernel
theorem dL_law_908 : decode cL_law 908 = .ok (.aload_n 1, 1) := by decide +kernel
theorem dL_law_909 : decode cL_law 909 = .ok (.invokevirtual 129, 3) := by decide +kernel
theorem dL_law_912 : decode cL_law 912 = .ok (.aload_n 2, 1) := by decide +kernel
theorem dL_law_913 : decode cL_law 913 = .ok (.invokevirtual 132, 3) := by decide +kernel
theorem dL_law_916 : decode cL_law 916 = .ok (.if_icmp .eq 5, 3) := by decide +kernel
theorem dL_law_919 : decode cL_law 919 = .ok (.iconst 0, 1) := by decide +kernel
theorem dL_law_920 : decode cL_law 920 = .ok (.ireturn, 1) := by decide +kernel
theorem dL_law_921 : decode cL_law 921 = .ok (.iinc 3 4, 3) := by decide +kernel
theorem dL_law_924 : decode cL_law 924 = .ok (.goto (-906), 3) := by decide +kernel
theorem dL_law_927 : decode cL_law 927 = .ok (.iconst 1, 1) := by decide +kernel
theorem dL_law_928 : decode cL_law 928 = .ok (.ireturn, 1) := by decide +kernel
end
section
theorem dX10_init_0 : decode cX10_init 0 = .ok (.aload_n 0, 1) := by decide +kernel
theorem dX10_init_1 : decode cX10_init 1 = .ok (.invokespecial 1, 3) := by decide +kernel
theorem dX10_init_4 : decode cX10_init 4 = .ok (.aload_n 0, 1) := by decide +kernel
theorem dX10_init_5 : decode cX10_init 5 = .ok (.sipush 231, 3) := by decide +kernel
theorem dX10_init_8 : decode cX10_init 8 = .ok (.newarray .int, 2) := by decide +kernel
theorem dX10_init_10 : decode cX10_init 10 = .ok (.putfield 7, 3) := by decide +kernel
theorem dX10_init_13 : decode cX10_init 13 = .ok (.aload_n 0, 1) := by decide +kernel
theorem dX10_init_14 : decode cX10_init 14 = .ok (.sipush 231, 3) := by decide +kernel
theorem dX10_init_17 : decode cX10_init 17 = .ok (.newarray .int, 2) := by decide +kernel
theorem dX10_init_19 : decode cX10_init 19 = .ok (.putfield 13, 3) := by decide +kernel
theorem dX10_init_22 : decode cX10_init 22 = .ok (.aload_n 0, 1) := by decide +kernel
theorem dX10_init_23 : decode cX10_init 23 = .ok (.sipush 924, 3) := by decide +kernel
theorem dX10_init_26 : decode cX10_init 26 = .ok (.newarray .int, 2) := by decide +kernel
theorem dX10_init_28 : decode cX10_init 28 = .ok (.putfield 16, 3) := by decide +kernel
theorem dX10_init_31 : decode cX10_init 31 = .ok (.aload_n 0, 1) := by decide +kernel
theorem dX10_init_32 : decode cX10_init 32 = .ok (.bipush 60, 2) := by decide +kernel
theorem dX10_init_34 : decode cX10_init 34 = .ok (.newarray .int, 2) := by decide +kernel
theorem dX10_init_36 : decode cX10_init 36 = .ok (.putfield 19, 3) := by decide +kernel
theorem dX10_init_39 : decode cX10_init 39 = .ok (.aload_n 0, 1) := by decide +kernel
theorem dX10_init_40 : decode cX10_init 40 = .ok (.iconst 3, 1) := by decide +kernel
theorem dX10_init_41 : decode cX10_init 41 = .ok (.newarray .int, 2) := by decide +kernel
theorem dX10_init_43 : decode cX10_init 43 = .ok (.putfield 22, 3) := by decide +kernel
theorem dX10_init_46 : decode cX10_init 46 = .ok (.aload_n 0, 1) := by decide +kernel
theorem dX10_init_47 : decode cX10_init 47 = .ok (.getfield 7, 3) := by decide +kernel
theorem dX10_init_50 : decode cX10_init 50 = .ok (.sipush 195, 3) := by decide +kernel
theorem dX10_init_53 : decode cX10_init 53 = .ok (.sipush 500, 3) := by decide +kernel
theorem dX10_init_56 : decode cX10_init 56 = .ok (.iastore, 1) := by decide +kernel
theorem dX10_init_57 : decode cX10_init 57 = .ok (.aload_n 0, 1) := by decide +kernel
theorem dX10_init_58 : decode cX10_init 58 = .ok (.getfield 7, 3) := by decide +kernel
theorem dX10_init_61 : decode cX10_init 61 = .ok (.sipush 203, 3) := by decide +kernel
theorem dX10_init_64 : decode cX10_init 64 = .ok (.bipush 50, 2) := by decide +kernel
theorem dX10_init_66 : decode cX10_init 66 = .ok (.iastore, 1) := by decide +kernel
theorem dX10_init_67 : decode cX10_init 67 = .ok (.aload_n 0, 1) := by decide +kernel
theorem dX10_init_68 : decode cX10_init 68 = .ok (.getfield 7, 3) := by decide +kernel
theorem dX10_init_71 : decode cX10_init 71 = .ok (.sipush 204, 3) := by decide +kernel
theorem dX10_init_74 : decode cX10_init 74 = .ok (.bipush 25, 2) := by decide +kernel
theorem dX10_init_76 : decode cX10_init 76 = .ok (.iastore, 1) := by decide +kernel
theorem dX10_init_77 : decode cX10_init 77 = .ok (.aload_n 0, 1) := by decide +kernel
theorem dX10_init_78 : decode cX10_init 78 = .ok (.getfield 7, 3) := by decide +kernel
theorem dX10_init_81 : decode cX10_init 81 = .ok (.sipush 205, 3) := by decide +kernel
theorem dX10_init_84 : decode cX10_init 84 = .ok (.iconst 2, 1) := by decide +kernel
theorem dX10_init_85 : decode cX10_init 85 = .ok (.iastore, 1) := by decide +kernel
theorem dX10_init_86 : decode cX10_init 86 = .ok (.return_, 1) := by decide +kernel
theorem dX10_in_0 : decode cX10_in 0 = .ok (.iload_n 0, 1) := by decide +kernel
theorem dX10_in_1 : decode cX10_in 1 = .ok (.iload_n 1, 1) := by decide +kernel
theorem dX10_in_2 : decode cX10_in 2 = .ok (.if_icmp .lt 12, 3) := by decide +kernel
theorem dX10_in_5 : decode cX10_in 5 = .ok (.iload_n 0, 1) := by decide +kernel
theorem dX10_in_6 : decode cX10_in 6 = .ok (.iload_n 2, 1) := by decide +kernel
theorem dX10_in_7 : decode cX10_in 7 = .ok (.if_icmp .gt 7, 3) := by decide +kernel
theorem dX10_in_10 : decode cX10_in 10 = .ok (.iconst 1, 1) := by decide +kernel
theorem dX10_in_11 : decode cX10_in 11 = .ok (.goto 4, 3) := by decide +kernel
theorem dX10_in_14 : decode cX10_in 14 = .ok (.iconst 0, 1) := by decide +kernel
theorem dX10_in_15 : decode cX10_in 15 = .ok (.ireturn, 1) := by decide +kernel
theorem dX10_of_0 : decode cX10_of 0 = .ok (.aload_n 0, 1) := by decide +kernel
theorem dX10_of_1 : decode cX10_of 1 = .ok (.getfield 7, 3) := by decide +kernel
theorem dX10_of_4 : decode cX10_of 4 = .ok (.bipush 10, 2) := by decide +kernel
theorem dX10_of_6 : decode cX10_of 6 = .ok (.iload_n 1, 1) := by decide +kernel
theorem dX10_of_7 : decode cX10_of 7 = .ok (.imul, 1) := by decide +kernel
theorem dX10_of_8 : decode cX10_of 8 = .ok (.iload_n 2, 1) := by decide +kernel
theorem dX10_of_9 : decode cX10_of 9 = .ok (.iadd, 1) := by decide +kernel
theorem dX10_of_10 : decode cX10_of 10 = .ok (.iaload, 1) := by decide +kernel
theorem dX10_of_11 : decode cX10_of 11 = .ok (.ireturn, 1) := by decide +kernel
theorem dX10_put_0 : decode cX10_put 0 = .ok (.aload_n 0, 1) := by decide +kernel
theorem dX10_put_1 : decode cX10_put 1 = .ok (.getfield 7, 3) := by decide +kernel
theorem dX10_put_4 : decode cX10_put 4 = .ok (.bipush 10, 2) := by decide +kernel
theorem dX10_put_6 : decode cX10_put 6 = .ok (.iload_n 1, 1) := by decide +kernel
theorem dX10_put_7 : decode cX10_put 7 = .ok (.imul, 1) := by decide +kernel
theorem dX10_put_8 : decode cX10_put 8 = .ok (.iload_n 2, 1) := by decide +kernel
theorem dX10_put_9 : decode cX10_put 9 = .ok (.iadd, 1) := by decide +kernel
theorem dX10_put_10 : decode cX10_put 10 = .ok (.iload_n 3, 1) := by decide +kernel
theorem dX10_put_11 : decode cX10_put 11 = .ok (.iastore, 1) := by decide +kernel
theorem dX10_put_12 : decode cX10_put 12 = .ok (.return_, 1) := by decide +kernel
theorem dX10_ofItem_0 : decode cX10_ofItem 0 = .ok (.aload_n 0, 1) := by decide +kernel
theorem dX10_ofItem_1 : decode cX10_ofItem 1 = .ok (.getfield 7, 3) := by decide +kernel
theorem dX10_ofItem_4 : decode cX10_ofItem 4 = .ok (.sipush 160, 3) := by decide +kernel
theorem dX10_ofItem_7 : decode cX10_ofItem 7 = .ok (.iconst 5, 1) := by decide +kernel
theorem dX10_ofItem_8 : decode cX10_ofItem 8 = .ok (.iload_n 1, 1) := by decide +kernel
theorem dX10_ofItem_9 : decode cX10_ofItem 9 = .ok (.imul, 1) := by decide +kernel
theorem dX10_ofItem_10 : decode cX10_ofItem 10 = .ok (.iadd, 1) := by decide +kernel
theorem dX10_ofItem_11 : decode cX10_ofItem 11 = .ok (.iload_n 2, 1) := by decide +kernel
theorem dX10_ofItem_12 : decode cX10_ofItem 12 = .ok (.iadd, 1) := by decide +kernel
theorem dX10_ofItem_13 : decode cX10_ofItem 13 = .ok (.iaload, 1) := by decide +kernel
theorem dX10_ofItem_14 : decode cX10_ofItem 14 = .ok (.ireturn, 1) := by decide +kernel
theorem dX10_isSailor_0 : decode cX10_isSailor 0 = .ok (.iload_n 1, 1) := by decide +kernel
theorem dX10_isSailor_1 : decode cX10_isSailor 1 = .ok (.iconst 0, 1) := by decide +kernel
theorem dX10_isSailor_2 : decode cX10_isSailor 2 = .ok (.aload_n 0, 1) := by decide +kernel
theorem dX10_isSailor_3 : decode cX10_isSailor 3 = .ok (.getfield 7, 3) := by decide +kernel
theorem dX10_isSailor_6 : decode cX10_isSailor 6 = .ok (.sipush 194, 3) := by decide +kernel
theorem dX10_isSailor_9 : decode cX10_isSailor 9 = .ok (.iaload, 1) := by decide +kernel
theorem dX10_isSailor_10 : decode cX10_isSailor 10 = .ok (.iconst 1, 1) := by decide +kernel
theorem dX10_isSailor_11 : decode cX10_isSailor 11 = .ok (.isub, 1) := by decide +kernel
theorem dX10_isSailor_12 : decode cX10_isSailor 12 = .ok (.invokestatic 25, 3) := by decide +kernel
theorem dX10_isSailor_15 : decode cX10_isSailor 15 = .ok (.ireturn, 1) := by decide +kernel
theorem dX10_isItem_0 : decode cX10_isItem 0 = .ok (.iload_n 0, 1) := by decide +kernel
theorem dX10_isItem_1 : decode cX10_isItem 1 = .ok (.iconst 0, 1) := by decide +kernel
theorem dX10_isItem_2 : decode cX10_isItem 2 = .ok (.iconst 5, 1) := by decide +kernel
theorem dX10_isItem_3 : decode cX10_isItem 3 = .ok (.invokestatic 25, 3) := by decide +kernel
theorem dX10_isItem_6 : decode cX10_isItem 6 = .ok (.ireturn, 1) := by decide +kernel
theorem dX10_isGone_0 : decode cX10_isGone 0 = .ok (.aload_n 0, 1) := by decide +kernel
theorem dX10_isGone_1 : decode cX10_isGone 1 = .ok (.iload_n 1, 1) := by decide +kernel
theorem dX10_isGone_2 : decode cX10_isGone 2 = .ok (.iconst 2, 1) := by decide +kernel
theorem dX10_isGone_3 : decode cX10_isGone 3 = .ok (.invokevirtual 29, 3) := by decide +kernel
theorem dX10_isGone_6 : decode cX10_isGone 6 = .ok (.iconst 2, 1) := by decide +kernel
theorem dX10_isGone_7 : decode cX10_isGone 7 = .ok (.if_icmp .ne 7, 3) := by decide +kernel
theorem dX10_isGone_10 : decode cX10_isGone 10 = .ok (.iconst 1, 1) := by decide +kernel
theorem dX10_isGone_11 : decode cX10_isGone 11 = .ok (.goto 4, 3) := by decide +kernel
theorem dX10_isGone_14 : decode cX10_isGone 14 = .ok (.iconst 0, 1) := by decide +kernel
theorem dX10_isGone_15 : decode cX10_isGone 15 = .ok (.ireturn, 1) := by decide +kernel
theorem dX10_isAtSea_0 : decode cX10_isAtSea 0 = .ok (.aload_n 0, 1) := by decide +kernel
theorem dX10_isAtSea_1 : decode cX10_isAtSea 1 = .ok (.getfield 7, 3) := by decide +kernel
theorem dX10_isAtSea_4 : decode cX10_isAtSea 4 = .ok (.sipush 191, 3) := by decide +kernel
theorem dX10_isAtSea_7 : decode cX10_isAtSea 7 = .ok (.iaload, 1) := by decide +kernel
theorem dX10_isAtSea_8 : decode cX10_isAtSea 8 = .ok (.iconst 1, 1) := by decide +kernel
theorem dX10_isAtSea_9 : decode cX10_isAtSea 9 = .ok (.if_icmp .ne 7, 3) := by decide +kernel
theorem dX10_isAtSea_12 : decode cX10_isAtSea 12 = .ok (.iconst 1, 1) := by decide +kernel
theorem dX10_isAtSea_13 : decode cX10_isAtSea 13 = .ok (.goto 4, 3) := by decide +kernel
theorem dX10_isAtSea_16 : decode cX10_isAtSea 16 = .ok (.iconst 0, 1) := by decide +kernel
theorem dX10_isAtSea_17 : decode cX10_isAtSea 17 = .ok (.ireturn, 1) := by decide +kernel
theorem dX10_record_0 : decode cX10_record 0 = .ok (.aload_n 0, 1) := by decide +kernel
theorem dX10_record_1 : decode cX10_record 1 = .ok (.getfield 33, 3) := by decide +kernel
theorem dX10_record_4 : decode cX10_record 4 = .ok (.iconst 4, 1) := by decide +kernel
theorem dX10_record_5 : decode cX10_record 5 = .ok (.if_icmp .ne 44, 3) := by decide +kernel
theorem dX10_record_8 : decode cX10_record 8 = .ok (.iconst 0, 1) := by decide +kernel
theorem dX10_record_9 : decode cX10_record 9 = .ok (.istore_n 2, 1) := by decide +kernel
theorem dX10_record_10 : decode cX10_record 10 = .ok (.iload_n 2, 1) := by decide +kernel
theorem dX10_record_11 : decode cX10_record 11 = .ok (.sipush 693, 3) := by decide +kernel
theorem dX10_record_14 : decode cX10_record 14 = .ok (.if_icmp .ge 25, 3) := by decide +kernel
theorem dX10_record_17 : decode cX10_record 17 = .ok (.aload_n 0, 1) := by decide +kernel
theorem dX10_record_18 : decode cX10_record 18 = .ok (.getfield 16, 3) := by decide +kernel
theorem dX10_record_21 : decode cX10_record 21 = .ok (.iload_n 2, 1) := by decide +kernel
theorem dX10_record_22 : decode cX10_record 22 = .ok (.aload_n 0, 1) := by decide +kernel
theorem dX10_record_23 : decode cX10_record 23 = .ok (.getfield 16, 3) := by decide +kernel
theorem dX10_record_26 : decode cX10_record 26 = .ok (.sipush 231, 3) := by decide +kernel
theorem dX10_record_29 : decode cX10_record 29 = .ok (.iload_n 2, 1) := by decide +kernel
theorem dX10_record_30 : decode cX10_record 30 = .ok (.iadd, 1) := by decide +kernel
theorem dX10_record_31 : decode cX10_record 31 = .ok (.iaload, 1) := by decide +kernel
theorem dX10_record_32 : decode cX10_record 32 = .ok (.iastore, 1) := by decide +kernel
theorem dX10_record_33 : decode cX10_record 33 = .ok (.iinc 2 1, 3) := by decide +kernel
theorem dX10_record_36 : decode cX10_record 36 = .ok (.goto (-26), 3) := by decide +kernel
theorem dX10_record_39 : decode cX10_record 39 = .ok (.aload_n 0, 1) := by decide +kernel
theorem dX10_record_40 : decode cX10_record 40 = .ok (.dup, 1) := by decide +kernel
theorem dX10_record_41 : decode cX10_record 41 = .ok (.getfield 33, 3) := by decide +kernel
theorem dX10_record_44 : decode cX10_record 44 = .ok (.iconst 1, 1) := by decide +kernel
theorem dX10_record_45 : decode cX10_record 45 = .ok (.isub, 1) := by decide +kernel
theorem dX10_record_46 : decode cX10_record 46 = .ok (.putfield 33, 3) := by decide +kernel
theorem dX10_record_49 : decode cX10_record 49 = .ok (.iconst 0, 1) := by decide +kernel
theorem dX10_record_50 : decode cX10_record 50 = .ok (.istore_n 2, 1) := by decide +kernel
theorem dX10_record_51 : decode cX10_record 51 = .ok (.iload_n 2, 1) := by decide +kernel
theorem dX10_record_52 : decode cX10_record 52 = .ok (.sipush 231, 3) := by decide +kernel
theorem dX10_record_55 : decode cX10_record 55 = .ok (.if_icmp .ge 27, 3) := by decide +kernel
theorem dX10_record_58 : decode cX10_record 58 = .ok (.aload_n 0, 1) := by decide +kernel
theorem dX10_record_59 : decode cX10_record 59 = .ok (.getfield 16, 3) := by decide +kernel
theorem dX10_record_62 : decode cX10_record 62 = .ok (.sipush 231, 3) := by decide +kernel
theorem dX10_record_65 : decode cX10_record 65 = .ok (.aload_n 0, 1) := by decide +kernel
theorem dX10_record_66 : decode cX10_record 66 = .ok (.getfield 33, 3) := by decide +kernel
theorem dX10_record_69 : decode cX10_record 69 = .ok (.imul, 1) := by decide +kernel
theorem dX10_record_70 : decode cX10_record 70 = .ok (.iload_n 2, 1) := by decide +kernel
theorem dX10_record_71 : decode cX10_record 71 = .ok (.iadd, 1) := by decide +kernel
theorem dX10_record_72 : decode cX10_record 72 = .ok (.aload_n 1, 1) := by decide +kernel
theorem dX10_record_73 : decode cX10_record 73 = .ok (.iload_n 2, 1) := by decide +kernel
theorem dX10_record_74 : decode cX10_record 74 = .ok (.iaload, 1) := by decide +kernel
theorem dX10_record_75 : decode cX10_record 75 = .ok (.iastore, 1) := by decide +kernel
theorem dX10_record_76 : decode cX10_record 76 = .ok (.iinc 2 1, 3) := by decide +kernel
theorem dX10_record_79 : decode cX10_record 79 = .ok (.goto (-28), 3) := by decide +kernel
theorem dX10_record_82 : decode cX10_record 82 = .ok (.aload_n 0, 1) := by decide +kernel
theorem dX10_record_83 : decode cX10_record 83 = .ok (.dup, 1) := by decide +kernel
theorem dX10_record_84 : decode cX10_record 84 = .ok (.getfield 33, 3) := by decide +kernel
theorem dX10_record_87 : decode cX10_record 87 = .ok (.iconst 1, 1) := by decide +kernel
theorem dX10_record_88 : decode cX10_record 88 = .ok (.iadd, 1) := by decide +kernel
theorem dX10_record_89 : decode cX10_record 89 = .ok (.putfield 33, 3) := by decide +kernel
theorem dX10_record_92 : decode cX10_record 92 = .ok (.return_, 1) := by decide +kernel
theorem dX10_putAside_0 : decode cX10_putAside 0 = .ok (.iconst 0, 1) := by decide +kernel
theorem dX10_putAside_1 : decode cX10_putAside 1 = .ok (.istore_n 1, 1) := by decide +kernel
theorem dX10_putAside_2 : decode cX10_putAside 2 = .ok (.iload_n 1, 1) := by decide +kernel
theorem dX10_putAside_3 : decode cX10_putAside 3 = .ok (.sipush 231, 3) := by decide +kernel
theorem dX10_putAside_6 : decode cX10_putAside 6 = .ok (.if_icmp .ge 21, 3) := by decide +kernel
theorem dX10_putAside_9 : decode cX10_putAside 9 = .ok (.aload_n 0, 1) := by decide +kernel
theorem dX10_putAside_10 : decode cX10_putAside 10 = .ok (.getfield 13, 3) := by decide +kernel
theorem dX10_putAside_13 : decode cX10_putAside 13 = .ok (.iload_n 1, 1) := by decide +kernel
theorem dX10_putAside_14 : decode cX10_putAside 14 = .ok (.aload_n 0, 1) := by decide +kernel
theorem dX10_putAside_15 : decode cX10_putAside 15 = .ok (.getfield 7, 3) := by decide +kernel
theorem dX10_putAside_18 : decode cX10_putAside 18 = .ok (.iload_n 1, 1) := by decide +kernel
theorem dX10_putAside_19 : decode cX10_putAside 19 = .ok (.iaload, 1) := by decide +kernel
theorem dX10_putAside_20 : decode cX10_putAside 20 = .ok (.iastore, 1) := by decide +kernel
theorem dX10_putAside_21 : decode cX10_putAside 21 = .ok (.iinc 1 1, 3) := by decide +kernel
theorem dX10_putAside_24 : decode cX10_putAside 24 = .ok (.goto (-22), 3) := by decide +kernel
theorem dX10_putAside_27 : decode cX10_putAside 27 = .ok (.return_, 1) := by decide +kernel
theorem dX10_putBack_0 : decode cX10_putBack 0 = .ok (.iconst 0, 1) := by decide +kernel
theorem dX10_putBack_1 : decode cX10_putBack 1 = .ok (.istore_n 1, 1) := by decide +kernel
theorem dX10_putBack_2 : decode cX10_putBack 2 = .ok (.iload_n 1, 1) := by decide +kernel
theorem dX10_putBack_3 : decode cX10_putBack 3 = .ok (.sipush 231, 3) := by decide +kernel
theorem dX10_putBack_6 : decode cX10_putBack 6 = .ok (.if_icmp .ge 21, 3) := by decide +kernel
theorem dX10_putBack_9 : decode cX10_putBack 9 = .ok (.aload_n 0, 1) := by decide +kernel
theorem dX10_putBack_10 : decode cX10_putBack 10 = .ok (.getfield 7, 3) := by decide +kernel
theorem dX10_putBack_13 : decode cX10_putBack 13 = .ok (.iload_n 1, 1) := by decide +kernel
theorem dX10_putBack_14 : decode cX10_putBack 14 = .ok (.aload_n 0, 1) := by decide +kernel
theorem dX10_putBack_15 : decode cX10_putBack 15 = .ok (.getfield 13, 3) := by decide +kernel
theorem dX10_putBack_18 : decode cX10_putBack 18 = .ok (.iload_n 1, 1) := by decide +kernel
theorem dX10_putBack_19 : decode cX10_putBack 19 = .ok (.iaload, 1) := by decide +kernel
theorem dX10_putBack_20 : decode cX10_putBack 20 = .ok (.iastore, 1) := by decide +kernel
theorem dX10_putBack_21 : decode cX10_putBack 21 = .ok (.iinc 1 1, 3) := by decide +kernel
theorem dX10_putBack_24 : decode cX10_putBack 24 = .ok (.goto (-22), 3) := by decide +kernel
theorem dX10_putBack_27 : decode cX10_putBack 27 = .ok (.return_, 1) := by decide +kernel
theorem dX10_undo_0 : decode cX10_undo 0 = .ok (.aload_n 0, 1) := by decide +kernel
theorem dX10_undo_1 : decode cX10_undo 1 = .ok (.getfield 33, 3) := by decide +kernel
theorem dX10_undo_4 : decode cX10_undo 4 = .ok (.ifCond .ne 6, 3) := by decide +kernel
theorem dX10_undo_7 : decode cX10_undo 7 = .ok (.ldc 37, 2) := by decide +kernel
theorem dX10_undo_9 : decode cX10_undo 9 = .ok (.ireturn, 1) := by decide +kernel
theorem dX10_undo_10 : decode cX10_undo 10 = .ok (.aload_n 0, 1) := by decide +kernel
theorem dX10_undo_11 : decode cX10_undo 11 = .ok (.dup, 1) := by decide +kernel
theorem dX10_undo_12 : decode cX10_undo 12 = .ok (.getfield 33, 3) := by decide +kernel
theorem dX10_undo_15 : decode cX10_undo 15 = .ok (.iconst 1, 1) := by decide +kernel
theorem dX10_undo_16 : decode cX10_undo 16 = .ok (.isub, 1) := by decide +kernel
theorem dX10_undo_17 : decode cX10_undo 17 = .ok (.putfield 33, 3) := by decide +kernel
theorem dX10_undo_20 : decode cX10_undo 20 = .ok (.iconst 0, 1) := by decide +kernel
theorem dX10_undo_21 : decode cX10_undo 21 = .ok (.istore_n 1, 1) := by decide +kernel
theorem dX10_undo_22 : decode cX10_undo 22 = .ok (.iload_n 1, 1) := by decide +kernel
theorem dX10_undo_23 : decode cX10_undo 23 = .ok (.sipush 231, 3) := by decide +kernel
theorem dX10_undo_26 : decode cX10_undo 26 = .ok (.if_icmp .ge 30, 3) := by decide +kernel
theorem dX10_undo_29 : decode cX10_undo 29 = .ok (.aload_n 0, 1) := by decide +kernel
theorem dX10_undo_30 : decode cX10_undo 30 = .ok (.getfield 7, 3) := by decide +kernel
theorem dX10_undo_33 : decode cX10_undo 33 = .ok (.iload_n 1, 1) := by decide +kernel
theorem dX10_undo_34 : decode cX10_undo 34 = .ok (.aload_n 0, 1) := by decide +kernel
theorem dX10_undo_35 : decode cX10_undo 35 = .ok (.getfield 16, 3) := by decide +kernel
theorem dX10_undo_38 : decode cX10_undo 38 = .ok (.sipush 231, 3) := by decide +kernel
theorem dX10_undo_41 : decode cX10_undo 41 = .ok (.aload_n 0, 1) := by decide +kernel
theorem dX10_undo_42 : decode cX10_undo 42 = .ok (.getfield 33, 3) := by decide +kernel
theorem dX10_undo_45 : decode cX10_undo 45 = .ok (.imul, 1) := by decide +kernel
theorem dX10_undo_46 : decode cX10_undo 46 = .ok (.iload_n 1, 1) := by decide +kernel
theorem dX10_undo_47 : decode cX10_undo 47 = .ok (.iadd, 1) := by decide +kernel
theorem dX10_undo_48 : decode cX10_undo 48 = .ok (.iaload, 1) := by decide +kernel
theorem dX10_undo_49 : decode cX10_undo 49 = .ok (.iastore, 1) := by decide +kernel
theorem dX10_undo_50 : decode cX10_undo 50 = .ok (.iinc 1 1, 3) := by decide +kernel
theorem dX10_undo_53 : decode cX10_undo 53 = .ok (.goto (-31), 3) := by decide +kernel
theorem dX10_undo_56 : decode cX10_undo 56 = .ok (.aload_n 0, 1) := by decide +kernel
theorem dX10_undo_57 : decode cX10_undo 57 = .ok (.getfield 33, 3) := by decide +kernel
theorem dX10_undo_60 : decode cX10_undo 60 = .ok (.ireturn, 1) := by decide +kernel
theorem dX10_wages_0 : decode cX10_wages 0 = .ok (.iload_n 1, 1) := by decide +kernel
theorem dX10_wages_1 : decode cX10_wages 1 = .ok (.iload_n 2, 1) := by decide +kernel
theorem dX10_wages_2 : decode cX10_wages 2 = .ok (.iadd, 1) := by decide +kernel
theorem dX10_wages_3 : decode cX10_wages 3 = .ok (.istore_n 3, 1) := by decide +kernel
theorem dX10_wages_4 : decode cX10_wages 4 = .ok (.iload_n 0, 1) := by decide +kernel
theorem dX10_wages_5 : decode cX10_wages 5 = .ok (.ifCond .ne 9, 3) := by decide +kernel
theorem dX10_wages_8 : decode cX10_wages 8 = .ok (.iload_n 3, 1) := by decide +kernel
theorem dX10_wages_9 : decode cX10_wages 9 = .ok (.iconst 2, 1) := by decide +kernel
theorem dX10_wages_10 : decode cX10_wages 10 = .ok (.idiv, 1) := by decide +kernel
theorem dX10_wages_11 : decode cX10_wages 11 = .ok (.goto 39, 3) := by decide +kernel
theorem dX10_wages_14 : decode cX10_wages 14 = .ok (.iload_n 0, 1) := by decide +kernel
theorem dX10_wages_15 : decode cX10_wages 15 = .ok (.iconst 1, 1) := by decide +kernel
theorem dX10_wages_16 : decode cX10_wages 16 = .ok (.if_icmp .ne 11, 3) := by decide +kernel
theorem dX10_wages_19 : decode cX10_wages 19 = .ok (.iconst 2, 1) := by decide +kernel
theorem dX10_wages_20 : decode cX10_wages 20 = .ok (.iload_n 1, 1) := by decide +kernel
theorem dX10_wages_21 : decode cX10_wages 21 = .ok (.imul, 1) := by decide +kernel
theorem dX10_wages_22 : decode cX10_wages 22 = .ok (.iload_n 2, 1) := by decide +kernel
theorem dX10_wages_23 : decode cX10_wages 23 = .ok (.iadd, 1) := by decide +kernel
theorem dX10_wages_24 : decode cX10_wages 24 = .ok (.goto 26, 3) := by decide +kernel
theorem dX10_wages_27 : decode cX10_wages 27 = .ok (.iload_n 0, 1) := by decide +kernel
theorem dX10_wages_28 : decode cX10_wages 28 = .ok (.iconst 2, 1) := by decide +kernel
theorem dX10_wages_29 : decode cX10_wages 29 = .ok (.if_icmp .ne 14, 3) := by decide +kernel
theorem dX10_wages_32 : decode cX10_wages 32 = .ok (.iconst 2, 1) := by decide +kernel
theorem dX10_wages_33 : decode cX10_wages 33 = .ok (.iload_n 3, 1) := by decide +kernel
theorem dX10_wages_34 : decode cX10_wages 34 = .ok (.imul, 1) := by decide +kernel
theorem dX10_wages_35 : decode cX10_wages 35 = .ok (.iload_n 3, 1) := by decide +kernel
theorem dX10_wages_36 : decode cX10_wages 36 = .ok (.bipush 7, 2) := by decide +kernel
theorem dX10_wages_38 : decode cX10_wages 38 = .ok (.idiv, 1) := by decide +kernel
theorem dX10_wages_39 : decode cX10_wages 39 = .ok (.iadd, 1) := by decide +kernel
theorem dX10_wages_40 : decode cX10_wages 40 = .ok (.goto 10, 3) := by decide +kernel
theorem dX10_wages_43 : decode cX10_wages 43 = .ok (.iconst 4, 1) := by decide +kernel
theorem dX10_wages_44 : decode cX10_wages 44 = .ok (.iload_n 1, 1) := by decide +kernel
theorem dX10_wages_45 : decode cX10_wages 45 = .ok (.imul, 1) := by decide +kernel
theorem dX10_wages_46 : decode cX10_wages 46 = .ok (.iconst 2, 1) := by decide +kernel
theorem dX10_wages_47 : decode cX10_wages 47 = .ok (.iload_n 2, 1) := by decide +kernel
theorem dX10_wages_48 : decode cX10_wages 48 = .ok (.imul, 1) := by decide +kernel
theorem dX10_wages_49 : decode cX10_wages 49 = .ok (.iadd, 1) := by decide +kernel
theorem dX10_wages_50 : decode cX10_wages 50 = .ok (.ireturn, 1) := by decide +kernel
theorem dX10_earned_0 : decode cX10_earned 0 = .ok (.aload_n 0, 1) := by decide +kernel
theorem dX10_earned_1 : decode cX10_earned 1 = .ok (.iload_n 1, 1) := by decide +kernel
theorem dX10_earned_2 : decode cX10_earned 2 = .ok (.iconst 0, 1) := by decide +kernel
theorem dX10_earned_3 : decode cX10_earned 3 = .ok (.invokevirtual 29, 3) := by decide +kernel
theorem dX10_earned_6 : decode cX10_earned 6 = .ok (.aload_n 0, 1) := by decide +kernel
theorem dX10_earned_7 : decode cX10_earned 7 = .ok (.iload_n 1, 1) := by decide +kernel
theorem dX10_earned_8 : decode cX10_earned 8 = .ok (.iconst 3, 1) := by decide +kernel
theorem dX10_earned_9 : decode cX10_earned 9 = .ok (.invokevirtual 29, 3) := by decide +kernel
theorem dX10_earned_12 : decode cX10_earned 12 = .ok (.aload_n 0, 1) := by decide +kernel
theorem dX10_earned_13 : decode cX10_earned 13 = .ok (.iload_n 1, 1) := by decide +kernel
theorem dX10_earned_14 : decode cX10_earned 14 = .ok (.iconst 4, 1) := by decide +kernel
theorem dX10_earned_15 : decode cX10_earned 15 = .ok (.invokevirtual 29, 3) := by decide +kernel
theorem dX10_earned_18 : decode cX10_earned 18 = .ok (.invokestatic 38, 3) := by decide +kernel
theorem dX10_earned_21 : decode cX10_earned 21 = .ok (.ireturn, 1) := by decide +kernel
theorem dX10_charged_0 : decode cX10_charged 0 = .ok (.aload_n 0, 1) := by decide +kernel
theorem dX10_charged_1 : decode cX10_charged 1 = .ok (.iload_n 1, 1) := by decide +kernel
theorem dX10_charged_2 : decode cX10_charged 2 = .ok (.iconst 5, 1) := by decide +kernel
theorem dX10_charged_3 : decode cX10_charged 3 = .ok (.invokevirtual 29, 3) := by decide +kernel
theorem dX10_charged_6 : decode cX10_charged 6 = .ok (.aload_n 0, 1) := by decide +kernel
theorem dX10_charged_7 : decode cX10_charged 7 = .ok (.iload_n 1, 1) := by decide +kernel
theorem dX10_charged_8 : decode cX10_charged 8 = .ok (.bipush 6, 2) := by decide +kernel
theorem dX10_charged_10 : decode cX10_charged 10 = .ok (.invokevirtual 29, 3) := by decide +kernel
theorem dX10_charged_13 : decode cX10_charged 13 = .ok (.iadd, 1) := by decide +kernel
theorem dX10_charged_14 : decode cX10_charged 14 = .ok (.aload_n 0, 1) := by decide +kernel
theorem dX10_charged_15 : decode cX10_charged 15 = .ok (.iload_n 1, 1) := by decide +kernel
theorem dX10_charged_16 : decode cX10_charged 16 = .ok (.bipush 7, 2) := by decide +kernel
theorem dX10_charged_18 : decode cX10_charged 18 = .ok (.invokevirtual 29, 3) := by decide +kernel
theorem dX10_charged_21 : decode cX10_charged 21 = .ok (.iadd, 1) := by decide +kernel
theorem dX10_charged_22 : decode cX10_charged 22 = .ok (.ireturn, 1) := by decide +kernel
theorem dX10_balance_0 : decode cX10_balance 0 = .ok (.aload_n 0, 1) := by decide +kernel
theorem dX10_balance_1 : decode cX10_balance 1 = .ok (.iload_n 1, 1) := by decide +kernel
theorem dX10_balance_2 : decode cX10_balance 2 = .ok (.invokevirtual 42, 3) := by decide +kernel
theorem dX10_balance_5 : decode cX10_balance 5 = .ok (.ifCond .eq 7, 3) := by decide +kernel
theorem dX10_balance_8 : decode cX10_balance 8 = .ok (.iconst 0, 1) := by decide +kernel
theorem dX10_balance_9 : decode cX10_balance 9 = .ok (.goto 22, 3) := by decide +kernel
theorem dX10_balance_12 : decode cX10_balance 12 = .ok (.aload_n 0, 1) := by decide +kernel
theorem dX10_balance_13 : decode cX10_balance 13 = .ok (.iload_n 1, 1) := by decide +kernel
theorem dX10_balance_14 : decode cX10_balance 14 = .ok (.invokevirtual 46, 3) := by decide +kernel
theorem dX10_balance_17 : decode cX10_balance 17 = .ok (.aload_n 0, 1) := by decide +kernel
theorem dX10_balance_18 : decode cX10_balance 18 = .ok (.iload_n 1, 1) := by decide +kernel
theorem dX10_balance_19 : decode cX10_balance 19 = .ok (.bipush 8, 2) := by decide +kernel
theorem dX10_balance_21 : decode cX10_balance 21 = .ok (.invokevirtual 29, 3) := by decide +kernel
theorem dX10_balance_24 : decode cX10_balance 24 = .ok (.iadd, 1) := by decide +kernel
theorem dX10_balance_25 : decode cX10_balance 25 = .ok (.aload_n 0, 1) := by decide +kernel
theorem dX10_balance_26 : decode cX10_balance 26 = .ok (.iload_n 1, 1) := by decide +kernel
theorem dX10_balance_27 : decode cX10_balance 27 = .ok (.invokevirtual 50, 3) := by decide +kernel
theorem dX10_balance_30 : decode cX10_balance 30 = .ok (.isub, 1) := by decide +kernel
theorem dX10_balance_31 : decode cX10_balance 31 = .ok (.ireturn, 1) := by decide +kernel
theorem dX10_spend_0 : decode cX10_spend 0 = .ok (.aload_n 0, 1) := by decide +kernel
theorem dX10_spend_1 : decode cX10_spend 1 = .ok (.getfield 7, 3) := by decide +kernel
theorem dX10_spend_4 : decode cX10_spend 4 = .ok (.sipush 196, 3) := by decide +kernel
theorem dX10_spend_7 : decode cX10_spend 7 = .ok (.dup2, 1) := by decide +kernel
theorem dX10_spend_8 : decode cX10_spend 8 = .ok (.iaload, 1) := by decide +kernel
theorem dX10_spend_9 : decode cX10_spend 9 = .ok (.iload_n 1, 1) := by decide +kernel
theorem dX10_spend_10 : decode cX10_spend 10 = .ok (.aload_n 0, 1) := by decide +kernel
theorem dX10_spend_11 : decode cX10_spend 11 = .ok (.getfield 7, 3) := by decide +kernel
theorem dX10_spend_14 : decode cX10_spend 14 = .ok (.sipush 195, 3) := by decide +kernel
theorem dX10_spend_17 : decode cX10_spend 17 = .ok (.iaload, 1) := by decide +kernel
theorem dX10_spend_18 : decode cX10_spend 18 = .ok (.if_icmp .le 16, 3) := by decide +kernel
theorem dX10_spend_21 : decode cX10_spend 21 = .ok (.iload_n 1, 1) := by decide +kernel
theorem dX10_spend_22 : decode cX10_spend 22 = .ok (.aload_n 0, 1) := by decide +kernel
theorem dX10_spend_23 : decode cX10_spend 23 = .ok (.getfield 7, 3) := by decide +kernel
theorem dX10_spend_26 : decode cX10_spend 26 = .ok (.sipush 195, 3) := by decide +kernel
theorem dX10_spend_29 : decode cX10_spend 29 = .ok (.iaload, 1) := by decide +kernel
theorem dX10_spend_30 : decode cX10_spend 30 = .ok (.isub, 1) := by decide +kernel
theorem dX10_spend_31 : decode cX10_spend 31 = .ok (.goto 4, 3) := by decide +kernel
theorem dX10_spend_34 : decode cX10_spend 34 = .ok (.iconst 0, 1) := by decide +kernel
theorem dX10_spend_35 : decode cX10_spend 35 = .ok (.iadd, 1) := by decide +kernel
theorem dX10_spend_36 : decode cX10_spend 36 = .ok (.iastore, 1) := by decide +kernel
theorem dX10_spend_37 : decode cX10_spend 37 = .ok (.aload_n 0, 1) := by decide +kernel
theorem dX10_spend_38 : decode cX10_spend 38 = .ok (.getfield 7, 3) := by decide +kernel
theorem dX10_spend_41 : decode cX10_spend 41 = .ok (.sipush 195, 3) := by decide +kernel
theorem dX10_spend_44 : decode cX10_spend 44 = .ok (.iload_n 1, 1) := by decide +kernel
theorem dX10_spend_45 : decode cX10_spend 45 = .ok (.aload_n 0, 1) := by decide +kernel
theorem dX10_spend_46 : decode cX10_spend 46 = .ok (.getfield 7, 3) := by decide +kernel
theorem dX10_spend_49 : decode cX10_spend 49 = .ok (.sipush 195, 3) := by decide +kernel
theorem dX10_spend_52 : decode cX10_spend 52 = .ok (.iaload, 1) := by decide +kernel
theorem dX10_spend_53 : decode cX10_spend 53 = .ok (.if_icmp .le 7, 3) := by decide +kernel
theorem dX10_spend_56 : decode cX10_spend 56 = .ok (.iconst 0, 1) := by decide +kernel
theorem dX10_spend_57 : decode cX10_spend 57 = .ok (.goto 13, 3) := by decide +kernel
theorem dX10_spend_60 : decode cX10_spend 60 = .ok (.aload_n 0, 1) := by decide +kernel
theorem dX10_spend_61 : decode cX10_spend 61 = .ok (.getfield 7, 3) := by decide +kernel
theorem dX10_spend_64 : decode cX10_spend 64 = .ok (.sipush 195, 3) := by decide +kernel
theorem dX10_spend_67 : decode cX10_spend 67 = .ok (.iaload, 1) := by decide +kernel
theorem dX10_spend_68 : decode cX10_spend 68 = .ok (.iload_n 1, 1) := by decide +kernel
theorem dX10_spend_69 : decode cX10_spend 69 = .ok (.isub, 1) := by decide +kernel
theorem dX10_spend_70 : decode cX10_spend 70 = .ok (.iastore, 1) := by decide +kernel
theorem dX10_spend_71 : decode cX10_spend 71 = .ok (.return_, 1) := by decide +kernel
theorem dX10_write_0 : decode cX10_write 0 = .ok (.iload_n 3, 1) := by decide +kernel
theorem dX10_write_1 : decode cX10_write 1 = .ok (.ifCond .ne 4, 3) := by decide +kernel
theorem dX10_write_4 : decode cX10_write 4 = .ok (.return_, 1) := by decide +kernel
theorem dX10_write_5 : decode cX10_write 5 = .ok (.bipush 23, 2) := by decide +kernel
theorem dX10_write_7 : decode cX10_write 7 = .ok (.istore 4, 2) := by decide +kernel
theorem dX10_write_9 : decode cX10_write 9 = .ok (.iload 4, 2) := by decide +kernel
theorem dX10_write_11 : decode cX10_write 11 = .ok (.iconst 3, 1) := by decide +kernel
theorem dX10_write_12 : decode cX10_write 12 = .ok (.if_icmp .lt 33, 3) := by decide +kernel
theorem dX10_write_15 : decode cX10_write 15 = .ok (.aload_n 0, 1) := by decide +kernel
theorem dX10_write_16 : decode cX10_write 16 = .ok (.getfield 7, 3) := by decide +kernel
theorem dX10_write_19 : decode cX10_write 19 = .ok (.sipush 207, 3) := by decide +kernel
theorem dX10_write_22 : decode cX10_write 22 = .ok (.iload 4, 2) := by decide +kernel
theorem dX10_write_24 : decode cX10_write 24 = .ok (.iadd, 1) := by decide +kernel
theorem dX10_write_25 : decode cX10_write 25 = .ok (.aload_n 0, 1) := by decide +kernel
theorem dX10_write_26 : decode cX10_write 26 = .ok (.getfield 7, 3) := by decide +kernel
theorem dX10_write_29 : decode cX10_write 29 = .ok (.sipush 207, 3) := by decide +kernel
theorem dX10_write_32 : decode cX10_write 32 = .ok (.iload 4, 2) := by decide +kernel
theorem dX10_write_34 : decode cX10_write 34 = .ok (.iadd, 1) := by decide +kernel
theorem dX10_write_35 : decode cX10_write 35 = .ok (.iconst 3, 1) := by decide +kernel
theorem dX10_write_36 : decode cX10_write 36 = .ok (.isub, 1) := by decide +kernel
theorem dX10_write_37 : decode cX10_write 37 = .ok (.iaload, 1) := by decide +kernel
theorem dX10_write_38 : decode cX10_write 38 = .ok (.iastore, 1) := by decide +kernel
theorem dX10_write_39 : decode cX10_write 39 = .ok (.iinc 4 (-1), 3) := by decide +kernel
theorem dX10_write_42 : decode cX10_write 42 = .ok (.goto (-33), 3) := by decide +kernel
theorem dX10_write_45 : decode cX10_write 45 = .ok (.aload_n 0, 1) := by decide +kernel
theorem dX10_write_46 : decode cX10_write 46 = .ok (.getfield 7, 3) := by decide +kernel
theorem dX10_write_49 : decode cX10_write 49 = .ok (.sipush 207, 3) := by decide +kernel
theorem dX10_write_52 : decode cX10_write 52 = .ok (.iload_n 1, 1) := by decide +kernel
theorem dX10_write_53 : decode cX10_write 53 = .ok (.iastore, 1) := by decide +kernel
theorem dX10_write_54 : decode cX10_write 54 = .ok (.aload_n 0, 1) := by decide +kernel
theorem dX10_write_55 : decode cX10_write 55 = .ok (.getfield 7, 3) := by decide +kernel
theorem dX10_write_58 : decode cX10_write 58 = .ok (.sipush 208, 3) := by decide +kernel
theorem dX10_write_61 : decode cX10_write 61 = .ok (.iload_n 2, 1) := by decide +kernel
theorem dX10_write_62 : decode cX10_write 62 = .ok (.iastore, 1) := by decide +kernel
theorem dX10_write_63 : decode cX10_write 63 = .ok (.aload_n 0, 1) := by decide +kernel
theorem dX10_write_64 : decode cX10_write 64 = .ok (.getfield 7, 3) := by decide +kernel
theorem dX10_write_67 : decode cX10_write 67 = .ok (.sipush 209, 3) := by decide +kernel
theorem dX10_write_70 : decode cX10_write 70 = .ok (.iload_n 3, 1) := by decide +kernel
theorem dX10_write_71 : decode cX10_write 71 = .ok (.iastore, 1) := by decide +kernel
theorem dX10_write_72 : decode cX10_write 72 = .ok (.aload_n 0, 1) := by decide +kernel
theorem dX10_write_73 : decode cX10_write 73 = .ok (.getfield 7, 3) := by decide +kernel
theorem dX10_write_76 : decode cX10_write 76 = .ok (.sipush 206, 3) := by decide +kernel
theorem dX10_write_79 : decode cX10_write 79 = .ok (.dup2, 1) := by decide +kernel
theorem dX10_write_80 : decode cX10_write 80 = .ok (.iaload, 1) := by decide +kernel
theorem dX10_write_81 : decode cX10_write 81 = .ok (.aload_n 0, 1) := by decide +kernel
theorem dX10_write_82 : decode cX10_write 82 = .ok (.getfield 7, 3) := by decide +kernel
theorem dX10_write_85 : decode cX10_write 85 = .ok (.sipush 206, 3) := by decide +kernel
theorem dX10_write_88 : decode cX10_write 88 = .ok (.iaload, 1) := by decide +kernel
theorem dX10_write_89 : decode cX10_write 89 = .ok (.bipush 8, 2) := by decide +kernel
theorem dX10_write_91 : decode cX10_write 91 = .ok (.if_icmp .ge 7, 3) := by decide +kernel
theorem dX10_write_94 : decode cX10_write 94 = .ok (.iconst 1, 1) := by decide +kernel
theorem dX10_write_95 : decode cX10_write 95 = .ok (.goto 4, 3) := by decide +kernel
theorem dX10_write_98 : decode cX10_write 98 = .ok (.iconst 0, 1) := by decide +kernel
theorem dX10_write_99 : decode cX10_write 99 = .ok (.iadd, 1) := by decide +kernel
theorem dX10_write_100 : decode cX10_write 100 = .ok (.iastore, 1) := by decide +kernel
theorem dX10_write_101 : decode cX10_write 101 = .ok (.return_, 1) := by decide +kernel
theorem dX10_charge_0 : decode cX10_charge 0 = .ok (.aload_n 0, 1) := by decide +kernel
theorem dX10_charge_1 : decode cX10_charge 1 = .ok (.iload_n 1, 1) := by decide +kernel
theorem dX10_charge_2 : decode cX10_charge 2 = .ok (.iload_n 2, 1) := by decide +kernel
theorem dX10_charge_3 : decode cX10_charge 3 = .ok (.aload_n 0, 1) := by decide +kernel
theorem dX10_charge_4 : decode cX10_charge 4 = .ok (.iload_n 1, 1) := by decide +kernel
theorem dX10_charge_5 : decode cX10_charge 5 = .ok (.iload_n 2, 1) := by decide +kernel
theorem dX10_charge_6 : decode cX10_charge 6 = .ok (.invokevirtual 29, 3) := by decide +kernel
theorem dX10_charge_9 : decode cX10_charge 9 = .ok (.iload_n 3, 1) := by decide +kernel
theorem dX10_charge_10 : decode cX10_charge 10 = .ok (.iadd, 1) := by decide +kernel
theorem dX10_charge_11 : decode cX10_charge 11 = .ok (.invokevirtual 53, 3) := by decide +kernel
theorem dX10_charge_14 : decode cX10_charge 14 = .ok (.aload_n 0, 1) := by decide +kernel
theorem dX10_charge_15 : decode cX10_charge 15 = .ok (.getfield 7, 3) := by decide +kernel
theorem dX10_charge_18 : decode cX10_charge 18 = .ok (.sipush 201, 3) := by decide +kernel
theorem dX10_charge_21 : decode cX10_charge 21 = .ok (.dup2, 1) := by decide +kernel
theorem dX10_charge_22 : decode cX10_charge 22 = .ok (.iaload, 1) := by decide +kernel
theorem dX10_charge_23 : decode cX10_charge 23 = .ok (.iload_n 2, 1) := by decide +kernel
theorem dX10_charge_24 : decode cX10_charge 24 = .ok (.bipush 6, 2) := by decide +kernel
theorem dX10_charge_26 : decode cX10_charge 26 = .ok (.if_icmp .ne 7, 3) := by decide +kernel
theorem dX10_charge_29 : decode cX10_charge 29 = .ok (.iload_n 3, 1) := by decide +kernel
theorem dX10_charge_30 : decode cX10_charge 30 = .ok (.goto 4, 3) := by decide +kernel
theorem dX10_charge_33 : decode cX10_charge 33 = .ok (.iconst 0, 1) := by decide +kernel
theorem dX10_charge_34 : decode cX10_charge 34 = .ok (.iadd, 1) := by decide +kernel
theorem dX10_charge_35 : decode cX10_charge 35 = .ok (.iastore, 1) := by decide +kernel
theorem dX10_charge_36 : decode cX10_charge 36 = .ok (.aload_n 0, 1) := by decide +kernel
theorem dX10_charge_37 : decode cX10_charge 37 = .ok (.getfield 7, 3) := by decide +kernel
theorem dX10_charge_40 : decode cX10_charge 40 = .ok (.sipush 200, 3) := by decide +kernel
theorem dX10_charge_43 : decode cX10_charge 43 = .ok (.dup2, 1) := by decide +kernel
theorem dX10_charge_44 : decode cX10_charge 44 = .ok (.iaload, 1) := by decide +kernel
theorem dX10_charge_45 : decode cX10_charge 45 = .ok (.iload_n 2, 1) := by decide +kernel
theorem dX10_charge_46 : decode cX10_charge 46 = .ok (.iconst 5, 1) := by decide +kernel
theorem dX10_charge_47 : decode cX10_charge 47 = .ok (.if_icmp .ne 7, 3) := by decide +kernel
theorem dX10_charge_50 : decode cX10_charge 50 = .ok (.iload_n 3, 1) := by decide +kernel
theorem dX10_charge_51 : decode cX10_charge 51 = .ok (.goto 4, 3) := by decide +kernel
theorem dX10_charge_54 : decode cX10_charge 54 = .ok (.iconst 0, 1) := by decide +kernel
theorem dX10_charge_55 : decode cX10_charge 55 = .ok (.iadd, 1) := by decide +kernel
theorem dX10_charge_56 : decode cX10_charge 56 = .ok (.iastore, 1) := by decide +kernel
theorem dX10_charge_57 : decode cX10_charge 57 = .ok (.aload_n 0, 1) := by decide +kernel
theorem dX10_charge_58 : decode cX10_charge 58 = .ok (.getfield 7, 3) := by decide +kernel
theorem dX10_charge_61 : decode cX10_charge 61 = .ok (.sipush 198, 3) := by decide +kernel
theorem dX10_charge_64 : decode cX10_charge 64 = .ok (.dup2, 1) := by decide +kernel
theorem dX10_charge_65 : decode cX10_charge 65 = .ok (.iaload, 1) := by decide +kernel
theorem dX10_charge_66 : decode cX10_charge 66 = .ok (.iload_n 2, 1) := by decide +kernel
theorem dX10_charge_67 : decode cX10_charge 67 = .ok (.bipush 7, 2) := by decide +kernel
theorem dX10_charge_69 : decode cX10_charge 69 = .ok (.if_icmp .ne 7, 3) := by decide +kernel
theorem dX10_charge_72 : decode cX10_charge 72 = .ok (.iload_n 3, 1) := by decide +kernel
theorem dX10_charge_73 : decode cX10_charge 73 = .ok (.goto 4, 3) := by decide +kernel
theorem dX10_charge_76 : decode cX10_charge 76 = .ok (.iconst 0, 1) := by decide +kernel
theorem dX10_charge_77 : decode cX10_charge 77 = .ok (.iadd, 1) := by decide +kernel
theorem dX10_charge_78 : decode cX10_charge 78 = .ok (.iastore, 1) := by decide +kernel
theorem dX10_charge_79 : decode cX10_charge 79 = .ok (.aload_n 0, 1) := by decide +kernel
theorem dX10_charge_80 : decode cX10_charge 80 = .ok (.iload_n 1, 1) := by decide +kernel
theorem dX10_charge_81 : decode cX10_charge 81 = .ok (.iload_n 2, 1) := by decide +kernel
theorem dX10_charge_82 : decode cX10_charge 82 = .ok (.iconst 5, 1) := by decide +kernel
theorem dX10_charge_83 : decode cX10_charge 83 = .ok (.isub, 1) := by decide +kernel
theorem dX10_charge_84 : decode cX10_charge 84 = .ok (.iload_n 3, 1) := by decide +kernel
theorem dX10_charge_85 : decode cX10_charge 85 = .ok (.invokevirtual 57, 3) := by decide +kernel
theorem dX10_charge_88 : decode cX10_charge 88 = .ok (.return_, 1) := by decide +kernel
theorem dX10_pay_0 : decode cX10_pay 0 = .ok (.aload_n 0, 1) := by decide +kernel
theorem dX10_pay_1 : decode cX10_pay 1 = .ok (.iload_n 1, 1) := by decide +kernel
theorem dX10_pay_2 : decode cX10_pay 2 = .ok (.bipush 9, 2) := by decide +kernel
theorem dX10_pay_4 : decode cX10_pay 4 = .ok (.aload_n 0, 1) := by decide +kernel
theorem dX10_pay_5 : decode cX10_pay 5 = .ok (.iload_n 1, 1) := by decide +kernel
theorem dX10_pay_6 : decode cX10_pay 6 = .ok (.bipush 9, 2) := by decide +kernel
theorem dX10_pay_8 : decode cX10_pay 8 = .ok (.invokevirtual 29, 3) := by decide +kernel
theorem dX10_pay_11 : decode cX10_pay 11 = .ok (.iload_n 2, 1) := by decide +kernel
theorem dX10_pay_12 : decode cX10_pay 12 = .ok (.iadd, 1) := by decide +kernel
theorem dX10_pay_13 : decode cX10_pay 13 = .ok (.invokevirtual 53, 3) := by decide +kernel
theorem dX10_pay_16 : decode cX10_pay 16 = .ok (.aload_n 0, 1) := by decide +kernel
theorem dX10_pay_17 : decode cX10_pay 17 = .ok (.getfield 7, 3) := by decide +kernel
theorem dX10_pay_20 : decode cX10_pay 20 = .ok (.sipush 199, 3) := by decide +kernel
theorem dX10_pay_23 : decode cX10_pay 23 = .ok (.dup2, 1) := by decide +kernel
theorem dX10_pay_24 : decode cX10_pay 24 = .ok (.iaload, 1) := by decide +kernel
theorem dX10_pay_25 : decode cX10_pay 25 = .ok (.iload_n 2, 1) := by decide +kernel
theorem dX10_pay_26 : decode cX10_pay 26 = .ok (.iadd, 1) := by decide +kernel
theorem dX10_pay_27 : decode cX10_pay 27 = .ok (.iastore, 1) := by decide +kernel
theorem dX10_pay_28 : decode cX10_pay 28 = .ok (.aload_n 0, 1) := by decide +kernel
theorem dX10_pay_29 : decode cX10_pay 29 = .ok (.iload_n 2, 1) := by decide +kernel
theorem dX10_pay_30 : decode cX10_pay 30 = .ok (.invokevirtual 60, 3) := by decide +kernel
theorem dX10_pay_33 : decode cX10_pay 33 = .ok (.aload_n 0, 1) := by decide +kernel
theorem dX10_pay_34 : decode cX10_pay 34 = .ok (.iload_n 1, 1) := by decide +kernel
theorem dX10_pay_35 : decode cX10_pay 35 = .ok (.iconst 3, 1) := by decide +kernel
theorem dX10_pay_36 : decode cX10_pay 36 = .ok (.iload_n 2, 1) := by decide +kernel
theorem dX10_pay_37 : decode cX10_pay 37 = .ok (.invokevirtual 57, 3) := by decide +kernel
theorem dX10_pay_40 : decode cX10_pay 40 = .ok (.return_, 1) := by decide +kernel
theorem dX10_clear_0 : decode cX10_clear 0 = .ok (.iconst 3, 1) := by decide +kernel
theorem dX10_clear_1 : decode cX10_clear 1 = .ok (.istore_n 2, 1) := by decide +kernel
theorem dX10_clear_2 : decode cX10_clear 2 = .ok (.iload_n 2, 1) := by decide +kernel
theorem dX10_clear_3 : decode cX10_clear 3 = .ok (.bipush 8, 2) := by decide +kernel
theorem dX10_clear_5 : decode cX10_clear 5 = .ok (.if_icmp .gt 16, 3) := by decide +kernel
theorem dX10_clear_8 : decode cX10_clear 8 = .ok (.aload_n 0, 1) := by decide +kernel
theorem dX10_clear_9 : decode cX10_clear 9 = .ok (.iload_n 1, 1) := by decide +kernel
theorem dX10_clear_10 : decode cX10_clear 10 = .ok (.iload_n 2, 1) := by decide +kernel
theorem dX10_clear_11 : decode cX10_clear 11 = .ok (.iconst 0, 1) := by decide +kernel
theorem dX10_clear_12 : decode cX10_clear 12 = .ok (.invokevirtual 53, 3) := by decide +kernel
theorem dX10_clear_15 : decode cX10_clear 15 = .ok (.iinc 2 1, 3) := by decide +kernel
theorem dX10_clear_18 : decode cX10_clear 18 = .ok (.goto (-16), 3) := by decide +kernel
theorem dX10_clear_21 : decode cX10_clear 21 = .ok (.return_, 1) := by decide +kernel
theorem dX10_noSign_0 : decode cX10_noSign 0 = .ok (.iload_n 1, 1) := by decide +kernel
theorem dX10_noSign_1 : decode cX10_noSign 1 = .ok (.iconst 0, 1) := by decide +kernel
theorem dX10_noSign_2 : decode cX10_noSign 2 = .ok (.iconst 3, 1) := by decide +kernel
theorem dX10_noSign_3 : decode cX10_noSign 3 = .ok (.invokestatic 25, 3) := by decide +kernel
theorem dX10_noSign_6 : decode cX10_noSign 6 = .ok (.ifCond .eq 12, 3) := by decide +kernel
theorem dX10_noSign_9 : decode cX10_noSign 9 = .ok (.iload_n 2, 1) := by decide +kernel
theorem dX10_noSign_10 : decode cX10_noSign 10 = .ok (.iconst 0, 1) := by decide +kernel
theorem dX10_noSign_11 : decode cX10_noSign 11 = .ok (.iconst 1, 1) := by decide +kernel
theorem dX10_noSign_12 : decode cX10_noSign 12 = .ok (.invokestatic 25, 3) := by decide +kernel
theorem dX10_noSign_15 : decode cX10_noSign 15 = .ok (.ifCond .ne 6, 3) := by decide +kernel
theorem dX10_noSign_18 : decode cX10_noSign 18 = .ok (.ldc 64, 2) := by decide +kernel
theorem dX10_noSign_20 : decode cX10_noSign 20 = .ok (.ireturn, 1) := by decide +kernel
theorem dX10_noSign_21 : decode cX10_noSign 21 = .ok (.aload_n 0, 1) := by decide +kernel
theorem dX10_noSign_22 : decode cX10_noSign 22 = .ok (.invokevirtual 65, 3) := by decide +kernel
theorem dX10_noSign_25 : decode cX10_noSign 25 = .ok (.ifCond .eq 8, 3) := by decide +kernel
theorem dX10_noSign_28 : decode cX10_noSign 28 = .ok (.ldc 37, 2) := by decide +kernel
theorem dX10_noSign_30 : decode cX10_noSign 30 = .ok (.goto 22, 3) := by decide +kernel
theorem dX10_noSign_33 : decode cX10_noSign 33 = .ok (.aload_n 0, 1) := by decide +kernel
theorem dX10_noSign_34 : decode cX10_noSign 34 = .ok (.getfield 7, 3) := by decide +kernel
theorem dX10_noSign_37 : decode cX10_noSign 37 = .ok (.sipush 194, 3) := by decide +kernel
theorem dX10_noSign_40 : decode cX10_noSign 40 = .ok (.iaload, 1) := by decide +kernel
theorem dX10_noSign_41 : decode cX10_noSign 41 = .ok (.bipush 16, 2) := by decide +kernel
theorem dX10_noSign_43 : decode cX10_noSign 43 = .ok (.if_icmp .ne 8, 3) := by decide +kernel
theorem dX10_noSign_46 : decode cX10_noSign 46 = .ok (.ldc 69, 2) := by decide +kernel
theorem dX10_noSign_48 : decode cX10_noSign 48 = .ok (.goto 4, 3) := by decide +kernel
theorem dX10_noSign_51 : decode cX10_noSign 51 = .ok (.iconst 0, 1) := by decide +kernel
theorem dX10_noSign_52 : decode cX10_noSign 52 = .ok (.ireturn, 1) := by decide +kernel
theorem dX10_doSign_0 : decode cX10_doSign 0 = .ok (.aload_n 0, 1) := by decide +kernel
theorem dX10_doSign_1 : decode cX10_doSign 1 = .ok (.getfield 7, 3) := by decide +kernel
theorem dX10_doSign_4 : decode cX10_doSign 4 = .ok (.sipush 194, 3) := by decide +kernel
theorem dX10_doSign_7 : decode cX10_doSign 7 = .ok (.iaload, 1) := by decide +kernel
theorem dX10_doSign_8 : decode cX10_doSign 8 = .ok (.istore_n 3, 1) := by decide +kernel
theorem dX10_doSign_9 : decode cX10_doSign 9 = .ok (.aload_n 0, 1) := by decide +kernel
theorem dX10_doSign_10 : decode cX10_doSign 10 = .ok (.getfield 7, 3) := by decide +kernel
theorem dX10_doSign_13 : decode cX10_doSign 13 = .ok (.sipush 194, 3) := by decide +kernel
theorem dX10_doSign_16 : decode cX10_doSign 16 = .ok (.dup2, 1) := by decide +kernel
theorem dX10_doSign_17 : decode cX10_doSign 17 = .ok (.iaload, 1) := by decide +kernel
theorem dX10_doSign_18 : decode cX10_doSign 18 = .ok (.iconst 1, 1) := by decide +kernel
theorem dX10_doSign_19 : decode cX10_doSign 19 = .ok (.iadd, 1) := by decide +kernel
theorem dX10_doSign_20 : decode cX10_doSign 20 = .ok (.iastore, 1) := by decide +kernel
theorem dX10_doSign_21 : decode cX10_doSign 21 = .ok (.aload_n 0, 1) := by decide +kernel
theorem dX10_doSign_22 : decode cX10_doSign 22 = .ok (.iload_n 3, 1) := by decide +kernel
theorem dX10_doSign_23 : decode cX10_doSign 23 = .ok (.invokevirtual 70, 3) := by decide +kernel
theorem dX10_doSign_26 : decode cX10_doSign 26 = .ok (.aload_n 0, 1) := by decide +kernel
theorem dX10_doSign_27 : decode cX10_doSign 27 = .ok (.iload_n 3, 1) := by decide +kernel
theorem dX10_doSign_28 : decode cX10_doSign 28 = .ok (.iconst 0, 1) := by decide +kernel
theorem dX10_doSign_29 : decode cX10_doSign 29 = .ok (.iload_n 1, 1) := by decide +kernel
theorem dX10_doSign_30 : decode cX10_doSign 30 = .ok (.invokevirtual 53, 3) := by decide +kernel
theorem dX10_doSign_33 : decode cX10_doSign 33 = .ok (.aload_n 0, 1) := by decide +kernel
theorem dX10_doSign_34 : decode cX10_doSign 34 = .ok (.iload_n 3, 1) := by decide +kernel
theorem dX10_doSign_35 : decode cX10_doSign 35 = .ok (.iconst 1, 1) := by decide +kernel
theorem dX10_doSign_36 : decode cX10_doSign 36 = .ok (.iload_n 2, 1) := by decide +kernel
theorem dX10_doSign_37 : decode cX10_doSign 37 = .ok (.invokevirtual 53, 3) := by decide +kernel
theorem dX10_doSign_40 : decode cX10_doSign 40 = .ok (.aload_n 0, 1) := by decide +kernel
theorem dX10_doSign_41 : decode cX10_doSign 41 = .ok (.iload_n 3, 1) := by decide +kernel
theorem dX10_doSign_42 : decode cX10_doSign 42 = .ok (.iconst 2, 1) := by decide +kernel
theorem dX10_doSign_43 : decode cX10_doSign 43 = .ok (.iconst 0, 1) := by decide +kernel
theorem dX10_doSign_44 : decode cX10_doSign 44 = .ok (.invokevirtual 53, 3) := by decide +kernel
theorem dX10_doSign_47 : decode cX10_doSign 47 = .ok (.aload_n 0, 1) := by decide +kernel
theorem dX10_doSign_48 : decode cX10_doSign 48 = .ok (.iload_n 3, 1) := by decide +kernel
theorem dX10_doSign_49 : decode cX10_doSign 49 = .ok (.bipush 9, 2) := by decide +kernel
theorem dX10_doSign_51 : decode cX10_doSign 51 = .ok (.iconst 0, 1) := by decide +kernel
theorem dX10_doSign_52 : decode cX10_doSign 52 = .ok (.invokevirtual 53, 3) := by decide +kernel
theorem dX10_doSign_55 : decode cX10_doSign 55 = .ok (.iload_n 3, 1) := by decide +kernel
theorem dX10_doSign_56 : decode cX10_doSign 56 = .ok (.ireturn, 1) := by decide +kernel
theorem dX10_sign_0 : decode cX10_sign 0 = .ok (.aload_n 0, 1) := by decide +kernel
theorem dX10_sign_1 : decode cX10_sign 1 = .ok (.iload_n 1, 1) := by decide +kernel
theorem dX10_sign_2 : decode cX10_sign 2 = .ok (.iload_n 2, 1) := by decide +kernel
theorem dX10_sign_3 : decode cX10_sign 3 = .ok (.invokevirtual 73, 3) := by decide +kernel
theorem dX10_sign_6 : decode cX10_sign 6 = .ok (.istore_n 3, 1) := by decide +kernel
theorem dX10_sign_7 : decode cX10_sign 7 = .ok (.iload_n 3, 1) := by decide +kernel
theorem dX10_sign_8 : decode cX10_sign 8 = .ok (.ifCond .ge 5, 3) := by decide +kernel
theorem dX10_sign_11 : decode cX10_sign 11 = .ok (.iload_n 3, 1) := by decide +kernel
theorem dX10_sign_12 : decode cX10_sign 12 = .ok (.ireturn, 1) := by decide +kernel
theorem dX10_sign_13 : decode cX10_sign 13 = .ok (.aload_n 0, 1) := by decide +kernel
theorem dX10_sign_14 : decode cX10_sign 14 = .ok (.aload_n 0, 1) := by decide +kernel
theorem dX10_sign_15 : decode cX10_sign 15 = .ok (.getfield 7, 3) := by decide +kernel
theorem dX10_sign_18 : decode cX10_sign 18 = .ok (.invokevirtual 76, 3) := by decide +kernel
theorem dX10_sign_21 : decode cX10_sign 21 = .ok (.aload_n 0, 1) := by decide +kernel
theorem dX10_sign_22 : decode cX10_sign 22 = .ok (.iload_n 1, 1) := by decide +kernel
theorem dX10_sign_23 : decode cX10_sign 23 = .ok (.iload_n 2, 1) := by decide +kernel
theorem dX10_sign_24 : decode cX10_sign 24 = .ok (.invokevirtual 80, 3) := by decide +kernel
theorem dX10_sign_27 : decode cX10_sign 27 = .ok (.ireturn, 1) := by decide +kernel
theorem dX10_noStock_0 : decode cX10_noStock 0 = .ok (.iload_n 1, 1) := by decide +kernel
theorem dX10_noStock_1 : decode cX10_noStock 1 = .ok (.invokestatic 83, 3) := by decide +kernel
theorem dX10_noStock_4 : decode cX10_noStock 4 = .ok (.ifCond .eq 23, 3) := by decide +kernel
theorem dX10_noStock_7 : decode cX10_noStock 7 = .ok (.iload_n 2, 1) := by decide +kernel
theorem dX10_noStock_8 : decode cX10_noStock 8 = .ok (.iconst 1, 1) := by decide +kernel
theorem dX10_noStock_9 : decode cX10_noStock 9 = .ok (.bipush 99, 2) := by decide +kernel
theorem dX10_noStock_11 : decode cX10_noStock 11 = .ok (.invokestatic 25, 3) := by decide +kernel
theorem dX10_noStock_14 : decode cX10_noStock 14 = .ok (.ifCond .eq 13, 3) := by decide +kernel
theorem dX10_noStock_17 : decode cX10_noStock 17 = .ok (.iload_n 3, 1) := by decide +kernel
theorem dX10_noStock_18 : decode cX10_noStock 18 = .ok (.iconst 1, 1) := by decide +kernel
theorem dX10_noStock_19 : decode cX10_noStock 19 = .ok (.bipush 99, 2) := by decide +kernel
theorem dX10_noStock_21 : decode cX10_noStock 21 = .ok (.invokestatic 25, 3) := by decide +kernel
theorem dX10_noStock_24 : decode cX10_noStock 24 = .ok (.ifCond .ne 6, 3) := by decide +kernel
theorem dX10_noStock_27 : decode cX10_noStock 27 = .ok (.ldc 64, 2) := by decide +kernel
theorem dX10_noStock_29 : decode cX10_noStock 29 = .ok (.ireturn, 1) := by decide +kernel
theorem dX10_noStock_30 : decode cX10_noStock 30 = .ok (.aload_n 0, 1) := by decide +kernel
theorem dX10_noStock_31 : decode cX10_noStock 31 = .ok (.invokevirtual 65, 3) := by decide +kernel
theorem dX10_noStock_34 : decode cX10_noStock 34 = .ok (.ifCond .eq 8, 3) := by decide +kernel
theorem dX10_noStock_37 : decode cX10_noStock 37 = .ok (.ldc 37, 2) := by decide +kernel
theorem dX10_noStock_39 : decode cX10_noStock 39 = .ok (.goto 23, 3) := by decide +kernel
theorem dX10_noStock_42 : decode cX10_noStock 42 = .ok (.aload_n 0, 1) := by decide +kernel
theorem dX10_noStock_43 : decode cX10_noStock 43 = .ok (.iload_n 1, 1) := by decide +kernel
theorem dX10_noStock_44 : decode cX10_noStock 44 = .ok (.iconst 0, 1) := by decide +kernel
theorem dX10_noStock_45 : decode cX10_noStock 45 = .ok (.invokevirtual 86, 3) := by decide +kernel
theorem dX10_noStock_48 : decode cX10_noStock 48 = .ok (.iload_n 2, 1) := by decide +kernel
theorem dX10_noStock_49 : decode cX10_noStock 49 = .ok (.iadd, 1) := by decide +kernel
theorem dX10_noStock_50 : decode cX10_noStock 50 = .ok (.sipush 500, 3) := by decide +kernel
theorem dX10_noStock_53 : decode cX10_noStock 53 = .ok (.if_icmp .le 8, 3) := by decide +kernel
theorem dX10_noStock_56 : decode cX10_noStock 56 = .ok (.ldc 69, 2) := by decide +kernel
theorem dX10_noStock_58 : decode cX10_noStock 58 = .ok (.goto 4, 3) := by decide +kernel
theorem dX10_noStock_61 : decode cX10_noStock 61 = .ok (.iconst 0, 1) := by decide +kernel
theorem dX10_noStock_62 : decode cX10_noStock 62 = .ok (.ireturn, 1) := by decide +kernel
theorem dX10_doStock_0 : decode cX10_doStock 0 = .ok (.sipush 160, 3) := by decide +kernel
theorem dX10_doStock_3 : decode cX10_doStock 3 = .ok (.iconst 5, 1) := by decide +kernel
theorem dX10_doStock_4 : decode cX10_doStock 4 = .ok (.iload_n 1, 1) := by decide +kernel
theorem dX10_doStock_5 : decode cX10_doStock 5 = .ok (.imul, 1) := by decide +kernel
theorem dX10_doStock_6 : decode cX10_doStock 6 = .ok (.iadd, 1) := by decide +kernel
theorem dX10_doStock_7 : decode cX10_doStock 7 = .ok (.istore 4, 2) := by decide +kernel
theorem dX10_doStock_9 : decode cX10_doStock 9 = .ok (.aload_n 0, 1) := by decide +kernel
theorem dX10_doStock_10 : decode cX10_doStock 10 = .ok (.getfield 7, 3) := by decide +kernel
theorem dX10_doStock_13 : decode cX10_doStock 13 = .ok (.iload 4, 2) := by decide +kernel
theorem dX10_doStock_15 : decode cX10_doStock 15 = .ok (.iconst 0, 1) := by decide +kernel
theorem dX10_doStock_16 : decode cX10_doStock 16 = .ok (.iadd, 1) := by decide +kernel
theorem dX10_doStock_17 : decode cX10_doStock 17 = .ok (.dup2, 1) := by decide +kernel
theorem dX10_doStock_18 : decode cX10_doStock 18 = .ok (.iaload, 1) := by decide +kernel
theorem dX10_doStock_19 : decode cX10_doStock 19 = .ok (.iload_n 2, 1) := by decide +kernel
theorem dX10_doStock_20 : decode cX10_doStock 20 = .ok (.iadd, 1) := by decide +kernel
theorem dX10_doStock_21 : decode cX10_doStock 21 = .ok (.iastore, 1) := by decide +kernel
theorem dX10_doStock_22 : decode cX10_doStock 22 = .ok (.aload_n 0, 1) := by decide +kernel
theorem dX10_doStock_23 : decode cX10_doStock 23 = .ok (.getfield 7, 3) := by decide +kernel
theorem dX10_doStock_26 : decode cX10_doStock 26 = .ok (.iload 4, 2) := by decide +kernel
theorem dX10_doStock_28 : decode cX10_doStock 28 = .ok (.iconst 2, 1) := by decide +kernel
theorem dX10_doStock_29 : decode cX10_doStock 29 = .ok (.iadd, 1) := by decide +kernel
theorem dX10_doStock_30 : decode cX10_doStock 30 = .ok (.dup2, 1) := by decide +kernel
theorem dX10_doStock_31 : decode cX10_doStock 31 = .ok (.iaload, 1) := by decide +kernel
theorem dX10_doStock_32 : decode cX10_doStock 32 = .ok (.iload_n 2, 1) := by decide +kernel
theorem dX10_doStock_33 : decode cX10_doStock 33 = .ok (.iadd, 1) := by decide +kernel
theorem dX10_doStock_34 : decode cX10_doStock 34 = .ok (.iastore, 1) := by decide +kernel
theorem dX10_doStock_35 : decode cX10_doStock 35 = .ok (.aload_n 0, 1) := by decide +kernel
theorem dX10_doStock_36 : decode cX10_doStock 36 = .ok (.getfield 7, 3) := by decide +kernel
theorem dX10_doStock_39 : decode cX10_doStock 39 = .ok (.iload 4, 2) := by decide +kernel
theorem dX10_doStock_41 : decode cX10_doStock 41 = .ok (.iconst 1, 1) := by decide +kernel
theorem dX10_doStock_42 : decode cX10_doStock 42 = .ok (.iadd, 1) := by decide +kernel
theorem dX10_doStock_43 : decode cX10_doStock 43 = .ok (.iload_n 3, 1) := by decide +kernel
theorem dX10_doStock_44 : decode cX10_doStock 44 = .ok (.iload_n 3, 1) := by decide +kernel
theorem dX10_doStock_45 : decode cX10_doStock 45 = .ok (.aload_n 0, 1) := by decide +kernel
theorem dX10_doStock_46 : decode cX10_doStock 46 = .ok (.getfield 7, 3) := by decide +kernel
theorem dX10_doStock_49 : decode cX10_doStock 49 = .ok (.sipush 204, 3) := by decide +kernel
theorem dX10_doStock_52 : decode cX10_doStock 52 = .ok (.iaload, 1) := by decide +kernel
theorem dX10_doStock_53 : decode cX10_doStock 53 = .ok (.imul, 1) := by decide +kernel
theorem dX10_doStock_54 : decode cX10_doStock 54 = .ok (.bipush 100, 2) := by decide +kernel
theorem dX10_doStock_56 : decode cX10_doStock 56 = .ok (.idiv, 1) := by decide +kernel
theorem dX10_doStock_57 : decode cX10_doStock 57 = .ok (.iadd, 1) := by decide +kernel
theorem dX10_doStock_58 : decode cX10_doStock 58 = .ok (.iastore, 1) := by decide +kernel
theorem dX10_doStock_59 : decode cX10_doStock 59 = .ok (.aload_n 0, 1) := by decide +kernel
theorem dX10_doStock_60 : decode cX10_doStock 60 = .ok (.getfield 7, 3) := by decide +kernel
theorem dX10_doStock_63 : decode cX10_doStock 63 = .ok (.sipush 197, 3) := by decide +kernel
theorem dX10_doStock_66 : decode cX10_doStock 66 = .ok (.dup2, 1) := by decide +kernel
theorem dX10_doStock_67 : decode cX10_doStock 67 = .ok (.iaload, 1) := by decide +kernel
theorem dX10_doStock_68 : decode cX10_doStock 68 = .ok (.iload_n 2, 1) := by decide +kernel
theorem dX10_doStock_69 : decode cX10_doStock 69 = .ok (.iload_n 3, 1) := by decide +kernel
theorem dX10_doStock_70 : decode cX10_doStock 70 = .ok (.imul, 1) := by decide +kernel
theorem dX10_doStock_71 : decode cX10_doStock 71 = .ok (.iadd, 1) := by decide +kernel
theorem dX10_doStock_72 : decode cX10_doStock 72 = .ok (.iastore, 1) := by decide +kernel
theorem dX10_doStock_73 : decode cX10_doStock 73 = .ok (.aload_n 0, 1) := by decide +kernel
theorem dX10_doStock_74 : decode cX10_doStock 74 = .ok (.iload_n 2, 1) := by decide +kernel
theorem dX10_doStock_75 : decode cX10_doStock 75 = .ok (.iload_n 3, 1) := by decide +kernel
theorem dX10_doStock_76 : decode cX10_doStock 76 = .ok (.imul, 1) := by decide +kernel
theorem dX10_doStock_77 : decode cX10_doStock 77 = .ok (.invokevirtual 60, 3) := by decide +kernel
theorem dX10_doStock_80 : decode cX10_doStock 80 = .ok (.aload_n 0, 1) := by decide +kernel
theorem dX10_doStock_81 : decode cX10_doStock 81 = .ok (.getfield 7, 3) := by decide +kernel
theorem dX10_doStock_84 : decode cX10_doStock 84 = .ok (.iload 4, 2) := by decide +kernel
theorem dX10_doStock_86 : decode cX10_doStock 86 = .ok (.iconst 1, 1) := by decide +kernel
theorem dX10_doStock_87 : decode cX10_doStock 87 = .ok (.iadd, 1) := by decide +kernel
theorem dX10_doStock_88 : decode cX10_doStock 88 = .ok (.iaload, 1) := by decide +kernel
theorem dX10_doStock_89 : decode cX10_doStock 89 = .ok (.ireturn, 1) := by decide +kernel
theorem dX10_stock_0 : decode cX10_stock 0 = .ok (.aload_n 0, 1) := by decide +kernel
theorem dX10_stock_1 : decode cX10_stock 1 = .ok (.iload_n 1, 1) := by decide +kernel
theorem dX10_stock_2 : decode cX10_stock 2 = .ok (.iload_n 2, 1) := by decide +kernel
theorem dX10_stock_3 : decode cX10_stock 3 = .ok (.iload_n 3, 1) := by decide +kernel
theorem dX10_stock_4 : decode cX10_stock 4 = .ok (.invokevirtual 89, 3) := by decide +kernel
theorem dX10_stock_7 : decode cX10_stock 7 = .ok (.istore 4, 2) := by decide +kernel
theorem dX10_stock_9 : decode cX10_stock 9 = .ok (.iload 4, 2) := by decide +kernel
theorem dX10_stock_11 : decode cX10_stock 11 = .ok (.ifCond .ge 6, 3) := by decide +kernel
theorem dX10_stock_14 : decode cX10_stock 14 = .ok (.iload 4, 2) := by decide +kernel
theorem dX10_stock_16 : decode cX10_stock 16 = .ok (.ireturn, 1) := by decide +kernel
theorem dX10_stock_17 : decode cX10_stock 17 = .ok (.aload_n 0, 1) := by decide +kernel
theorem dX10_stock_18 : decode cX10_stock 18 = .ok (.aload_n 0, 1) := by decide +kernel
theorem dX10_stock_19 : decode cX10_stock 19 = .ok (.getfield 7, 3) := by decide +kernel
theorem dX10_stock_22 : decode cX10_stock 22 = .ok (.invokevirtual 76, 3) := by decide +kernel
theorem dX10_stock_25 : decode cX10_stock 25 = .ok (.aload_n 0, 1) := by decide +kernel
theorem dX10_stock_26 : decode cX10_stock 26 = .ok (.iload_n 1, 1) := by decide +kernel
theorem dX10_stock_27 : decode cX10_stock 27 = .ok (.iload_n 2, 1) := by decide +kernel
theorem dX10_stock_28 : decode cX10_stock 28 = .ok (.iload_n 3, 1) := by decide +kernel
theorem dX10_stock_29 : decode cX10_stock 29 = .ok (.invokevirtual 92, 3) := by decide +kernel
theorem dX10_stock_32 : decode cX10_stock 32 = .ok (.ireturn, 1) := by decide +kernel
theorem dX10_whyNot_0 : decode cX10_whyNot 0 = .ok (.aload_n 0, 1) := by decide +kernel
theorem dX10_whyNot_1 : decode cX10_whyNot 1 = .ok (.iload_n 1, 1) := by decide +kernel
theorem dX10_whyNot_2 : decode cX10_whyNot 2 = .ok (.iconst 2, 1) := by decide +kernel
theorem dX10_whyNot_3 : decode cX10_whyNot 3 = .ok (.invokevirtual 29, 3) := by decide +kernel
theorem dX10_whyNot_6 : decode cX10_whyNot 6 = .ok (.ifCond .eq 5, 3) := by decide +kernel
theorem dX10_whyNot_9 : decode cX10_whyNot 9 = .ok (.iconst 1, 1) := by decide +kernel
theorem dX10_whyNot_10 : decode cX10_whyNot 10 = .ok (.ireturn, 1) := by decide +kernel
theorem dX10_whyNot_11 : decode cX10_whyNot 11 = .ok (.aload_n 0, 1) := by decide +kernel
theorem dX10_whyNot_12 : decode cX10_whyNot 12 = .ok (.iload_n 2, 1) := by decide +kernel
theorem dX10_whyNot_13 : decode cX10_whyNot 13 = .ok (.iconst 0, 1) := by decide +kernel
theorem dX10_whyNot_14 : decode cX10_whyNot 14 = .ok (.invokevirtual 86, 3) := by decide +kernel
theorem dX10_whyNot_17 : decode cX10_whyNot 17 = .ok (.iload_n 3, 1) := by decide +kernel
theorem dX10_whyNot_18 : decode cX10_whyNot 18 = .ok (.if_icmp .ge 5, 3) := by decide +kernel
theorem dX10_whyNot_21 : decode cX10_whyNot 21 = .ok (.iconst 2, 1) := by decide +kernel
theorem dX10_whyNot_22 : decode cX10_whyNot 22 = .ok (.ireturn, 1) := by decide +kernel
theorem dX10_whyNot_23 : decode cX10_whyNot 23 = .ok (.aload_n 0, 1) := by decide +kernel
theorem dX10_whyNot_24 : decode cX10_whyNot 24 = .ok (.iload_n 1, 1) := by decide +kernel
theorem dX10_whyNot_25 : decode cX10_whyNot 25 = .ok (.invokevirtual 95, 3) := by decide +kernel
theorem dX10_whyNot_28 : decode cX10_whyNot 28 = .ok (.iload_n 3, 1) := by decide +kernel
theorem dX10_whyNot_29 : decode cX10_whyNot 29 = .ok (.aload_n 0, 1) := by decide +kernel
theorem dX10_whyNot_30 : decode cX10_whyNot 30 = .ok (.iload_n 2, 1) := by decide +kernel
theorem dX10_whyNot_31 : decode cX10_whyNot 31 = .ok (.iconst 1, 1) := by decide +kernel
theorem dX10_whyNot_32 : decode cX10_whyNot 32 = .ok (.invokevirtual 86, 3) := by decide +kernel
theorem dX10_whyNot_35 : decode cX10_whyNot 35 = .ok (.imul, 1) := by decide +kernel
theorem dX10_whyNot_36 : decode cX10_whyNot 36 = .ok (.isub, 1) := by decide +kernel
theorem dX10_whyNot_37 : decode cX10_whyNot 37 = .ok (.aload_n 0, 1) := by decide +kernel
theorem dX10_whyNot_38 : decode cX10_whyNot 38 = .ok (.getfield 7, 3) := by decide +kernel
theorem dX10_whyNot_41 : decode cX10_whyNot 41 = .ok (.sipush 203, 3) := by decide +kernel
theorem dX10_whyNot_44 : decode cX10_whyNot 44 = .ok (.iaload, 1) := by decide +kernel
theorem dX10_whyNot_45 : decode cX10_whyNot 45 = .ok (.ineg, 1) := by decide +kernel
theorem dX10_whyNot_46 : decode cX10_whyNot 46 = .ok (.if_icmp .ge 7, 3) := by decide +kernel
theorem dX10_whyNot_49 : decode cX10_whyNot 49 = .ok (.iconst 3, 1) := by decide +kernel
theorem dX10_whyNot_50 : decode cX10_whyNot 50 = .ok (.goto 4, 3) := by decide +kernel
theorem dX10_whyNot_53 : decode cX10_whyNot 53 = .ok (.iconst 0, 1) := by decide +kernel
theorem dX10_whyNot_54 : decode cX10_whyNot 54 = .ok (.ireturn, 1) := by decide +kernel
theorem dX10_noSell_0 : decode cX10_noSell 0 = .ok (.aload_n 0, 1) := by decide +kernel
theorem dX10_noSell_1 : decode cX10_noSell 1 = .ok (.iload_n 1, 1) := by decide +kernel
theorem dX10_noSell_2 : decode cX10_noSell 2 = .ok (.invokevirtual 98, 3) := by decide +kernel
theorem dX10_noSell_5 : decode cX10_noSell 5 = .ok (.ifCond .eq 20, 3) := by decide +kernel
theorem dX10_noSell_8 : decode cX10_noSell 8 = .ok (.iload_n 2, 1) := by decide +kernel
theorem dX10_noSell_9 : decode cX10_noSell 9 = .ok (.invokestatic 83, 3) := by decide +kernel
theorem dX10_noSell_12 : decode cX10_noSell 12 = .ok (.ifCond .eq 13, 3) := by decide +kernel
theorem dX10_noSell_15 : decode cX10_noSell 15 = .ok (.iload_n 3, 1) := by decide +kernel
theorem dX10_noSell_16 : decode cX10_noSell 16 = .ok (.iconst 1, 1) := by decide +kernel
theorem dX10_noSell_17 : decode cX10_noSell 17 = .ok (.bipush 99, 2) := by decide +kernel
theorem dX10_noSell_19 : decode cX10_noSell 19 = .ok (.invokestatic 25, 3) := by decide +kernel
theorem dX10_noSell_22 : decode cX10_noSell 22 = .ok (.ifCond .ne 6, 3) := by decide +kernel
theorem dX10_noSell_25 : decode cX10_noSell 25 = .ok (.ldc 64, 2) := by decide +kernel
theorem dX10_noSell_27 : decode cX10_noSell 27 = .ok (.ireturn, 1) := by decide +kernel
theorem dX10_noSell_28 : decode cX10_noSell 28 = .ok (.aload_n 0, 1) := by decide +kernel
theorem dX10_noSell_29 : decode cX10_noSell 29 = .ok (.iload_n 1, 1) := by decide +kernel
theorem dX10_noSell_30 : decode cX10_noSell 30 = .ok (.iload_n 2, 1) := by decide +kernel
theorem dX10_noSell_31 : decode cX10_noSell 31 = .ok (.iload_n 3, 1) := by decide +kernel
theorem dX10_noSell_32 : decode cX10_noSell 32 = .ok (.invokevirtual 101, 3) := by decide +kernel
theorem dX10_noSell_35 : decode cX10_noSell 35 = .ok (.ifCond .le 8, 3) := by decide +kernel
theorem dX10_noSell_38 : decode cX10_noSell 38 = .ok (.ldc 37, 2) := by decide +kernel
theorem dX10_noSell_40 : decode cX10_noSell 40 = .ok (.goto 4, 3) := by decide +kernel
theorem dX10_noSell_43 : decode cX10_noSell 43 = .ok (.iconst 0, 1) := by decide +kernel
theorem dX10_noSell_44 : decode cX10_noSell 44 = .ok (.ireturn, 1) := by decide +kernel
theorem dX10_doSell_0 : decode cX10_doSell 0 = .ok (.iload_n 3, 1) := by decide +kernel
theorem dX10_doSell_1 : decode cX10_doSell 1 = .ok (.aload_n 0, 1) := by decide +kernel
theorem dX10_doSell_2 : decode cX10_doSell 2 = .ok (.iload_n 2, 1) := by decide +kernel
theorem dX10_doSell_3 : decode cX10_doSell 3 = .ok (.iconst 1, 1) := by decide +kernel
theorem dX10_doSell_4 : decode cX10_doSell 4 = .ok (.invokevirtual 86, 3) := by decide +kernel
theorem dX10_doSell_7 : decode cX10_doSell 7 = .ok (.imul, 1) := by decide +kernel
theorem dX10_doSell_8 : decode cX10_doSell 8 = .ok (.istore 4, 2) := by decide +kernel
theorem dX10_doSell_10 : decode cX10_doSell 10 = .ok (.sipush 160, 3) := by decide +kernel
theorem dX10_doSell_13 : decode cX10_doSell 13 = .ok (.iconst 5, 1) := by decide +kernel
theorem dX10_doSell_14 : decode cX10_doSell 14 = .ok (.iload_n 2, 1) := by decide +kernel
theorem dX10_doSell_15 : decode cX10_doSell 15 = .ok (.imul, 1) := by decide +kernel
theorem dX10_doSell_16 : decode cX10_doSell 16 = .ok (.iadd, 1) := by decide +kernel
theorem dX10_doSell_17 : decode cX10_doSell 17 = .ok (.istore 5, 2) := by decide +kernel
theorem dX10_doSell_19 : decode cX10_doSell 19 = .ok (.aload_n 0, 1) := by decide +kernel
theorem dX10_doSell_20 : decode cX10_doSell 20 = .ok (.getfield 7, 3) := by decide +kernel
theorem dX10_doSell_23 : decode cX10_doSell 23 = .ok (.iload 5, 2) := by decide +kernel
theorem dX10_doSell_25 : decode cX10_doSell 25 = .ok (.iconst 0, 1) := by decide +kernel
theorem dX10_doSell_26 : decode cX10_doSell 26 = .ok (.iadd, 1) := by decide +kernel
theorem dX10_doSell_27 : decode cX10_doSell 27 = .ok (.dup2, 1) := by decide +kernel
theorem dX10_doSell_28 : decode cX10_doSell 28 = .ok (.iaload, 1) := by decide +kernel
theorem dX10_doSell_29 : decode cX10_doSell 29 = .ok (.iload_n 3, 1) := by decide +kernel
theorem dX10_doSell_30 : decode cX10_doSell 30 = .ok (.isub, 1) := by decide +kernel
theorem dX10_doSell_31 : decode cX10_doSell 31 = .ok (.iastore, 1) := by decide +kernel
theorem dX10_doSell_32 : decode cX10_doSell 32 = .ok (.aload_n 0, 1) := by decide +kernel
theorem dX10_doSell_33 : decode cX10_doSell 33 = .ok (.getfield 7, 3) := by decide +kernel
theorem dX10_doSell_36 : decode cX10_doSell 36 = .ok (.iload 5, 2) := by decide +kernel
theorem dX10_doSell_38 : decode cX10_doSell 38 = .ok (.iconst 3, 1) := by decide +kernel
theorem dX10_doSell_39 : decode cX10_doSell 39 = .ok (.iadd, 1) := by decide +kernel
theorem dX10_doSell_40 : decode cX10_doSell 40 = .ok (.dup2, 1) := by decide +kernel
theorem dX10_doSell_41 : decode cX10_doSell 41 = .ok (.iaload, 1) := by decide +kernel
theorem dX10_doSell_42 : decode cX10_doSell 42 = .ok (.iload_n 3, 1) := by decide +kernel
theorem dX10_doSell_43 : decode cX10_doSell 43 = .ok (.iadd, 1) := by decide +kernel
theorem dX10_doSell_44 : decode cX10_doSell 44 = .ok (.iastore, 1) := by decide +kernel
theorem dX10_doSell_45 : decode cX10_doSell 45 = .ok (.aload_n 0, 1) := by decide +kernel
theorem dX10_doSell_46 : decode cX10_doSell 46 = .ok (.getfield 7, 3) := by decide +kernel
theorem dX10_doSell_49 : decode cX10_doSell 49 = .ok (.iload 5, 2) := by decide +kernel
theorem dX10_doSell_51 : decode cX10_doSell 51 = .ok (.iconst 4, 1) := by decide +kernel
theorem dX10_doSell_52 : decode cX10_doSell 52 = .ok (.iadd, 1) := by decide +kernel
theorem dX10_doSell_53 : decode cX10_doSell 53 = .ok (.dup2, 1) := by decide +kernel
theorem dX10_doSell_54 : decode cX10_doSell 54 = .ok (.iaload, 1) := by decide +kernel
theorem dX10_doSell_55 : decode cX10_doSell 55 = .ok (.iload 4, 2) := by decide +kernel
theorem dX10_doSell_57 : decode cX10_doSell 57 = .ok (.iadd, 1) := by decide +kernel
theorem dX10_doSell_58 : decode cX10_doSell 58 = .ok (.iastore, 1) := by decide +kernel
theorem dX10_doSell_59 : decode cX10_doSell 59 = .ok (.aload_n 0, 1) := by decide +kernel
theorem dX10_doSell_60 : decode cX10_doSell 60 = .ok (.iload_n 1, 1) := by decide +kernel
theorem dX10_doSell_61 : decode cX10_doSell 61 = .ok (.iconst 5, 1) := by decide +kernel
theorem dX10_doSell_62 : decode cX10_doSell 62 = .ok (.iload 4, 2) := by decide +kernel
theorem dX10_doSell_64 : decode cX10_doSell 64 = .ok (.invokevirtual 104, 3) := by decide +kernel
theorem dX10_doSell_67 : decode cX10_doSell 67 = .ok (.iload 4, 2) := by decide +kernel
theorem dX10_doSell_69 : decode cX10_doSell 69 = .ok (.ireturn, 1) := by decide +kernel
theorem dX10_sell_0 : decode cX10_sell 0 = .ok (.aload_n 0, 1) := by decide +kernel
theorem dX10_sell_1 : decode cX10_sell 1 = .ok (.iload_n 1, 1) := by decide +kernel
theorem dX10_sell_2 : decode cX10_sell 2 = .ok (.iload_n 2, 1) := by decide +kernel
theorem dX10_sell_3 : decode cX10_sell 3 = .ok (.iload_n 3, 1) := by decide +kernel
theorem dX10_sell_4 : decode cX10_sell 4 = .ok (.invokevirtual 107, 3) := by decide +kernel
theorem dX10_sell_7 : decode cX10_sell 7 = .ok (.istore 4, 2) := by decide +kernel
theorem dX10_sell_9 : decode cX10_sell 9 = .ok (.iload 4, 2) := by decide +kernel
theorem dX10_sell_11 : decode cX10_sell 11 = .ok (.ifCond .ge 6, 3) := by decide +kernel
theorem dX10_sell_14 : decode cX10_sell 14 = .ok (.iload 4, 2) := by decide +kernel
theorem dX10_sell_16 : decode cX10_sell 16 = .ok (.ireturn, 1) := by decide +kernel
theorem dX10_sell_17 : decode cX10_sell 17 = .ok (.aload_n 0, 1) := by decide +kernel
theorem dX10_sell_18 : decode cX10_sell 18 = .ok (.aload_n 0, 1) := by decide +kernel
theorem dX10_sell_19 : decode cX10_sell 19 = .ok (.getfield 7, 3) := by decide +kernel
theorem dX10_sell_22 : decode cX10_sell 22 = .ok (.invokevirtual 76, 3) := by decide +kernel
theorem dX10_sell_25 : decode cX10_sell 25 = .ok (.aload_n 0, 1) := by decide +kernel
theorem dX10_sell_26 : decode cX10_sell 26 = .ok (.iload_n 1, 1) := by decide +kernel
theorem dX10_sell_27 : decode cX10_sell 27 = .ok (.iload_n 2, 1) := by decide +kernel
theorem dX10_sell_28 : decode cX10_sell 28 = .ok (.iload_n 3, 1) := by decide +kernel
theorem dX10_sell_29 : decode cX10_sell 29 = .ok (.invokevirtual 110, 3) := by decide +kernel
theorem dX10_sell_32 : decode cX10_sell 32 = .ok (.ireturn, 1) := by decide +kernel
theorem dX10_noAdvance_0 : decode cX10_noAdvance 0 = .ok (.aload_n 0, 1) := by decide +kernel
theorem dX10_noAdvance_1 : decode cX10_noAdvance 1 = .ok (.iload_n 1, 1) := by decide +kernel
theorem dX10_noAdvance_2 : decode cX10_noAdvance 2 = .ok (.invokevirtual 98, 3) := by decide +kernel
theorem dX10_noAdvance_5 : decode cX10_noAdvance 5 = .ok (.ifCond .eq 14, 3) := by decide +kernel
theorem dX10_noAdvance_8 : decode cX10_noAdvance 8 = .ok (.iload_n 2, 1) := by decide +kernel
theorem dX10_noAdvance_9 : decode cX10_noAdvance 9 = .ok (.iconst 1, 1) := by decide +kernel
theorem dX10_noAdvance_10 : decode cX10_noAdvance 10 = .ok (.sipush 999, 3) := by decide +kernel
theorem dX10_noAdvance_13 : decode cX10_noAdvance 13 = .ok (.invokestatic 25, 3) := by decide +kernel
theorem dX10_noAdvance_16 : decode cX10_noAdvance 16 = .ok (.ifCond .ne 6, 3) := by decide +kernel
theorem dX10_noAdvance_19 : decode cX10_noAdvance 19 = .ok (.ldc 64, 2) := by decide +kernel
theorem dX10_noAdvance_21 : decode cX10_noAdvance 21 = .ok (.ireturn, 1) := by decide +kernel
theorem dX10_noAdvance_22 : decode cX10_noAdvance 22 = .ok (.aload_n 0, 1) := by decide +kernel
theorem dX10_noAdvance_23 : decode cX10_noAdvance 23 = .ok (.invokevirtual 65, 3) := by decide +kernel
theorem dX10_noAdvance_26 : decode cX10_noAdvance 26 = .ok (.ifCond .ne 20, 3) := by decide +kernel
theorem dX10_noAdvance_29 : decode cX10_noAdvance 29 = .ok (.aload_n 0, 1) := by decide +kernel
theorem dX10_noAdvance_30 : decode cX10_noAdvance 30 = .ok (.iload_n 1, 1) := by decide +kernel
theorem dX10_noAdvance_31 : decode cX10_noAdvance 31 = .ok (.invokevirtual 42, 3) := by decide +kernel
theorem dX10_noAdvance_34 : decode cX10_noAdvance 34 = .ok (.ifCond .ne 12, 3) := by decide +kernel
theorem dX10_noAdvance_37 : decode cX10_noAdvance 37 = .ok (.aload_n 0, 1) := by decide +kernel
theorem dX10_noAdvance_38 : decode cX10_noAdvance 38 = .ok (.iload_n 1, 1) := by decide +kernel
theorem dX10_noAdvance_39 : decode cX10_noAdvance 39 = .ok (.invokevirtual 95, 3) := by decide +kernel
theorem dX10_noAdvance_42 : decode cX10_noAdvance 42 = .ok (.iload_n 2, 1) := by decide +kernel
theorem dX10_noAdvance_43 : decode cX10_noAdvance 43 = .ok (.if_icmp .ge 8, 3) := by decide +kernel
theorem dX10_noAdvance_46 : decode cX10_noAdvance 46 = .ok (.ldc 37, 2) := by decide +kernel
theorem dX10_noAdvance_48 : decode cX10_noAdvance 48 = .ok (.goto 4, 3) := by decide +kernel
theorem dX10_noAdvance_51 : decode cX10_noAdvance 51 = .ok (.iconst 0, 1) := by decide +kernel
theorem dX10_noAdvance_52 : decode cX10_noAdvance 52 = .ok (.ireturn, 1) := by decide +kernel
theorem dX10_doAdvance_0 : decode cX10_doAdvance 0 = .ok (.aload_n 0, 1) := by decide +kernel
theorem dX10_doAdvance_1 : decode cX10_doAdvance 1 = .ok (.iload_n 1, 1) := by decide +kernel
theorem dX10_doAdvance_2 : decode cX10_doAdvance 2 = .ok (.bipush 7, 2) := by decide +kernel
theorem dX10_doAdvance_4 : decode cX10_doAdvance 4 = .ok (.iload_n 2, 1) := by decide +kernel
theorem dX10_doAdvance_5 : decode cX10_doAdvance 5 = .ok (.invokevirtual 104, 3) := by decide +kernel
theorem dX10_doAdvance_8 : decode cX10_doAdvance 8 = .ok (.aload_n 0, 1) := by decide +kernel
theorem dX10_doAdvance_9 : decode cX10_doAdvance 9 = .ok (.iload_n 2, 1) := by decide +kernel
theorem dX10_doAdvance_10 : decode cX10_doAdvance 10 = .ok (.invokevirtual 60, 3) := by decide +kernel
theorem dX10_doAdvance_13 : decode cX10_doAdvance 13 = .ok (.aload_n 0, 1) := by decide +kernel
theorem dX10_doAdvance_14 : decode cX10_doAdvance 14 = .ok (.getfield 7, 3) := by decide +kernel
theorem dX10_doAdvance_17 : decode cX10_doAdvance 17 = .ok (.sipush 195, 3) := by decide +kernel
theorem dX10_doAdvance_20 : decode cX10_doAdvance 20 = .ok (.iaload, 1) := by decide +kernel
theorem dX10_doAdvance_21 : decode cX10_doAdvance 21 = .ok (.ireturn, 1) := by decide +kernel
theorem dX10_advance_0 : decode cX10_advance 0 = .ok (.aload_n 0, 1) := by decide +kernel
theorem dX10_advance_1 : decode cX10_advance 1 = .ok (.iload_n 1, 1) := by decide +kernel
theorem dX10_advance_2 : decode cX10_advance 2 = .ok (.iload_n 2, 1) := by decide +kernel
theorem dX10_advance_3 : decode cX10_advance 3 = .ok (.invokevirtual 113, 3) := by decide +kernel
theorem dX10_advance_6 : decode cX10_advance 6 = .ok (.istore_n 3, 1) := by decide +kernel
theorem dX10_advance_7 : decode cX10_advance 7 = .ok (.iload_n 3, 1) := by decide +kernel
theorem dX10_advance_8 : decode cX10_advance 8 = .ok (.ifCond .ge 5, 3) := by decide +kernel
theorem dX10_advance_11 : decode cX10_advance 11 = .ok (.iload_n 3, 1) := by decide +kernel
theorem dX10_advance_12 : decode cX10_advance 12 = .ok (.ireturn, 1) := by decide +kernel
theorem dX10_advance_13 : decode cX10_advance 13 = .ok (.aload_n 0, 1) := by decide +kernel
theorem dX10_advance_14 : decode cX10_advance 14 = .ok (.aload_n 0, 1) := by decide +kernel
theorem dX10_advance_15 : decode cX10_advance 15 = .ok (.getfield 7, 3) := by decide +kernel
theorem dX10_advance_18 : decode cX10_advance 18 = .ok (.invokevirtual 76, 3) := by decide +kernel
theorem dX10_advance_21 : decode cX10_advance 21 = .ok (.aload_n 0, 1) := by decide +kernel
theorem dX10_advance_22 : decode cX10_advance 22 = .ok (.iload_n 1, 1) := by decide +kernel
theorem dX10_advance_23 : decode cX10_advance 23 = .ok (.iload_n 2, 1) := by decide +kernel
theorem dX10_advance_24 : decode cX10_advance 24 = .ok (.invokevirtual 116, 3) := by decide +kernel
theorem dX10_advance_27 : decode cX10_advance 27 = .ok (.ireturn, 1) := by decide +kernel
theorem dX10_noFine_0 : decode cX10_noFine 0 = .ok (.aload_n 0, 1) := by decide +kernel
theorem dX10_noFine_1 : decode cX10_noFine 1 = .ok (.iload_n 1, 1) := by decide +kernel
theorem dX10_noFine_2 : decode cX10_noFine 2 = .ok (.invokevirtual 98, 3) := by decide +kernel
theorem dX10_noFine_5 : decode cX10_noFine 5 = .ok (.ifCond .eq 14, 3) := by decide +kernel
theorem dX10_noFine_8 : decode cX10_noFine 8 = .ok (.iload_n 2, 1) := by decide +kernel
theorem dX10_noFine_9 : decode cX10_noFine 9 = .ok (.iconst 1, 1) := by decide +kernel
theorem dX10_noFine_10 : decode cX10_noFine 10 = .ok (.sipush 999, 3) := by decide +kernel
theorem dX10_noFine_13 : decode cX10_noFine 13 = .ok (.invokestatic 25, 3) := by decide +kernel
theorem dX10_noFine_16 : decode cX10_noFine 16 = .ok (.ifCond .ne 6, 3) := by decide +kernel
theorem dX10_noFine_19 : decode cX10_noFine 19 = .ok (.ldc 64, 2) := by decide +kernel
theorem dX10_noFine_21 : decode cX10_noFine 21 = .ok (.ireturn, 1) := by decide +kernel
theorem dX10_noFine_22 : decode cX10_noFine 22 = .ok (.aload_n 0, 1) := by decide +kernel
theorem dX10_noFine_23 : decode cX10_noFine 23 = .ok (.iload_n 1, 1) := by decide +kernel
theorem dX10_noFine_24 : decode cX10_noFine 24 = .ok (.invokevirtual 42, 3) := by decide +kernel
theorem dX10_noFine_27 : decode cX10_noFine 27 = .ok (.ifCond .ne 16, 3) := by decide +kernel
theorem dX10_noFine_30 : decode cX10_noFine 30 = .ok (.aload_n 0, 1) := by decide +kernel
theorem dX10_noFine_31 : decode cX10_noFine 31 = .ok (.iload_n 1, 1) := by decide +kernel
theorem dX10_noFine_32 : decode cX10_noFine 32 = .ok (.invokevirtual 95, 3) := by decide +kernel
theorem dX10_noFine_35 : decode cX10_noFine 35 = .ok (.iload_n 2, 1) := by decide +kernel
theorem dX10_noFine_36 : decode cX10_noFine 36 = .ok (.isub, 1) := by decide +kernel
theorem dX10_noFine_37 : decode cX10_noFine 37 = .ok (.sipush (-4000), 3) := by decide +kernel
theorem dX10_noFine_40 : decode cX10_noFine 40 = .ok (.if_icmp .ge 8, 3) := by decide +kernel
theorem dX10_noFine_43 : decode cX10_noFine 43 = .ok (.ldc 37, 2) := by decide +kernel
theorem dX10_noFine_45 : decode cX10_noFine 45 = .ok (.goto 4, 3) := by decide +kernel
theorem dX10_noFine_48 : decode cX10_noFine 48 = .ok (.iconst 0, 1) := by decide +kernel
theorem dX10_noFine_49 : decode cX10_noFine 49 = .ok (.ireturn, 1) := by decide +kernel
theorem dX10_doFine_0 : decode cX10_doFine 0 = .ok (.aload_n 0, 1) := by decide +kernel
theorem dX10_doFine_1 : decode cX10_doFine 1 = .ok (.iload_n 1, 1) := by decide +kernel
theorem dX10_doFine_2 : decode cX10_doFine 2 = .ok (.bipush 6, 2) := by decide +kernel
theorem dX10_doFine_4 : decode cX10_doFine 4 = .ok (.iload_n 2, 1) := by decide +kernel
theorem dX10_doFine_5 : decode cX10_doFine 5 = .ok (.invokevirtual 104, 3) := by decide +kernel
theorem dX10_doFine_8 : decode cX10_doFine 8 = .ok (.sipush 5000, 3) := by decide +kernel
theorem dX10_doFine_11 : decode cX10_doFine 11 = .ok (.aload_n 0, 1) := by decide +kernel
theorem dX10_doFine_12 : decode cX10_doFine 12 = .ok (.iload_n 1, 1) := by decide +kernel
theorem dX10_doFine_13 : decode cX10_doFine 13 = .ok (.invokevirtual 95, 3) := by decide +kernel
theorem dX10_doFine_16 : decode cX10_doFine 16 = .ok (.iadd, 1) := by decide +kernel
theorem dX10_doFine_17 : decode cX10_doFine 17 = .ok (.ireturn, 1) := by decide +kernel
theorem dX10_fine_0 : decode cX10_fine 0 = .ok (.aload_n 0, 1) := by decide +kernel
theorem dX10_fine_1 : decode cX10_fine 1 = .ok (.iload_n 1, 1) := by decide +kernel
theorem dX10_fine_2 : decode cX10_fine 2 = .ok (.iload_n 2, 1) := by decide +kernel
theorem dX10_fine_3 : decode cX10_fine 3 = .ok (.invokevirtual 119, 3) := by decide +kernel
theorem dX10_fine_6 : decode cX10_fine 6 = .ok (.istore_n 3, 1) := by decide +kernel
theorem dX10_fine_7 : decode cX10_fine 7 = .ok (.iload_n 3, 1) := by decide +kernel
theorem dX10_fine_8 : decode cX10_fine 8 = .ok (.ifCond .ge 5, 3) := by decide +kernel
theorem dX10_fine_11 : decode cX10_fine 11 = .ok (.iload_n 3, 1) := by decide +kernel
theorem dX10_fine_12 : decode cX10_fine 12 = .ok (.ireturn, 1) := by decide +kernel
theorem dX10_fine_13 : decode cX10_fine 13 = .ok (.aload_n 0, 1) := by decide +kernel
theorem dX10_fine_14 : decode cX10_fine 14 = .ok (.aload_n 0, 1) := by decide +kernel
theorem dX10_fine_15 : decode cX10_fine 15 = .ok (.getfield 7, 3) := by decide +kernel
theorem dX10_fine_18 : decode cX10_fine 18 = .ok (.invokevirtual 76, 3) := by decide +kernel
theorem dX10_fine_21 : decode cX10_fine 21 = .ok (.aload_n 0, 1) := by decide +kernel
theorem dX10_fine_22 : decode cX10_fine 22 = .ok (.iload_n 1, 1) := by decide +kernel
theorem dX10_fine_23 : decode cX10_fine 23 = .ok (.iload_n 2, 1) := by decide +kernel
theorem dX10_fine_24 : decode cX10_fine 24 = .ok (.invokevirtual 122, 3) := by decide +kernel
theorem dX10_fine_27 : decode cX10_fine 27 = .ok (.ireturn, 1) := by decide +kernel
theorem dX10_ofWatch_0 : decode cX10_ofWatch 0 = .ok (.iconst 0, 1) := by decide +kernel
theorem dX10_ofWatch_1 : decode cX10_ofWatch 1 = .ok (.istore_n 3, 1) := by decide +kernel
theorem dX10_ofWatch_2 : decode cX10_ofWatch 2 = .ok (.iconst 0, 1) := by decide +kernel
theorem dX10_ofWatch_3 : decode cX10_ofWatch 3 = .ok (.istore 4, 2) := by decide +kernel
theorem dX10_ofWatch_5 : decode cX10_ofWatch 5 = .ok (.iload 4, 2) := by decide +kernel
theorem dX10_ofWatch_7 : decode cX10_ofWatch 7 = .ok (.iload_n 2, 1) := by decide +kernel
theorem dX10_ofWatch_8 : decode cX10_ofWatch 8 = .ok (.if_icmp .ge 37, 3) := by decide +kernel
theorem dX10_ofWatch_11 : decode cX10_ofWatch 11 = .ok (.iload_n 3, 1) := by decide +kernel
theorem dX10_ofWatch_12 : decode cX10_ofWatch 12 = .ok (.aload_n 0, 1) := by decide +kernel
theorem dX10_ofWatch_13 : decode cX10_ofWatch 13 = .ok (.iload 4, 2) := by decide +kernel
theorem dX10_ofWatch_15 : decode cX10_ofWatch 15 = .ok (.iconst 1, 1) := by decide +kernel
theorem dX10_ofWatch_16 : decode cX10_ofWatch 16 = .ok (.invokevirtual 29, 3) := by decide +kernel
theorem dX10_ofWatch_19 : decode cX10_ofWatch 19 = .ok (.iload_n 1, 1) := by decide +kernel
theorem dX10_ofWatch_20 : decode cX10_ofWatch 20 = .ok (.if_icmp .ne 16, 3) := by decide +kernel
theorem dX10_ofWatch_23 : decode cX10_ofWatch 23 = .ok (.aload_n 0, 1) := by decide +kernel
theorem dX10_ofWatch_24 : decode cX10_ofWatch 24 = .ok (.iload 4, 2) := by decide +kernel
theorem dX10_ofWatch_26 : decode cX10_ofWatch 26 = .ok (.invokevirtual 42, 3) := by decide +kernel
theorem dX10_ofWatch_29 : decode cX10_ofWatch 29 = .ok (.ifCond .ne 7, 3) := by decide +kernel
theorem dX10_ofWatch_32 : decode cX10_ofWatch 32 = .ok (.iconst 1, 1) := by decide +kernel
theorem dX10_ofWatch_33 : decode cX10_ofWatch 33 = .ok (.goto 4, 3) := by decide +kernel
theorem dX10_ofWatch_36 : decode cX10_ofWatch 36 = .ok (.iconst 0, 1) := by decide +kernel
theorem dX10_ofWatch_37 : decode cX10_ofWatch 37 = .ok (.iadd, 1) := by decide +kernel
theorem dX10_ofWatch_38 : decode cX10_ofWatch 38 = .ok (.istore_n 3, 1) := by decide +kernel
theorem dX10_ofWatch_39 : decode cX10_ofWatch 39 = .ok (.iinc 4 1, 3) := by decide +kernel
theorem dX10_ofWatch_42 : decode cX10_ofWatch 42 = .ok (.goto (-37), 3) := by decide +kernel
theorem dX10_ofWatch_45 : decode cX10_ofWatch 45 = .ok (.iload_n 3, 1) := by decide +kernel
theorem dX10_ofWatch_46 : decode cX10_ofWatch 46 = .ok (.ireturn, 1) := by decide +kernel
theorem dX10_partOf_0 : decode cX10_partOf 0 = .ok (.aload_n 0, 1) := by decide +kernel
theorem dX10_partOf_1 : decode cX10_partOf 1 = .ok (.iload_n 2, 1) := by decide +kernel
theorem dX10_partOf_2 : decode cX10_partOf 2 = .ok (.aload_n 0, 1) := by decide +kernel
theorem dX10_partOf_3 : decode cX10_partOf 3 = .ok (.getfield 7, 3) := by decide +kernel
theorem dX10_partOf_6 : decode cX10_partOf 6 = .ok (.sipush 194, 3) := by decide +kernel
theorem dX10_partOf_9 : decode cX10_partOf 9 = .ok (.iaload, 1) := by decide +kernel
theorem dX10_partOf_10 : decode cX10_partOf 10 = .ok (.invokevirtual 125, 3) := by decide +kernel
theorem dX10_partOf_13 : decode cX10_partOf 13 = .ok (.istore 4, 2) := by decide +kernel
theorem dX10_partOf_15 : decode cX10_partOf 15 = .ok (.iload_n 3, 1) := by decide +kernel
theorem dX10_partOf_16 : decode cX10_partOf 16 = .ok (.iload 4, 2) := by decide +kernel
theorem dX10_partOf_18 : decode cX10_partOf 18 = .ok (.idiv, 1) := by decide +kernel
theorem dX10_partOf_19 : decode cX10_partOf 19 = .ok (.aload_n 0, 1) := by decide +kernel
theorem dX10_partOf_20 : decode cX10_partOf 20 = .ok (.iload_n 2, 1) := by decide +kernel
theorem dX10_partOf_21 : decode cX10_partOf 21 = .ok (.iload_n 1, 1) := by decide +kernel
theorem dX10_partOf_22 : decode cX10_partOf 22 = .ok (.invokevirtual 125, 3) := by decide +kernel
theorem dX10_partOf_25 : decode cX10_partOf 25 = .ok (.iload_n 3, 1) := by decide +kernel
theorem dX10_partOf_26 : decode cX10_partOf 26 = .ok (.iload 4, 2) := by decide +kernel
theorem dX10_partOf_28 : decode cX10_partOf 28 = .ok (.irem, 1) := by decide +kernel
theorem dX10_partOf_29 : decode cX10_partOf 29 = .ok (.if_icmp .ge 7, 3) := by decide +kernel
theorem dX10_partOf_32 : decode cX10_partOf 32 = .ok (.iconst 1, 1) := by decide +kernel
theorem dX10_partOf_33 : decode cX10_partOf 33 = .ok (.goto 4, 3) := by decide +kernel
theorem dX10_partOf_36 : decode cX10_partOf 36 = .ok (.iconst 0, 1) := by decide +kernel
theorem dX10_partOf_37 : decode cX10_partOf 37 = .ok (.iadd, 1) := by decide +kernel
theorem dX10_partOf_38 : decode cX10_partOf 38 = .ok (.ireturn, 1) := by decide +kernel
theorem dX10_isFined_0 : decode cX10_isFined 0 = .ok (.aload_n 0, 1) := by decide +kernel
theorem dX10_isFined_1 : decode cX10_isFined 1 = .ok (.iload_n 1, 1) := by decide +kernel
theorem dX10_isFined_2 : decode cX10_isFined 2 = .ok (.iconst 1, 1) := by decide +kernel
theorem dX10_isFined_3 : decode cX10_isFined 3 = .ok (.invokevirtual 29, 3) := by decide +kernel
theorem dX10_isFined_6 : decode cX10_isFined 6 = .ok (.iload_n 2, 1) := by decide +kernel
theorem dX10_isFined_7 : decode cX10_isFined 7 = .ok (.if_icmp .ne 15, 3) := by decide +kernel
theorem dX10_isFined_10 : decode cX10_isFined 10 = .ok (.aload_n 0, 1) := by decide +kernel
theorem dX10_isFined_11 : decode cX10_isFined 11 = .ok (.iload_n 1, 1) := by decide +kernel
theorem dX10_isFined_12 : decode cX10_isFined 12 = .ok (.invokevirtual 42, 3) := by decide +kernel
theorem dX10_isFined_15 : decode cX10_isFined 15 = .ok (.ifCond .ne 7, 3) := by decide +kernel
theorem dX10_isFined_18 : decode cX10_isFined 18 = .ok (.iconst 1, 1) := by decide +kernel
theorem dX10_isFined_19 : decode cX10_isFined 19 = .ok (.goto 4, 3) := by decide +kernel
theorem dX10_isFined_22 : decode cX10_isFined 22 = .ok (.iconst 0, 1) := by decide +kernel
theorem dX10_isFined_23 : decode cX10_isFined 23 = .ok (.ireturn, 1) := by decide +kernel
theorem dX10_fineWatch_0 : decode cX10_fineWatch 0 = .ok (.iload_n 1, 1) := by decide +kernel
theorem dX10_fineWatch_1 : decode cX10_fineWatch 1 = .ok (.iconst 0, 1) := by decide +kernel
theorem dX10_fineWatch_2 : decode cX10_fineWatch 2 = .ok (.iconst 1, 1) := by decide +kernel
theorem dX10_fineWatch_3 : decode cX10_fineWatch 3 = .ok (.invokestatic 25, 3) := by decide +kernel
theorem dX10_fineWatch_6 : decode cX10_fineWatch 6 = .ok (.ifCond .eq 14, 3) := by decide +kernel
theorem dX10_fineWatch_9 : decode cX10_fineWatch 9 = .ok (.iload_n 2, 1) := by decide +kernel
theorem dX10_fineWatch_10 : decode cX10_fineWatch 10 = .ok (.iconst 1, 1) := by decide +kernel
theorem dX10_fineWatch_11 : decode cX10_fineWatch 11 = .ok (.sipush 999, 3) := by decide +kernel
theorem dX10_fineWatch_14 : decode cX10_fineWatch 14 = .ok (.invokestatic 25, 3) := by decide +kernel
theorem dX10_fineWatch_17 : decode cX10_fineWatch 17 = .ok (.ifCond .ne 6, 3) := by decide +kernel
theorem dX10_fineWatch_20 : decode cX10_fineWatch 20 = .ok (.ldc 64, 2) := by decide +kernel
theorem dX10_fineWatch_22 : decode cX10_fineWatch 22 = .ok (.ireturn, 1) := by decide +kernel
theorem dX10_fineWatch_23 : decode cX10_fineWatch 23 = .ok (.aload_n 0, 1) := by decide +kernel
theorem dX10_fineWatch_24 : decode cX10_fineWatch 24 = .ok (.iload_n 1, 1) := by decide +kernel
theorem dX10_fineWatch_25 : decode cX10_fineWatch 25 = .ok (.aload_n 0, 1) := by decide +kernel
theorem dX10_fineWatch_26 : decode cX10_fineWatch 26 = .ok (.getfield 7, 3) := by decide +kernel
theorem dX10_fineWatch_29 : decode cX10_fineWatch 29 = .ok (.sipush 194, 3) := by decide +kernel
theorem dX10_fineWatch_32 : decode cX10_fineWatch 32 = .ok (.iaload, 1) := by decide +kernel
theorem dX10_fineWatch_33 : decode cX10_fineWatch 33 = .ok (.invokevirtual 125, 3) := by decide +kernel
theorem dX10_fineWatch_36 : decode cX10_fineWatch 36 = .ok (.istore_n 3, 1) := by decide +kernel
theorem dX10_fineWatch_37 : decode cX10_fineWatch 37 = .ok (.iload_n 3, 1) := by decide +kernel
theorem dX10_fineWatch_38 : decode cX10_fineWatch 38 = .ok (.ifCond .le 7, 3) := by decide +kernel
theorem dX10_fineWatch_41 : decode cX10_fineWatch 41 = .ok (.iconst 1, 1) := by decide +kernel
theorem dX10_fineWatch_42 : decode cX10_fineWatch 42 = .ok (.goto 4, 3) := by decide +kernel
theorem dX10_fineWatch_45 : decode cX10_fineWatch 45 = .ok (.iconst 0, 1) := by decide +kernel
theorem dX10_fineWatch_46 : decode cX10_fineWatch 46 = .ok (.istore 4, 2) := by decide +kernel
theorem dX10_fineWatch_48 : decode cX10_fineWatch 48 = .ok (.iconst 0, 1) := by decide +kernel
theorem dX10_fineWatch_49 : decode cX10_fineWatch 49 = .ok (.istore 5, 2) := by decide +kernel
theorem dX10_fineWatch_51 : decode cX10_fineWatch 51 = .ok (.iload 5, 2) := by decide +kernel
theorem dX10_fineWatch_53 : decode cX10_fineWatch 53 = .ok (.aload_n 0, 1) := by decide +kernel
theorem dX10_fineWatch_54 : decode cX10_fineWatch 54 = .ok (.getfield 7, 3) := by decide +kernel
theorem dX10_fineWatch_57 : decode cX10_fineWatch 57 = .ok (.sipush 194, 3) := by decide +kernel
theorem dX10_fineWatch_60 : decode cX10_fineWatch 60 = .ok (.iaload, 1) := by decide +kernel
theorem dX10_fineWatch_61 : decode cX10_fineWatch 61 = .ok (.if_icmp .ge 52, 3) := by decide +kernel
theorem dX10_fineWatch_64 : decode cX10_fineWatch 64 = .ok (.iload 4, 2) := by decide +kernel
theorem dX10_fineWatch_66 : decode cX10_fineWatch 66 = .ok (.ifCond .eq 38, 3) := by decide +kernel
theorem dX10_fineWatch_69 : decode cX10_fineWatch 69 = .ok (.aload_n 0, 1) := by decide +kernel
theorem dX10_fineWatch_70 : decode cX10_fineWatch 70 = .ok (.iload 5, 2) := by decide +kernel
theorem dX10_fineWatch_72 : decode cX10_fineWatch 72 = .ok (.iload_n 1, 1) := by decide +kernel
theorem dX10_fineWatch_73 : decode cX10_fineWatch 73 = .ok (.invokevirtual 128, 3) := by decide +kernel
theorem dX10_fineWatch_76 : decode cX10_fineWatch 76 = .ok (.ifCond .eq 24, 3) := by decide +kernel
theorem dX10_fineWatch_79 : decode cX10_fineWatch 79 = .ok (.aload_n 0, 1) := by decide +kernel
theorem dX10_fineWatch_80 : decode cX10_fineWatch 80 = .ok (.iload 5, 2) := by decide +kernel
theorem dX10_fineWatch_82 : decode cX10_fineWatch 82 = .ok (.invokevirtual 95, 3) := by decide +kernel
theorem dX10_fineWatch_85 : decode cX10_fineWatch 85 = .ok (.aload_n 0, 1) := by decide +kernel
theorem dX10_fineWatch_86 : decode cX10_fineWatch 86 = .ok (.iload 5, 2) := by decide +kernel
theorem dX10_fineWatch_88 : decode cX10_fineWatch 88 = .ok (.iload_n 1, 1) := by decide +kernel
theorem dX10_fineWatch_89 : decode cX10_fineWatch 89 = .ok (.iload_n 2, 1) := by decide +kernel
theorem dX10_fineWatch_90 : decode cX10_fineWatch 90 = .ok (.invokevirtual 132, 3) := by decide +kernel
theorem dX10_fineWatch_93 : decode cX10_fineWatch 93 = .ok (.isub, 1) := by decide +kernel
theorem dX10_fineWatch_94 : decode cX10_fineWatch 94 = .ok (.sipush (-4000), 3) := by decide +kernel
theorem dX10_fineWatch_97 : decode cX10_fineWatch 97 = .ok (.if_icmp .lt 7, 3) := by decide +kernel
theorem dX10_fineWatch_100 : decode cX10_fineWatch 100 = .ok (.iconst 1, 1) := by decide +kernel
theorem dX10_fineWatch_101 : decode cX10_fineWatch 101 = .ok (.goto 4, 3) := by decide +kernel
theorem dX10_fineWatch_104 : decode cX10_fineWatch 104 = .ok (.iconst 0, 1) := by decide +kernel
theorem dX10_fineWatch_105 : decode cX10_fineWatch 105 = .ok (.istore 4, 2) := by decide +kernel
theorem dX10_fineWatch_107 : decode cX10_fineWatch 107 = .ok (.iinc 5 1, 3) := by decide +kernel
theorem dX10_fineWatch_110 : decode cX10_fineWatch 110 = .ok (.goto (-59), 3) := by decide +kernel
theorem dX10_fineWatch_113 : decode cX10_fineWatch 113 = .ok (.iload 4, 2) := by decide +kernel
theorem dX10_fineWatch_115 : decode cX10_fineWatch 115 = .ok (.ifCond .ne 6, 3) := by decide +kernel
theorem dX10_fineWatch_118 : decode cX10_fineWatch 118 = .ok (.ldc 37, 2) := by decide +kernel
theorem dX10_fineWatch_120 : decode cX10_fineWatch 120 = .ok (.ireturn, 1) := by decide +kernel
theorem dX10_fineWatch_121 : decode cX10_fineWatch 121 = .ok (.aload_n 0, 1) := by decide +kernel
theorem dX10_fineWatch_122 : decode cX10_fineWatch 122 = .ok (.aload_n 0, 1) := by decide +kernel
theorem dX10_fineWatch_123 : decode cX10_fineWatch 123 = .ok (.getfield 7, 3) := by decide +kernel
theorem dX10_fineWatch_126 : decode cX10_fineWatch 126 = .ok (.invokevirtual 76, 3) := by decide +kernel
theorem dX10_fineWatch_129 : decode cX10_fineWatch 129 = .ok (.iconst 0, 1) := by decide +kernel
theorem dX10_fineWatch_130 : decode cX10_fineWatch 130 = .ok (.istore 5, 2) := by decide +kernel
theorem dX10_fineWatch_132 : decode cX10_fineWatch 132 = .ok (.iload 5, 2) := by decide +kernel
theorem dX10_fineWatch_134 : decode cX10_fineWatch 134 = .ok (.aload_n 0, 1) := by decide +kernel
theorem dX10_fineWatch_135 : decode cX10_fineWatch 135 = .ok (.getfield 7, 3) := by decide +kernel
theorem dX10_fineWatch_138 : decode cX10_fineWatch 138 = .ok (.sipush 194, 3) := by decide +kernel
theorem dX10_fineWatch_141 : decode cX10_fineWatch 141 = .ok (.iaload, 1) := by decide +kernel
theorem dX10_fineWatch_142 : decode cX10_fineWatch 142 = .ok (.if_icmp .ge 35, 3) := by decide +kernel
theorem dX10_fineWatch_145 : decode cX10_fineWatch 145 = .ok (.aload_n 0, 1) := by decide +kernel
theorem dX10_fineWatch_146 : decode cX10_fineWatch 146 = .ok (.iload 5, 2) := by decide +kernel
theorem dX10_fineWatch_148 : decode cX10_fineWatch 148 = .ok (.iload_n 1, 1) := by decide +kernel
theorem dX10_fineWatch_149 : decode cX10_fineWatch 149 = .ok (.invokevirtual 128, 3) := by decide +kernel
theorem dX10_fineWatch_152 : decode cX10_fineWatch 152 = .ok (.ifCond .eq 19, 3) := by decide +kernel
theorem dX10_fineWatch_155 : decode cX10_fineWatch 155 = .ok (.aload_n 0, 1) := by decide +kernel
theorem dX10_fineWatch_156 : decode cX10_fineWatch 156 = .ok (.iload 5, 2) := by decide +kernel
theorem dX10_fineWatch_158 : decode cX10_fineWatch 158 = .ok (.bipush 6, 2) := by decide +kernel
theorem dX10_fineWatch_160 : decode cX10_fineWatch 160 = .ok (.aload_n 0, 1) := by decide +kernel
theorem dX10_fineWatch_161 : decode cX10_fineWatch 161 = .ok (.iload 5, 2) := by decide +kernel
theorem dX10_fineWatch_163 : decode cX10_fineWatch 163 = .ok (.iload_n 1, 1) := by decide +kernel
theorem dX10_fineWatch_164 : decode cX10_fineWatch 164 = .ok (.iload_n 2, 1) := by decide +kernel
theorem dX10_fineWatch_165 : decode cX10_fineWatch 165 = .ok (.invokevirtual 132, 3) := by decide +kernel
theorem dX10_fineWatch_168 : decode cX10_fineWatch 168 = .ok (.invokevirtual 104, 3) := by decide +kernel
theorem dX10_fineWatch_171 : decode cX10_fineWatch 171 = .ok (.iinc 5 1, 3) := by decide +kernel
theorem dX10_fineWatch_174 : decode cX10_fineWatch 174 = .ok (.goto (-42), 3) := by decide +kernel
theorem dX10_fineWatch_177 : decode cX10_fineWatch 177 = .ok (.iload_n 3, 1) := by decide +kernel
theorem dX10_fineWatch_178 : decode cX10_fineWatch 178 = .ok (.ireturn, 1) := by decide +kernel
theorem dX10_inPlace_0 : decode cX10_inPlace 0 = .ok (.iconst 0, 1) := by decide +kernel
theorem dX10_inPlace_1 : decode cX10_inPlace 1 = .ok (.istore_n 2, 1) := by decide +kernel
theorem dX10_inPlace_2 : decode cX10_inPlace 2 = .ok (.iconst 0, 1) := by decide +kernel
theorem dX10_inPlace_3 : decode cX10_inPlace 3 = .ok (.istore_n 3, 1) := by decide +kernel
theorem dX10_inPlace_4 : decode cX10_inPlace 4 = .ok (.iload_n 3, 1) := by decide +kernel
theorem dX10_inPlace_5 : decode cX10_inPlace 5 = .ok (.aload_n 0, 1) := by decide +kernel
theorem dX10_inPlace_6 : decode cX10_inPlace 6 = .ok (.getfield 7, 3) := by decide +kernel
theorem dX10_inPlace_9 : decode cX10_inPlace 9 = .ok (.sipush 194, 3) := by decide +kernel
theorem dX10_inPlace_12 : decode cX10_inPlace 12 = .ok (.iaload, 1) := by decide +kernel
theorem dX10_inPlace_13 : decode cX10_inPlace 13 = .ok (.if_icmp .ge 29, 3) := by decide +kernel
theorem dX10_inPlace_16 : decode cX10_inPlace 16 = .ok (.iload_n 2, 1) := by decide +kernel
theorem dX10_inPlace_17 : decode cX10_inPlace 17 = .ok (.aload_n 0, 1) := by decide +kernel
theorem dX10_inPlace_18 : decode cX10_inPlace 18 = .ok (.iload_n 3, 1) := by decide +kernel
theorem dX10_inPlace_19 : decode cX10_inPlace 19 = .ok (.iconst 2, 1) := by decide +kernel
theorem dX10_inPlace_20 : decode cX10_inPlace 20 = .ok (.invokevirtual 29, 3) := by decide +kernel
theorem dX10_inPlace_23 : decode cX10_inPlace 23 = .ok (.iload_n 1, 1) := by decide +kernel
theorem dX10_inPlace_24 : decode cX10_inPlace 24 = .ok (.if_icmp .ne 9, 3) := by decide +kernel
theorem dX10_inPlace_27 : decode cX10_inPlace 27 = .ok (.iconst 1, 1) := by decide +kernel
theorem dX10_inPlace_28 : decode cX10_inPlace 28 = .ok (.iload_n 3, 1) := by decide +kernel
theorem dX10_inPlace_29 : decode cX10_inPlace 29 = .ok (.ishl, 1) := by decide +kernel
theorem dX10_inPlace_30 : decode cX10_inPlace 30 = .ok (.goto 4, 3) := by decide +kernel
theorem dX10_inPlace_33 : decode cX10_inPlace 33 = .ok (.iconst 0, 1) := by decide +kernel
theorem dX10_inPlace_34 : decode cX10_inPlace 34 = .ok (.ior, 1) := by decide +kernel
theorem dX10_inPlace_35 : decode cX10_inPlace 35 = .ok (.istore_n 2, 1) := by decide +kernel
theorem dX10_inPlace_36 : decode cX10_inPlace 36 = .ok (.iinc 3 1, 3) := by decide +kernel
theorem dX10_inPlace_39 : decode cX10_inPlace 39 = .ok (.goto (-35), 3) := by decide +kernel
theorem dX10_inPlace_42 : decode cX10_inPlace 42 = .ok (.iload_n 2, 1) := by decide +kernel
theorem dX10_inPlace_43 : decode cX10_inPlace 43 = .ok (.ireturn, 1) := by decide +kernel
theorem dX10_aboardOf_0 : decode cX10_aboardOf 0 = .ok (.iconst 0, 1) := by decide +kernel
theorem dX10_aboardOf_1 : decode cX10_aboardOf 1 = .ok (.istore_n 2, 1) := by decide +kernel
theorem dX10_aboardOf_2 : decode cX10_aboardOf 2 = .ok (.iconst 0, 1) := by decide +kernel
theorem dX10_aboardOf_3 : decode cX10_aboardOf 3 = .ok (.istore_n 3, 1) := by decide +kernel
theorem dX10_aboardOf_4 : decode cX10_aboardOf 4 = .ok (.iload_n 3, 1) := by decide +kernel
theorem dX10_aboardOf_5 : decode cX10_aboardOf 5 = .ok (.aload_n 0, 1) := by decide +kernel
theorem dX10_aboardOf_6 : decode cX10_aboardOf 6 = .ok (.getfield 7, 3) := by decide +kernel
theorem dX10_aboardOf_9 : decode cX10_aboardOf 9 = .ok (.sipush 194, 3) := by decide +kernel
theorem dX10_aboardOf_12 : decode cX10_aboardOf 12 = .ok (.iaload, 1) := by decide +kernel
theorem dX10_aboardOf_13 : decode cX10_aboardOf 13 = .ok (.if_icmp .ge 36, 3) := by decide +kernel
theorem dX10_aboardOf_16 : decode cX10_aboardOf 16 = .ok (.iload_n 2, 1) := by decide +kernel
theorem dX10_aboardOf_17 : decode cX10_aboardOf 17 = .ok (.aload_n 0, 1) := by decide +kernel
theorem dX10_aboardOf_18 : decode cX10_aboardOf 18 = .ok (.iload_n 3, 1) := by decide +kernel
theorem dX10_aboardOf_19 : decode cX10_aboardOf 19 = .ok (.iconst 1, 1) := by decide +kernel
theorem dX10_aboardOf_20 : decode cX10_aboardOf 20 = .ok (.invokevirtual 29, 3) := by decide +kernel
theorem dX10_aboardOf_23 : decode cX10_aboardOf 23 = .ok (.iload_n 1, 1) := by decide +kernel
theorem dX10_aboardOf_24 : decode cX10_aboardOf 24 = .ok (.if_icmp .ne 16, 3) := by decide +kernel
theorem dX10_aboardOf_27 : decode cX10_aboardOf 27 = .ok (.aload_n 0, 1) := by decide +kernel
theorem dX10_aboardOf_28 : decode cX10_aboardOf 28 = .ok (.iload_n 3, 1) := by decide +kernel
theorem dX10_aboardOf_29 : decode cX10_aboardOf 29 = .ok (.iconst 2, 1) := by decide +kernel
theorem dX10_aboardOf_30 : decode cX10_aboardOf 30 = .ok (.invokevirtual 29, 3) := by decide +kernel
theorem dX10_aboardOf_33 : decode cX10_aboardOf 33 = .ok (.ifCond .ne 7, 3) := by decide +kernel
theorem dX10_aboardOf_36 : decode cX10_aboardOf 36 = .ok (.iconst 1, 1) := by decide +kernel
theorem dX10_aboardOf_37 : decode cX10_aboardOf 37 = .ok (.goto 4, 3) := by decide +kernel
theorem dX10_aboardOf_40 : decode cX10_aboardOf 40 = .ok (.iconst 0, 1) := by decide +kernel
theorem dX10_aboardOf_41 : decode cX10_aboardOf 41 = .ok (.iadd, 1) := by decide +kernel
theorem dX10_aboardOf_42 : decode cX10_aboardOf 42 = .ok (.istore_n 2, 1) := by decide +kernel
theorem dX10_aboardOf_43 : decode cX10_aboardOf 43 = .ok (.iinc 3 1, 3) := by decide +kernel
theorem dX10_aboardOf_46 : decode cX10_aboardOf 46 = .ok (.goto (-42), 3) := by decide +kernel
theorem dX10_aboardOf_49 : decode cX10_aboardOf 49 = .ok (.iload_n 2, 1) := by decide +kernel
theorem dX10_aboardOf_50 : decode cX10_aboardOf 50 = .ok (.ireturn, 1) := by decide +kernel
theorem dX10_noLeave_0 : decode cX10_noLeave 0 = .ok (.iload_n 1, 1) := by decide +kernel
theorem dX10_noLeave_1 : decode cX10_noLeave 1 = .ok (.iconst 0, 1) := by decide +kernel
theorem dX10_noLeave_2 : decode cX10_noLeave 2 = .ok (.iconst 1, 1) := by decide +kernel
theorem dX10_noLeave_3 : decode cX10_noLeave 3 = .ok (.invokestatic 25, 3) := by decide +kernel
theorem dX10_noLeave_6 : decode cX10_noLeave 6 = .ok (.ifCond .ne 6, 3) := by decide +kernel
theorem dX10_noLeave_9 : decode cX10_noLeave 9 = .ok (.ldc 64, 2) := by decide +kernel
theorem dX10_noLeave_11 : decode cX10_noLeave 11 = .ok (.ireturn, 1) := by decide +kernel
theorem dX10_noLeave_12 : decode cX10_noLeave 12 = .ok (.aload_n 0, 1) := by decide +kernel
theorem dX10_noLeave_13 : decode cX10_noLeave 13 = .ok (.invokevirtual 65, 3) := by decide +kernel
theorem dX10_noLeave_16 : decode cX10_noLeave 16 = .ok (.ifCond .ne 19, 3) := by decide +kernel
theorem dX10_noLeave_19 : decode cX10_noLeave 19 = .ok (.aload_n 0, 1) := by decide +kernel
theorem dX10_noLeave_20 : decode cX10_noLeave 20 = .ok (.iconst 1, 1) := by decide +kernel
theorem dX10_noLeave_21 : decode cX10_noLeave 21 = .ok (.invokevirtual 135, 3) := by decide +kernel
theorem dX10_noLeave_24 : decode cX10_noLeave 24 = .ok (.ifCond .ne 11, 3) := by decide +kernel
theorem dX10_noLeave_27 : decode cX10_noLeave 27 = .ok (.aload_n 0, 1) := by decide +kernel
theorem dX10_noLeave_28 : decode cX10_noLeave 28 = .ok (.iload_n 1, 1) := by decide +kernel
theorem dX10_noLeave_29 : decode cX10_noLeave 29 = .ok (.invokevirtual 138, 3) := by decide +kernel
theorem dX10_noLeave_32 : decode cX10_noLeave 32 = .ok (.ifCond .ne 8, 3) := by decide +kernel
theorem dX10_noLeave_35 : decode cX10_noLeave 35 = .ok (.ldc 37, 2) := by decide +kernel
theorem dX10_noLeave_37 : decode cX10_noLeave 37 = .ok (.goto 4, 3) := by decide +kernel
theorem dX10_noLeave_40 : decode cX10_noLeave 40 = .ok (.iconst 0, 1) := by decide +kernel
theorem dX10_noLeave_41 : decode cX10_noLeave 41 = .ok (.ireturn, 1) := by decide +kernel
theorem dX10_doLeave_0 : decode cX10_doLeave 0 = .ok (.aload_n 0, 1) := by decide +kernel
theorem dX10_doLeave_1 : decode cX10_doLeave 1 = .ok (.iload_n 1, 1) := by decide +kernel
theorem dX10_doLeave_2 : decode cX10_doLeave 2 = .ok (.invokevirtual 138, 3) := by decide +kernel
theorem dX10_doLeave_5 : decode cX10_doLeave 5 = .ok (.istore_n 2, 1) := by decide +kernel
theorem dX10_doLeave_6 : decode cX10_doLeave 6 = .ok (.iconst 0, 1) := by decide +kernel
theorem dX10_doLeave_7 : decode cX10_doLeave 7 = .ok (.istore_n 3, 1) := by decide +kernel
theorem dX10_doLeave_8 : decode cX10_doLeave 8 = .ok (.iload_n 3, 1) := by decide +kernel
theorem dX10_doLeave_9 : decode cX10_doLeave 9 = .ok (.aload_n 0, 1) := by decide +kernel
theorem dX10_doLeave_10 : decode cX10_doLeave 10 = .ok (.getfield 7, 3) := by decide +kernel
theorem dX10_doLeave_13 : decode cX10_doLeave 13 = .ok (.sipush 194, 3) := by decide +kernel
theorem dX10_doLeave_16 : decode cX10_doLeave 16 = .ok (.iaload, 1) := by decide +kernel
theorem dX10_doLeave_17 : decode cX10_doLeave 17 = .ok (.if_icmp .ge 35, 3) := by decide +kernel
theorem dX10_doLeave_20 : decode cX10_doLeave 20 = .ok (.aload_n 0, 1) := by decide +kernel
theorem dX10_doLeave_21 : decode cX10_doLeave 21 = .ok (.iload_n 3, 1) := by decide +kernel
theorem dX10_doLeave_22 : decode cX10_doLeave 22 = .ok (.iconst 1, 1) := by decide +kernel
theorem dX10_doLeave_23 : decode cX10_doLeave 23 = .ok (.invokevirtual 29, 3) := by decide +kernel
theorem dX10_doLeave_26 : decode cX10_doLeave 26 = .ok (.iload_n 1, 1) := by decide +kernel
theorem dX10_doLeave_27 : decode cX10_doLeave 27 = .ok (.if_icmp .ne 19, 3) := by decide +kernel
theorem dX10_doLeave_30 : decode cX10_doLeave 30 = .ok (.aload_n 0, 1) := by decide +kernel
theorem dX10_doLeave_31 : decode cX10_doLeave 31 = .ok (.iload_n 3, 1) := by decide +kernel
theorem dX10_doLeave_32 : decode cX10_doLeave 32 = .ok (.iconst 2, 1) := by decide +kernel
theorem dX10_doLeave_33 : decode cX10_doLeave 33 = .ok (.invokevirtual 29, 3) := by decide +kernel
theorem dX10_doLeave_36 : decode cX10_doLeave 36 = .ok (.ifCond .ne 10, 3) := by decide +kernel
theorem dX10_doLeave_39 : decode cX10_doLeave 39 = .ok (.aload_n 0, 1) := by decide +kernel
theorem dX10_doLeave_40 : decode cX10_doLeave 40 = .ok (.iload_n 3, 1) := by decide +kernel
theorem dX10_doLeave_41 : decode cX10_doLeave 41 = .ok (.iconst 2, 1) := by decide +kernel
theorem dX10_doLeave_42 : decode cX10_doLeave 42 = .ok (.iconst 1, 1) := by decide +kernel
theorem dX10_doLeave_43 : decode cX10_doLeave 43 = .ok (.invokevirtual 53, 3) := by decide +kernel
theorem dX10_doLeave_46 : decode cX10_doLeave 46 = .ok (.iinc 3 1, 3) := by decide +kernel
theorem dX10_doLeave_49 : decode cX10_doLeave 49 = .ok (.goto (-41), 3) := by decide +kernel
theorem dX10_doLeave_52 : decode cX10_doLeave 52 = .ok (.iload_n 2, 1) := by decide +kernel
theorem dX10_doLeave_53 : decode cX10_doLeave 53 = .ok (.ireturn, 1) := by decide +kernel
theorem dX10_leave_0 : decode cX10_leave 0 = .ok (.aload_n 0, 1) := by decide +kernel
theorem dX10_leave_1 : decode cX10_leave 1 = .ok (.iload_n 1, 1) := by decide +kernel
theorem dX10_leave_2 : decode cX10_leave 2 = .ok (.invokevirtual 141, 3) := by decide +kernel
theorem dX10_leave_5 : decode cX10_leave 5 = .ok (.istore_n 2, 1) := by decide +kernel
theorem dX10_leave_6 : decode cX10_leave 6 = .ok (.iload_n 2, 1) := by decide +kernel
theorem dX10_leave_7 : decode cX10_leave 7 = .ok (.ifCond .ge 5, 3) := by decide +kernel
theorem dX10_leave_10 : decode cX10_leave 10 = .ok (.iload_n 2, 1) := by decide +kernel
theorem dX10_leave_11 : decode cX10_leave 11 = .ok (.ireturn, 1) := by decide +kernel
theorem dX10_leave_12 : decode cX10_leave 12 = .ok (.aload_n 0, 1) := by decide +kernel
theorem dX10_leave_13 : decode cX10_leave 13 = .ok (.aload_n 0, 1) := by decide +kernel
theorem dX10_leave_14 : decode cX10_leave 14 = .ok (.getfield 7, 3) := by decide +kernel
theorem dX10_leave_17 : decode cX10_leave 17 = .ok (.invokevirtual 76, 3) := by decide +kernel
theorem dX10_leave_20 : decode cX10_leave 20 = .ok (.aload_n 0, 1) := by decide +kernel
theorem dX10_leave_21 : decode cX10_leave 21 = .ok (.iload_n 1, 1) := by decide +kernel
theorem dX10_leave_22 : decode cX10_leave 22 = .ok (.invokevirtual 144, 3) := by decide +kernel
theorem dX10_leave_25 : decode cX10_leave 25 = .ok (.ireturn, 1) := by decide +kernel
theorem dX10_noBack_0 : decode cX10_noBack 0 = .ok (.aload_n 0, 1) := by decide +kernel
theorem dX10_noBack_1 : decode cX10_noBack 1 = .ok (.iload_n 1, 1) := by decide +kernel
theorem dX10_noBack_2 : decode cX10_noBack 2 = .ok (.invokevirtual 98, 3) := by decide +kernel
theorem dX10_noBack_5 : decode cX10_noBack 5 = .ok (.ifCond .eq 13, 3) := by decide +kernel
theorem dX10_noBack_8 : decode cX10_noBack 8 = .ok (.iload_n 2, 1) := by decide +kernel
theorem dX10_noBack_9 : decode cX10_noBack 9 = .ok (.iconst 0, 1) := by decide +kernel
theorem dX10_noBack_10 : decode cX10_noBack 10 = .ok (.bipush 99, 2) := by decide +kernel
theorem dX10_noBack_12 : decode cX10_noBack 12 = .ok (.invokestatic 25, 3) := by decide +kernel
theorem dX10_noBack_15 : decode cX10_noBack 15 = .ok (.ifCond .ne 6, 3) := by decide +kernel
theorem dX10_noBack_18 : decode cX10_noBack 18 = .ok (.ldc 64, 2) := by decide +kernel
theorem dX10_noBack_20 : decode cX10_noBack 20 = .ok (.ireturn, 1) := by decide +kernel
theorem dX10_noBack_21 : decode cX10_noBack 21 = .ok (.aload_n 0, 1) := by decide +kernel
theorem dX10_noBack_22 : decode cX10_noBack 22 = .ok (.iload_n 1, 1) := by decide +kernel
theorem dX10_noBack_23 : decode cX10_noBack 23 = .ok (.iconst 2, 1) := by decide +kernel
theorem dX10_noBack_24 : decode cX10_noBack 24 = .ok (.invokevirtual 29, 3) := by decide +kernel
theorem dX10_noBack_27 : decode cX10_noBack 27 = .ok (.iconst 1, 1) := by decide +kernel
theorem dX10_noBack_28 : decode cX10_noBack 28 = .ok (.if_icmp .ne 25, 3) := by decide +kernel
theorem dX10_noBack_31 : decode cX10_noBack 31 = .ok (.aload_n 0, 1) := by decide +kernel
theorem dX10_noBack_32 : decode cX10_noBack 32 = .ok (.iload_n 1, 1) := by decide +kernel
theorem dX10_noBack_33 : decode cX10_noBack 33 = .ok (.invokevirtual 95, 3) := by decide +kernel
theorem dX10_noBack_36 : decode cX10_noBack 36 = .ok (.iload_n 2, 1) := by decide +kernel
theorem dX10_noBack_37 : decode cX10_noBack 37 = .ok (.aload_n 0, 1) := by decide +kernel
theorem dX10_noBack_38 : decode cX10_noBack 38 = .ok (.getfield 7, 3) := by decide +kernel
theorem dX10_noBack_41 : decode cX10_noBack 41 = .ok (.sipush 205, 3) := by decide +kernel
theorem dX10_noBack_44 : decode cX10_noBack 44 = .ok (.iaload, 1) := by decide +kernel
theorem dX10_noBack_45 : decode cX10_noBack 45 = .ok (.imul, 1) := by decide +kernel
theorem dX10_noBack_46 : decode cX10_noBack 46 = .ok (.isub, 1) := by decide +kernel
theorem dX10_noBack_47 : decode cX10_noBack 47 = .ok (.sipush (-4000), 3) := by decide +kernel
theorem dX10_noBack_50 : decode cX10_noBack 50 = .ok (.if_icmp .ge 8, 3) := by decide +kernel
theorem dX10_noBack_53 : decode cX10_noBack 53 = .ok (.ldc 37, 2) := by decide +kernel
theorem dX10_noBack_55 : decode cX10_noBack 55 = .ok (.goto 4, 3) := by decide +kernel
theorem dX10_noBack_58 : decode cX10_noBack 58 = .ok (.iconst 0, 1) := by decide +kernel
theorem dX10_noBack_59 : decode cX10_noBack 59 = .ok (.ireturn, 1) := by decide +kernel
theorem dX10_doBack_0 : decode cX10_doBack 0 = .ok (.aload_n 0, 1) := by decide +kernel
theorem dX10_doBack_1 : decode cX10_doBack 1 = .ok (.iload_n 1, 1) := by decide +kernel
theorem dX10_doBack_2 : decode cX10_doBack 2 = .ok (.iconst 2, 1) := by decide +kernel
theorem dX10_doBack_3 : decode cX10_doBack 3 = .ok (.iconst 0, 1) := by decide +kernel
theorem dX10_doBack_4 : decode cX10_doBack 4 = .ok (.invokevirtual 53, 3) := by decide +kernel
theorem dX10_doBack_7 : decode cX10_doBack 7 = .ok (.aload_n 0, 1) := by decide +kernel
theorem dX10_doBack_8 : decode cX10_doBack 8 = .ok (.iload_n 1, 1) := by decide +kernel
theorem dX10_doBack_9 : decode cX10_doBack 9 = .ok (.bipush 6, 2) := by decide +kernel
theorem dX10_doBack_11 : decode cX10_doBack 11 = .ok (.iload_n 2, 1) := by decide +kernel
theorem dX10_doBack_12 : decode cX10_doBack 12 = .ok (.aload_n 0, 1) := by decide +kernel
theorem dX10_doBack_13 : decode cX10_doBack 13 = .ok (.getfield 7, 3) := by decide +kernel
theorem dX10_doBack_16 : decode cX10_doBack 16 = .ok (.sipush 205, 3) := by decide +kernel
theorem dX10_doBack_19 : decode cX10_doBack 19 = .ok (.iaload, 1) := by decide +kernel
theorem dX10_doBack_20 : decode cX10_doBack 20 = .ok (.imul, 1) := by decide +kernel
theorem dX10_doBack_21 : decode cX10_doBack 21 = .ok (.invokevirtual 104, 3) := by decide +kernel
theorem dX10_doBack_24 : decode cX10_doBack 24 = .ok (.iload_n 2, 1) := by decide +kernel
theorem dX10_doBack_25 : decode cX10_doBack 25 = .ok (.aload_n 0, 1) := by decide +kernel
theorem dX10_doBack_26 : decode cX10_doBack 26 = .ok (.getfield 7, 3) := by decide +kernel
theorem dX10_doBack_29 : decode cX10_doBack 29 = .ok (.sipush 205, 3) := by decide +kernel
theorem dX10_doBack_32 : decode cX10_doBack 32 = .ok (.iaload, 1) := by decide +kernel
theorem dX10_doBack_33 : decode cX10_doBack 33 = .ok (.imul, 1) := by decide +kernel
theorem dX10_doBack_34 : decode cX10_doBack 34 = .ok (.ireturn, 1) := by decide +kernel
theorem dX10_back_0 : decode cX10_back 0 = .ok (.aload_n 0, 1) := by decide +kernel
theorem dX10_back_1 : decode cX10_back 1 = .ok (.iload_n 1, 1) := by decide +kernel
theorem dX10_back_2 : decode cX10_back 2 = .ok (.iload_n 2, 1) := by decide +kernel
theorem dX10_back_3 : decode cX10_back 3 = .ok (.invokevirtual 147, 3) := by decide +kernel
theorem dX10_back_6 : decode cX10_back 6 = .ok (.istore_n 3, 1) := by decide +kernel
theorem dX10_back_7 : decode cX10_back 7 = .ok (.iload_n 3, 1) := by decide +kernel
theorem dX10_back_8 : decode cX10_back 8 = .ok (.ifCond .ge 5, 3) := by decide +kernel
theorem dX10_back_11 : decode cX10_back 11 = .ok (.iload_n 3, 1) := by decide +kernel
theorem dX10_back_12 : decode cX10_back 12 = .ok (.ireturn, 1) := by decide +kernel
theorem dX10_back_13 : decode cX10_back 13 = .ok (.aload_n 0, 1) := by decide +kernel
theorem dX10_back_14 : decode cX10_back 14 = .ok (.aload_n 0, 1) := by decide +kernel
theorem dX10_back_15 : decode cX10_back 15 = .ok (.getfield 7, 3) := by decide +kernel
theorem dX10_back_18 : decode cX10_back 18 = .ok (.invokevirtual 76, 3) := by decide +kernel
theorem dX10_back_21 : decode cX10_back 21 = .ok (.aload_n 0, 1) := by decide +kernel
theorem dX10_back_22 : decode cX10_back 22 = .ok (.iload_n 1, 1) := by decide +kernel
theorem dX10_back_23 : decode cX10_back 23 = .ok (.iload_n 2, 1) := by decide +kernel
theorem dX10_back_24 : decode cX10_back 24 = .ok (.invokevirtual 150, 3) := by decide +kernel
theorem dX10_back_27 : decode cX10_back 27 = .ok (.ireturn, 1) := by decide +kernel
theorem dX10_noSail_0 : decode cX10_noSail 0 = .ok (.aload_n 0, 1) := by decide +kernel
theorem dX10_noSail_1 : decode cX10_noSail 1 = .ok (.invokevirtual 65, 3) := by decide +kernel
theorem dX10_noSail_4 : decode cX10_noSail 4 = .ok (.ifCond .eq 8, 3) := by decide +kernel
theorem dX10_noSail_7 : decode cX10_noSail 7 = .ok (.ldc 37, 2) := by decide +kernel
theorem dX10_noSail_9 : decode cX10_noSail 9 = .ok (.goto 4, 3) := by decide +kernel
theorem dX10_noSail_12 : decode cX10_noSail 12 = .ok (.iconst 0, 1) := by decide +kernel
theorem dX10_noSail_13 : decode cX10_noSail 13 = .ok (.ireturn, 1) := by decide +kernel
theorem dX10_doSail_0 : decode cX10_doSail 0 = .ok (.iconst 0, 1) := by decide +kernel
theorem dX10_doSail_1 : decode cX10_doSail 1 = .ok (.istore_n 1, 1) := by decide +kernel
theorem dX10_doSail_2 : decode cX10_doSail 2 = .ok (.iconst 0, 1) := by decide +kernel
theorem dX10_doSail_3 : decode cX10_doSail 3 = .ok (.istore_n 2, 1) := by decide +kernel
theorem dX10_doSail_4 : decode cX10_doSail 4 = .ok (.iload_n 2, 1) := by decide +kernel
theorem dX10_doSail_5 : decode cX10_doSail 5 = .ok (.aload_n 0, 1) := by decide +kernel
theorem dX10_doSail_6 : decode cX10_doSail 6 = .ok (.getfield 7, 3) := by decide +kernel
theorem dX10_doSail_9 : decode cX10_doSail 9 = .ok (.sipush 194, 3) := by decide +kernel
theorem dX10_doSail_12 : decode cX10_doSail 12 = .ok (.iaload, 1) := by decide +kernel
theorem dX10_doSail_13 : decode cX10_doSail 13 = .ok (.if_icmp .ge 50, 3) := by decide +kernel
theorem dX10_doSail_16 : decode cX10_doSail 16 = .ok (.aload_n 0, 1) := by decide +kernel
theorem dX10_doSail_17 : decode cX10_doSail 17 = .ok (.iload_n 2, 1) := by decide +kernel
theorem dX10_doSail_18 : decode cX10_doSail 18 = .ok (.iconst 2, 1) := by decide +kernel
theorem dX10_doSail_19 : decode cX10_doSail 19 = .ok (.invokevirtual 29, 3) := by decide +kernel
theorem dX10_doSail_22 : decode cX10_doSail 22 = .ok (.iconst 1, 1) := by decide +kernel
theorem dX10_doSail_23 : decode cX10_doSail 23 = .ok (.if_icmp .ne 34, 3) := by decide +kernel
theorem dX10_doSail_26 : decode cX10_doSail 26 = .ok (.aload_n 0, 1) := by decide +kernel
theorem dX10_doSail_27 : decode cX10_doSail 27 = .ok (.getfield 7, 3) := by decide +kernel
theorem dX10_doSail_30 : decode cX10_doSail 30 = .ok (.sipush 202, 3) := by decide +kernel
theorem dX10_doSail_33 : decode cX10_doSail 33 = .ok (.dup2, 1) := by decide +kernel
theorem dX10_doSail_34 : decode cX10_doSail 34 = .ok (.iaload, 1) := by decide +kernel
theorem dX10_doSail_35 : decode cX10_doSail 35 = .ok (.aload_n 0, 1) := by decide +kernel
theorem dX10_doSail_36 : decode cX10_doSail 36 = .ok (.iload_n 2, 1) := by decide +kernel
theorem dX10_doSail_37 : decode cX10_doSail 37 = .ok (.invokevirtual 95, 3) := by decide +kernel
theorem dX10_doSail_40 : decode cX10_doSail 40 = .ok (.iadd, 1) := by decide +kernel
theorem dX10_doSail_41 : decode cX10_doSail 41 = .ok (.iastore, 1) := by decide +kernel
theorem dX10_doSail_42 : decode cX10_doSail 42 = .ok (.aload_n 0, 1) := by decide +kernel
theorem dX10_doSail_43 : decode cX10_doSail 43 = .ok (.iload_n 2, 1) := by decide +kernel
theorem dX10_doSail_44 : decode cX10_doSail 44 = .ok (.iconst 2, 1) := by decide +kernel
theorem dX10_doSail_45 : decode cX10_doSail 45 = .ok (.iconst 2, 1) := by decide +kernel
theorem dX10_doSail_46 : decode cX10_doSail 46 = .ok (.invokevirtual 53, 3) := by decide +kernel
theorem dX10_doSail_49 : decode cX10_doSail 49 = .ok (.aload_n 0, 1) := by decide +kernel
theorem dX10_doSail_50 : decode cX10_doSail 50 = .ok (.iload_n 2, 1) := by decide +kernel
theorem dX10_doSail_51 : decode cX10_doSail 51 = .ok (.invokevirtual 70, 3) := by decide +kernel
theorem dX10_doSail_54 : decode cX10_doSail 54 = .ok (.iinc 1 1, 3) := by decide +kernel
theorem dX10_doSail_57 : decode cX10_doSail 57 = .ok (.iinc 2 1, 3) := by decide +kernel
theorem dX10_doSail_60 : decode cX10_doSail 60 = .ok (.goto (-56), 3) := by decide +kernel
theorem dX10_doSail_63 : decode cX10_doSail 63 = .ok (.aload_n 0, 1) := by decide +kernel
theorem dX10_doSail_64 : decode cX10_doSail 64 = .ok (.getfield 7, 3) := by decide +kernel
theorem dX10_doSail_67 : decode cX10_doSail 67 = .ok (.sipush 191, 3) := by decide +kernel
theorem dX10_doSail_70 : decode cX10_doSail 70 = .ok (.iconst 1, 1) := by decide +kernel
theorem dX10_doSail_71 : decode cX10_doSail 71 = .ok (.iastore, 1) := by decide +kernel
theorem dX10_doSail_72 : decode cX10_doSail 72 = .ok (.iload_n 1, 1) := by decide +kernel
theorem dX10_doSail_73 : decode cX10_doSail 73 = .ok (.ireturn, 1) := by decide +kernel
theorem dX10_sail_0 : decode cX10_sail 0 = .ok (.aload_n 0, 1) := by decide +kernel
theorem dX10_sail_1 : decode cX10_sail 1 = .ok (.invokevirtual 153, 3) := by decide +kernel
theorem dX10_sail_4 : decode cX10_sail 4 = .ok (.istore_n 1, 1) := by decide +kernel
theorem dX10_sail_5 : decode cX10_sail 5 = .ok (.iload_n 1, 1) := by decide +kernel
theorem dX10_sail_6 : decode cX10_sail 6 = .ok (.ifCond .ge 5, 3) := by decide +kernel
theorem dX10_sail_9 : decode cX10_sail 9 = .ok (.iload_n 1, 1) := by decide +kernel
theorem dX10_sail_10 : decode cX10_sail 10 = .ok (.ireturn, 1) := by decide +kernel
theorem dX10_sail_11 : decode cX10_sail 11 = .ok (.aload_n 0, 1) := by decide +kernel
theorem dX10_sail_12 : decode cX10_sail 12 = .ok (.aload_n 0, 1) := by decide +kernel
theorem dX10_sail_13 : decode cX10_sail 13 = .ok (.getfield 7, 3) := by decide +kernel
theorem dX10_sail_16 : decode cX10_sail 16 = .ok (.invokevirtual 76, 3) := by decide +kernel
theorem dX10_sail_19 : decode cX10_sail 19 = .ok (.aload_n 0, 1) := by decide +kernel
theorem dX10_sail_20 : decode cX10_sail 20 = .ok (.invokevirtual 157, 3) := by decide +kernel
theorem dX10_sail_23 : decode cX10_sail 23 = .ok (.ireturn, 1) := by decide +kernel
theorem dX10_noPort_0 : decode cX10_noPort 0 = .ok (.aload_n 0, 1) := by decide +kernel
theorem dX10_noPort_1 : decode cX10_noPort 1 = .ok (.invokevirtual 65, 3) := by decide +kernel
theorem dX10_noPort_4 : decode cX10_noPort 4 = .ok (.ifCond .eq 7, 3) := by decide +kernel
theorem dX10_noPort_7 : decode cX10_noPort 7 = .ok (.iconst 0, 1) := by decide +kernel
theorem dX10_noPort_8 : decode cX10_noPort 8 = .ok (.goto 5, 3) := by decide +kernel
theorem dX10_noPort_11 : decode cX10_noPort 11 = .ok (.ldc 37, 2) := by decide +kernel
theorem dX10_noPort_13 : decode cX10_noPort 13 = .ok (.ireturn, 1) := by decide +kernel
theorem dX10_doPort_0 : decode cX10_doPort 0 = .ok (.aload_n 0, 1) := by decide +kernel
theorem dX10_doPort_1 : decode cX10_doPort 1 = .ok (.getfield 7, 3) := by decide +kernel
theorem dX10_doPort_4 : decode cX10_doPort 4 = .ok (.sipush 191, 3) := by decide +kernel
theorem dX10_doPort_7 : decode cX10_doPort 7 = .ok (.iconst 0, 1) := by decide +kernel
theorem dX10_doPort_8 : decode cX10_doPort 8 = .ok (.iastore, 1) := by decide +kernel
theorem dX10_doPort_9 : decode cX10_doPort 9 = .ok (.aload_n 0, 1) := by decide +kernel
theorem dX10_doPort_10 : decode cX10_doPort 10 = .ok (.getfield 7, 3) := by decide +kernel
theorem dX10_doPort_13 : decode cX10_doPort 13 = .ok (.sipush 193, 3) := by decide +kernel
theorem dX10_doPort_16 : decode cX10_doPort 16 = .ok (.dup2, 1) := by decide +kernel
theorem dX10_doPort_17 : decode cX10_doPort 17 = .ok (.iaload, 1) := by decide +kernel
theorem dX10_doPort_18 : decode cX10_doPort 18 = .ok (.iconst 1, 1) := by decide +kernel
theorem dX10_doPort_19 : decode cX10_doPort 19 = .ok (.iadd, 1) := by decide +kernel
theorem dX10_doPort_20 : decode cX10_doPort 20 = .ok (.iastore, 1) := by decide +kernel
theorem dX10_doPort_21 : decode cX10_doPort 21 = .ok (.aload_n 0, 1) := by decide +kernel
theorem dX10_doPort_22 : decode cX10_doPort 22 = .ok (.getfield 7, 3) := by decide +kernel
theorem dX10_doPort_25 : decode cX10_doPort 25 = .ok (.sipush 193, 3) := by decide +kernel
theorem dX10_doPort_28 : decode cX10_doPort 28 = .ok (.iaload, 1) := by decide +kernel
theorem dX10_doPort_29 : decode cX10_doPort 29 = .ok (.ireturn, 1) := by decide +kernel
theorem dX10_port_0 : decode cX10_port 0 = .ok (.aload_n 0, 1) := by decide +kernel
theorem dX10_port_1 : decode cX10_port 1 = .ok (.invokevirtual 160, 3) := by decide +kernel
theorem dX10_port_4 : decode cX10_port 4 = .ok (.istore_n 1, 1) := by decide +kernel
theorem dX10_port_5 : decode cX10_port 5 = .ok (.iload_n 1, 1) := by decide +kernel
theorem dX10_port_6 : decode cX10_port 6 = .ok (.ifCond .ge 5, 3) := by decide +kernel
theorem dX10_port_9 : decode cX10_port 9 = .ok (.iload_n 1, 1) := by decide +kernel
theorem dX10_port_10 : decode cX10_port 10 = .ok (.ireturn, 1) := by decide +kernel
theorem dX10_port_11 : decode cX10_port 11 = .ok (.aload_n 0, 1) := by decide +kernel
theorem dX10_port_12 : decode cX10_port 12 = .ok (.aload_n 0, 1) := by decide +kernel
theorem dX10_port_13 : decode cX10_port 13 = .ok (.getfield 7, 3) := by decide +kernel
theorem dX10_port_16 : decode cX10_port 16 = .ok (.invokevirtual 76, 3) := by decide +kernel
theorem dX10_port_19 : decode cX10_port 19 = .ok (.aload_n 0, 1) := by decide +kernel
theorem dX10_port_20 : decode cX10_port 20 = .ok (.invokevirtual 163, 3) := by decide +kernel
theorem dX10_port_23 : decode cX10_port 23 = .ok (.ireturn, 1) := by decide +kernel
theorem dX10_noDays_0 : decode cX10_noDays 0 = .ok (.iload_n 1, 1) := by decide +kernel
theorem dX10_noDays_1 : decode cX10_noDays 1 = .ok (.iconst 1, 1) := by decide +kernel
theorem dX10_noDays_2 : decode cX10_noDays 2 = .ok (.bipush 99, 2) := by decide +kernel
theorem dX10_noDays_4 : decode cX10_noDays 4 = .ok (.invokestatic 25, 3) := by decide +kernel
theorem dX10_noDays_7 : decode cX10_noDays 7 = .ok (.ifCond .ne 8, 3) := by decide +kernel
theorem dX10_noDays_10 : decode cX10_noDays 10 = .ok (.ldc 64, 2) := by decide +kernel
theorem dX10_noDays_12 : decode cX10_noDays 12 = .ok (.goto 25, 3) := by decide +kernel
theorem dX10_noDays_15 : decode cX10_noDays 15 = .ok (.aload_n 0, 1) := by decide +kernel
theorem dX10_noDays_16 : decode cX10_noDays 16 = .ok (.getfield 7, 3) := by decide +kernel
theorem dX10_noDays_19 : decode cX10_noDays 19 = .ok (.sipush 192, 3) := by decide +kernel
theorem dX10_noDays_22 : decode cX10_noDays 22 = .ok (.iaload, 1) := by decide +kernel
theorem dX10_noDays_23 : decode cX10_noDays 23 = .ok (.iload_n 1, 1) := by decide +kernel
theorem dX10_noDays_24 : decode cX10_noDays 24 = .ok (.iadd, 1) := by decide +kernel
theorem dX10_noDays_25 : decode cX10_noDays 25 = .ok (.sipush 999, 3) := by decide +kernel
theorem dX10_noDays_28 : decode cX10_noDays 28 = .ok (.if_icmp .le 8, 3) := by decide +kernel
theorem dX10_noDays_31 : decode cX10_noDays 31 = .ok (.ldc 69, 2) := by decide +kernel
theorem dX10_noDays_33 : decode cX10_noDays 33 = .ok (.goto 4, 3) := by decide +kernel
theorem dX10_noDays_36 : decode cX10_noDays 36 = .ok (.iconst 0, 1) := by decide +kernel
theorem dX10_noDays_37 : decode cX10_noDays 37 = .ok (.ireturn, 1) := by decide +kernel
theorem dX10_doDays_0 : decode cX10_doDays 0 = .ok (.aload_n 0, 1) := by decide +kernel
theorem dX10_doDays_1 : decode cX10_doDays 1 = .ok (.getfield 7, 3) := by decide +kernel
theorem dX10_doDays_4 : decode cX10_doDays 4 = .ok (.sipush 192, 3) := by decide +kernel
theorem dX10_doDays_7 : decode cX10_doDays 7 = .ok (.dup2, 1) := by decide +kernel
theorem dX10_doDays_8 : decode cX10_doDays 8 = .ok (.iaload, 1) := by decide +kernel
theorem dX10_doDays_9 : decode cX10_doDays 9 = .ok (.iload_n 1, 1) := by decide +kernel
theorem dX10_doDays_10 : decode cX10_doDays 10 = .ok (.iadd, 1) := by decide +kernel
theorem dX10_doDays_11 : decode cX10_doDays 11 = .ok (.iastore, 1) := by decide +kernel
theorem dX10_doDays_12 : decode cX10_doDays 12 = .ok (.iconst 0, 1) := by decide +kernel
theorem dX10_doDays_13 : decode cX10_doDays 13 = .ok (.istore_n 2, 1) := by decide +kernel
theorem dX10_doDays_14 : decode cX10_doDays 14 = .ok (.iload_n 2, 1) := by decide +kernel
theorem dX10_doDays_15 : decode cX10_doDays 15 = .ok (.aload_n 0, 1) := by decide +kernel
theorem dX10_doDays_16 : decode cX10_doDays 16 = .ok (.getfield 7, 3) := by decide +kernel
theorem dX10_doDays_19 : decode cX10_doDays 19 = .ok (.sipush 194, 3) := by decide +kernel
theorem dX10_doDays_22 : decode cX10_doDays 22 = .ok (.iaload, 1) := by decide +kernel
theorem dX10_doDays_23 : decode cX10_doDays 23 = .ok (.if_icmp .ge 44, 3) := by decide +kernel
theorem dX10_doDays_26 : decode cX10_doDays 26 = .ok (.aload_n 0, 1) := by decide +kernel
theorem dX10_doDays_27 : decode cX10_doDays 27 = .ok (.iload_n 2, 1) := by decide +kernel
theorem dX10_doDays_28 : decode cX10_doDays 28 = .ok (.invokevirtual 42, 3) := by decide +kernel
theorem dX10_doDays_31 : decode cX10_doDays 31 = .ok (.ifCond .ne 30, 3) := by decide +kernel
theorem dX10_doDays_34 : decode cX10_doDays 34 = .ok (.aload_n 0, 1) := by decide +kernel
theorem dX10_doDays_35 : decode cX10_doDays 35 = .ok (.invokevirtual 65, 3) := by decide +kernel
theorem dX10_doDays_38 : decode cX10_doDays 38 = .ok (.ifCond .eq 7, 3) := by decide +kernel
theorem dX10_doDays_41 : decode cX10_doDays 41 = .ok (.iconst 3, 1) := by decide +kernel
theorem dX10_doDays_42 : decode cX10_doDays 42 = .ok (.goto 4, 3) := by decide +kernel
theorem dX10_doDays_45 : decode cX10_doDays 45 = .ok (.iconst 4, 1) := by decide +kernel
theorem dX10_doDays_46 : decode cX10_doDays 46 = .ok (.istore_n 3, 1) := by decide +kernel
theorem dX10_doDays_47 : decode cX10_doDays 47 = .ok (.aload_n 0, 1) := by decide +kernel
theorem dX10_doDays_48 : decode cX10_doDays 48 = .ok (.iload_n 2, 1) := by decide +kernel
theorem dX10_doDays_49 : decode cX10_doDays 49 = .ok (.iload_n 3, 1) := by decide +kernel
theorem dX10_doDays_50 : decode cX10_doDays 50 = .ok (.aload_n 0, 1) := by decide +kernel
theorem dX10_doDays_51 : decode cX10_doDays 51 = .ok (.iload_n 2, 1) := by decide +kernel
theorem dX10_doDays_52 : decode cX10_doDays 52 = .ok (.iload_n 3, 1) := by decide +kernel
theorem dX10_doDays_53 : decode cX10_doDays 53 = .ok (.invokevirtual 29, 3) := by decide +kernel
theorem dX10_doDays_56 : decode cX10_doDays 56 = .ok (.iload_n 1, 1) := by decide +kernel
theorem dX10_doDays_57 : decode cX10_doDays 57 = .ok (.iadd, 1) := by decide +kernel
theorem dX10_doDays_58 : decode cX10_doDays 58 = .ok (.invokevirtual 53, 3) := by decide +kernel
theorem dX10_doDays_61 : decode cX10_doDays 61 = .ok (.iinc 2 1, 3) := by decide +kernel
theorem dX10_doDays_64 : decode cX10_doDays 64 = .ok (.goto (-50), 3) := by decide +kernel
theorem dX10_doDays_67 : decode cX10_doDays 67 = .ok (.aload_n 0, 1) := by decide +kernel
theorem dX10_doDays_68 : decode cX10_doDays 68 = .ok (.getfield 7, 3) := by decide +kernel
theorem dX10_doDays_71 : decode cX10_doDays 71 = .ok (.sipush 192, 3) := by decide +kernel
theorem dX10_doDays_74 : decode cX10_doDays 74 = .ok (.iaload, 1) := by decide +kernel
theorem dX10_doDays_75 : decode cX10_doDays 75 = .ok (.ireturn, 1) := by decide +kernel
theorem dX10_days_0 : decode cX10_days 0 = .ok (.aload_n 0, 1) := by decide +kernel
theorem dX10_days_1 : decode cX10_days 1 = .ok (.iload_n 1, 1) := by decide +kernel
theorem dX10_days_2 : decode cX10_days 2 = .ok (.invokevirtual 166, 3) := by decide +kernel
theorem dX10_days_5 : decode cX10_days 5 = .ok (.istore_n 2, 1) := by decide +kernel
theorem dX10_days_6 : decode cX10_days 6 = .ok (.iload_n 2, 1) := by decide +kernel
theorem dX10_days_7 : decode cX10_days 7 = .ok (.ifCond .ge 5, 3) := by decide +kernel
theorem dX10_days_10 : decode cX10_days 10 = .ok (.iload_n 2, 1) := by decide +kernel
theorem dX10_days_11 : decode cX10_days 11 = .ok (.ireturn, 1) := by decide +kernel
theorem dX10_days_12 : decode cX10_days 12 = .ok (.aload_n 0, 1) := by decide +kernel
theorem dX10_days_13 : decode cX10_days 13 = .ok (.aload_n 0, 1) := by decide +kernel
theorem dX10_days_14 : decode cX10_days 14 = .ok (.getfield 7, 3) := by decide +kernel
theorem dX10_days_17 : decode cX10_days 17 = .ok (.invokevirtual 76, 3) := by decide +kernel
theorem dX10_days_20 : decode cX10_days 20 = .ok (.aload_n 0, 1) := by decide +kernel
theorem dX10_days_21 : decode cX10_days 21 = .ok (.iload_n 1, 1) := by decide +kernel
theorem dX10_days_22 : decode cX10_days 22 = .ok (.invokevirtual 169, 3) := by decide +kernel
theorem dX10_days_25 : decode cX10_days 25 = .ok (.ireturn, 1) := by decide +kernel
theorem dX10_dismiss_0 : decode cX10_dismiss 0 = .ok (.aload_n 0, 1) := by decide +kernel
theorem dX10_dismiss_1 : decode cX10_dismiss 1 = .ok (.iload_n 1, 1) := by decide +kernel
theorem dX10_dismiss_2 : decode cX10_dismiss 2 = .ok (.invokevirtual 98, 3) := by decide +kernel
theorem dX10_dismiss_5 : decode cX10_dismiss 5 = .ok (.ifCond .ne 6, 3) := by decide +kernel
theorem dX10_dismiss_8 : decode cX10_dismiss 8 = .ok (.ldc 64, 2) := by decide +kernel
theorem dX10_dismiss_10 : decode cX10_dismiss 10 = .ok (.ireturn, 1) := by decide +kernel
theorem dX10_dismiss_11 : decode cX10_dismiss 11 = .ok (.aload_n 0, 1) := by decide +kernel
theorem dX10_dismiss_12 : decode cX10_dismiss 12 = .ok (.invokevirtual 65, 3) := by decide +kernel
theorem dX10_dismiss_15 : decode cX10_dismiss 15 = .ok (.ifCond .ne 19, 3) := by decide +kernel
theorem dX10_dismiss_18 : decode cX10_dismiss 18 = .ok (.aload_n 0, 1) := by decide +kernel
theorem dX10_dismiss_19 : decode cX10_dismiss 19 = .ok (.iload_n 1, 1) := by decide +kernel
theorem dX10_dismiss_20 : decode cX10_dismiss 20 = .ok (.invokevirtual 42, 3) := by decide +kernel
theorem dX10_dismiss_23 : decode cX10_dismiss 23 = .ok (.ifCond .ne 11, 3) := by decide +kernel
theorem dX10_dismiss_26 : decode cX10_dismiss 26 = .ok (.aload_n 0, 1) := by decide +kernel
theorem dX10_dismiss_27 : decode cX10_dismiss 27 = .ok (.iload_n 1, 1) := by decide +kernel
theorem dX10_dismiss_28 : decode cX10_dismiss 28 = .ok (.invokevirtual 95, 3) := by decide +kernel
theorem dX10_dismiss_31 : decode cX10_dismiss 31 = .ok (.ifCond .ge 6, 3) := by decide +kernel
theorem dX10_dismiss_34 : decode cX10_dismiss 34 = .ok (.ldc 37, 2) := by decide +kernel
theorem dX10_dismiss_36 : decode cX10_dismiss 36 = .ok (.ireturn, 1) := by decide +kernel
theorem dX10_dismiss_37 : decode cX10_dismiss 37 = .ok (.aload_n 0, 1) := by decide +kernel
theorem dX10_dismiss_38 : decode cX10_dismiss 38 = .ok (.aload_n 0, 1) := by decide +kernel
theorem dX10_dismiss_39 : decode cX10_dismiss 39 = .ok (.getfield 7, 3) := by decide +kernel
theorem dX10_dismiss_42 : decode cX10_dismiss 42 = .ok (.invokevirtual 76, 3) := by decide +kernel
theorem dX10_dismiss_45 : decode cX10_dismiss 45 = .ok (.aload_n 0, 1) := by decide +kernel
theorem dX10_dismiss_46 : decode cX10_dismiss 46 = .ok (.iload_n 1, 1) := by decide +kernel
theorem dX10_dismiss_47 : decode cX10_dismiss 47 = .ok (.invokevirtual 95, 3) := by decide +kernel
theorem dX10_dismiss_50 : decode cX10_dismiss 50 = .ok (.istore_n 2, 1) := by decide +kernel
theorem dX10_dismiss_51 : decode cX10_dismiss 51 = .ok (.aload_n 0, 1) := by decide +kernel
theorem dX10_dismiss_52 : decode cX10_dismiss 52 = .ok (.iload_n 1, 1) := by decide +kernel
theorem dX10_dismiss_53 : decode cX10_dismiss 53 = .ok (.iload_n 2, 1) := by decide +kernel
theorem dX10_dismiss_54 : decode cX10_dismiss 54 = .ok (.invokevirtual 172, 3) := by decide +kernel
theorem dX10_dismiss_57 : decode cX10_dismiss 57 = .ok (.aload_n 0, 1) := by decide +kernel
theorem dX10_dismiss_58 : decode cX10_dismiss 58 = .ok (.iload_n 1, 1) := by decide +kernel
theorem dX10_dismiss_59 : decode cX10_dismiss 59 = .ok (.iconst 2, 1) := by decide +kernel
theorem dX10_dismiss_60 : decode cX10_dismiss 60 = .ok (.iconst 2, 1) := by decide +kernel
theorem dX10_dismiss_61 : decode cX10_dismiss 61 = .ok (.invokevirtual 53, 3) := by decide +kernel
theorem dX10_dismiss_64 : decode cX10_dismiss 64 = .ok (.aload_n 0, 1) := by decide +kernel
theorem dX10_dismiss_65 : decode cX10_dismiss 65 = .ok (.iload_n 1, 1) := by decide +kernel
theorem dX10_dismiss_66 : decode cX10_dismiss 66 = .ok (.invokevirtual 70, 3) := by decide +kernel
theorem dX10_dismiss_69 : decode cX10_dismiss 69 = .ok (.iload_n 2, 1) := by decide +kernel
theorem dX10_dismiss_70 : decode cX10_dismiss 70 = .ok (.ireturn, 1) := by decide +kernel
theorem dX10_noPayOff_0 : decode cX10_noPayOff 0 = .ok (.aload_n 0, 1) := by decide +kernel
theorem dX10_noPayOff_1 : decode cX10_noPayOff 1 = .ok (.invokevirtual 65, 3) := by decide +kernel
theorem dX10_noPayOff_4 : decode cX10_noPayOff 4 = .ok (.ifCond .ne 14, 3) := by decide +kernel
theorem dX10_noPayOff_7 : decode cX10_noPayOff 7 = .ok (.aload_n 0, 1) := by decide +kernel
theorem dX10_noPayOff_8 : decode cX10_noPayOff 8 = .ok (.getfield 7, 3) := by decide +kernel
theorem dX10_noPayOff_11 : decode cX10_noPayOff 11 = .ok (.sipush 192, 3) := by decide +kernel
theorem dX10_noPayOff_14 : decode cX10_noPayOff 14 = .ok (.iaload, 1) := by decide +kernel
theorem dX10_noPayOff_15 : decode cX10_noPayOff 15 = .ok (.ifCond .ne 8, 3) := by decide +kernel
theorem dX10_noPayOff_18 : decode cX10_noPayOff 18 = .ok (.ldc 37, 2) := by decide +kernel
theorem dX10_noPayOff_20 : decode cX10_noPayOff 20 = .ok (.goto 4, 3) := by decide +kernel
theorem dX10_noPayOff_23 : decode cX10_noPayOff 23 = .ok (.iconst 0, 1) := by decide +kernel
theorem dX10_noPayOff_24 : decode cX10_noPayOff 24 = .ok (.ireturn, 1) := by decide +kernel
theorem dX10_doPayOff_0 : decode cX10_doPayOff 0 = .ok (.iconst 0, 1) := by decide +kernel
theorem dX10_doPayOff_1 : decode cX10_doPayOff 1 = .ok (.istore_n 1, 1) := by decide +kernel
theorem dX10_doPayOff_2 : decode cX10_doPayOff 2 = .ok (.iconst 0, 1) := by decide +kernel
theorem dX10_doPayOff_3 : decode cX10_doPayOff 3 = .ok (.istore_n 2, 1) := by decide +kernel
theorem dX10_doPayOff_4 : decode cX10_doPayOff 4 = .ok (.iload_n 2, 1) := by decide +kernel
theorem dX10_doPayOff_5 : decode cX10_doPayOff 5 = .ok (.aload_n 0, 1) := by decide +kernel
theorem dX10_doPayOff_6 : decode cX10_doPayOff 6 = .ok (.getfield 7, 3) := by decide +kernel
theorem dX10_doPayOff_9 : decode cX10_doPayOff 9 = .ok (.sipush 194, 3) := by decide +kernel
theorem dX10_doPayOff_12 : decode cX10_doPayOff 12 = .ok (.iaload, 1) := by decide +kernel
theorem dX10_doPayOff_13 : decode cX10_doPayOff 13 = .ok (.if_icmp .ge 58, 3) := by decide +kernel
theorem dX10_doPayOff_16 : decode cX10_doPayOff 16 = .ok (.aload_n 0, 1) := by decide +kernel
theorem dX10_doPayOff_17 : decode cX10_doPayOff 17 = .ok (.iload_n 2, 1) := by decide +kernel
theorem dX10_doPayOff_18 : decode cX10_doPayOff 18 = .ok (.invokevirtual 42, 3) := by decide +kernel
theorem dX10_doPayOff_21 : decode cX10_doPayOff 21 = .ok (.ifCond .ne 44, 3) := by decide +kernel
theorem dX10_doPayOff_24 : decode cX10_doPayOff 24 = .ok (.aload_n 0, 1) := by decide +kernel
theorem dX10_doPayOff_25 : decode cX10_doPayOff 25 = .ok (.iload_n 2, 1) := by decide +kernel
theorem dX10_doPayOff_26 : decode cX10_doPayOff 26 = .ok (.invokevirtual 95, 3) := by decide +kernel
theorem dX10_doPayOff_29 : decode cX10_doPayOff 29 = .ok (.istore_n 3, 1) := by decide +kernel
theorem dX10_doPayOff_30 : decode cX10_doPayOff 30 = .ok (.iload_n 3, 1) := by decide +kernel
theorem dX10_doPayOff_31 : decode cX10_doPayOff 31 = .ok (.ifCond .le 13, 3) := by decide +kernel
theorem dX10_doPayOff_34 : decode cX10_doPayOff 34 = .ok (.aload_n 0, 1) := by decide +kernel
theorem dX10_doPayOff_35 : decode cX10_doPayOff 35 = .ok (.iload_n 2, 1) := by decide +kernel
theorem dX10_doPayOff_36 : decode cX10_doPayOff 36 = .ok (.iload_n 3, 1) := by decide +kernel
theorem dX10_doPayOff_37 : decode cX10_doPayOff 37 = .ok (.invokevirtual 172, 3) := by decide +kernel
theorem dX10_doPayOff_40 : decode cX10_doPayOff 40 = .ok (.iload_n 1, 1) := by decide +kernel
theorem dX10_doPayOff_41 : decode cX10_doPayOff 41 = .ok (.iload_n 3, 1) := by decide +kernel
theorem dX10_doPayOff_42 : decode cX10_doPayOff 42 = .ok (.iadd, 1) := by decide +kernel
theorem dX10_doPayOff_43 : decode cX10_doPayOff 43 = .ok (.istore_n 1, 1) := by decide +kernel
theorem dX10_doPayOff_44 : decode cX10_doPayOff 44 = .ok (.aload_n 0, 1) := by decide +kernel
theorem dX10_doPayOff_45 : decode cX10_doPayOff 45 = .ok (.iload_n 2, 1) := by decide +kernel
theorem dX10_doPayOff_46 : decode cX10_doPayOff 46 = .ok (.invokevirtual 70, 3) := by decide +kernel
theorem dX10_doPayOff_49 : decode cX10_doPayOff 49 = .ok (.aload_n 0, 1) := by decide +kernel
theorem dX10_doPayOff_50 : decode cX10_doPayOff 50 = .ok (.iload_n 2, 1) := by decide +kernel
theorem dX10_doPayOff_51 : decode cX10_doPayOff 51 = .ok (.bipush 8, 2) := by decide +kernel
theorem dX10_doPayOff_53 : decode cX10_doPayOff 53 = .ok (.iload_n 3, 1) := by decide +kernel
theorem dX10_doPayOff_54 : decode cX10_doPayOff 54 = .ok (.ifCond .ge 7, 3) := by decide +kernel
theorem dX10_doPayOff_57 : decode cX10_doPayOff 57 = .ok (.iload_n 3, 1) := by decide +kernel
theorem dX10_doPayOff_58 : decode cX10_doPayOff 58 = .ok (.goto 4, 3) := by decide +kernel
theorem dX10_doPayOff_61 : decode cX10_doPayOff 61 = .ok (.iconst 0, 1) := by decide +kernel
theorem dX10_doPayOff_62 : decode cX10_doPayOff 62 = .ok (.invokevirtual 53, 3) := by decide +kernel
theorem dX10_doPayOff_65 : decode cX10_doPayOff 65 = .ok (.iinc 2 1, 3) := by decide +kernel
theorem dX10_doPayOff_68 : decode cX10_doPayOff 68 = .ok (.goto (-64), 3) := by decide +kernel
theorem dX10_doPayOff_71 : decode cX10_doPayOff 71 = .ok (.aload_n 0, 1) := by decide +kernel
theorem dX10_doPayOff_72 : decode cX10_doPayOff 72 = .ok (.getfield 7, 3) := by decide +kernel
theorem dX10_doPayOff_75 : decode cX10_doPayOff 75 = .ok (.sipush 190, 3) := by decide +kernel
theorem dX10_doPayOff_78 : decode cX10_doPayOff 78 = .ok (.dup2, 1) := by decide +kernel
theorem dX10_doPayOff_79 : decode cX10_doPayOff 79 = .ok (.iaload, 1) := by decide +kernel
theorem dX10_doPayOff_80 : decode cX10_doPayOff 80 = .ok (.iconst 1, 1) := by decide +kernel
theorem dX10_doPayOff_81 : decode cX10_doPayOff 81 = .ok (.iadd, 1) := by decide +kernel
theorem dX10_doPayOff_82 : decode cX10_doPayOff 82 = .ok (.iastore, 1) := by decide +kernel
theorem dX10_doPayOff_83 : decode cX10_doPayOff 83 = .ok (.aload_n 0, 1) := by decide +kernel
theorem dX10_doPayOff_84 : decode cX10_doPayOff 84 = .ok (.getfield 7, 3) := by decide +kernel
theorem dX10_doPayOff_87 : decode cX10_doPayOff 87 = .ok (.sipush 192, 3) := by decide +kernel
theorem dX10_doPayOff_90 : decode cX10_doPayOff 90 = .ok (.iconst 0, 1) := by decide +kernel
theorem dX10_doPayOff_91 : decode cX10_doPayOff 91 = .ok (.iastore, 1) := by decide +kernel
theorem dX10_doPayOff_92 : decode cX10_doPayOff 92 = .ok (.iload_n 1, 1) := by decide +kernel
theorem dX10_doPayOff_93 : decode cX10_doPayOff 93 = .ok (.ireturn, 1) := by decide +kernel
theorem dX10_payOff_0 : decode cX10_payOff 0 = .ok (.aload_n 0, 1) := by decide +kernel
theorem dX10_payOff_1 : decode cX10_payOff 1 = .ok (.invokevirtual 176, 3) := by decide +kernel
theorem dX10_payOff_4 : decode cX10_payOff 4 = .ok (.istore_n 1, 1) := by decide +kernel
theorem dX10_payOff_5 : decode cX10_payOff 5 = .ok (.iload_n 1, 1) := by decide +kernel
theorem dX10_payOff_6 : decode cX10_payOff 6 = .ok (.ifCond .ge 5, 3) := by decide +kernel
theorem dX10_payOff_9 : decode cX10_payOff 9 = .ok (.iload_n 1, 1) := by decide +kernel
theorem dX10_payOff_10 : decode cX10_payOff 10 = .ok (.ireturn, 1) := by decide +kernel
theorem dX10_payOff_11 : decode cX10_payOff 11 = .ok (.aload_n 0, 1) := by decide +kernel
theorem dX10_payOff_12 : decode cX10_payOff 12 = .ok (.aload_n 0, 1) := by decide +kernel
theorem dX10_payOff_13 : decode cX10_payOff 13 = .ok (.getfield 7, 3) := by decide +kernel
theorem dX10_payOff_16 : decode cX10_payOff 16 = .ok (.invokevirtual 76, 3) := by decide +kernel
theorem dX10_payOff_19 : decode cX10_payOff 19 = .ok (.aload_n 0, 1) := by decide +kernel
theorem dX10_payOff_20 : decode cX10_payOff 20 = .ok (.invokevirtual 179, 3) := by decide +kernel
theorem dX10_payOff_23 : decode cX10_payOff 23 = .ok (.ireturn, 1) := by decide +kernel
theorem dX10_set_0 : decode cX10_set 0 = .ok (.iload_n 1, 1) := by decide +kernel
theorem dX10_set_1 : decode cX10_set 1 = .ok (.iconst 0, 1) := by decide +kernel
theorem dX10_set_2 : decode cX10_set 2 = .ok (.iconst 2, 1) := by decide +kernel
theorem dX10_set_3 : decode cX10_set 3 = .ok (.invokestatic 25, 3) := by decide +kernel
theorem dX10_set_6 : decode cX10_set 6 = .ok (.ifCond .eq 34, 3) := by decide +kernel
theorem dX10_set_9 : decode cX10_set 9 = .ok (.iload_n 2, 1) := by decide +kernel
theorem dX10_set_10 : decode cX10_set 10 = .ok (.iconst 0, 1) := by decide +kernel
theorem dX10_set_11 : decode cX10_set 11 = .ok (.iload_n 1, 1) := by decide +kernel
theorem dX10_set_12 : decode cX10_set 12 = .ok (.ifCond .ne 9, 3) := by decide +kernel
theorem dX10_set_15 : decode cX10_set 15 = .ok (.sipush 500, 3) := by decide +kernel
theorem dX10_set_18 : decode cX10_set 18 = .ok (.goto 16, 3) := by decide +kernel
theorem dX10_set_21 : decode cX10_set 21 = .ok (.iload_n 1, 1) := by decide +kernel
theorem dX10_set_22 : decode cX10_set 22 = .ok (.iconst 1, 1) := by decide +kernel
theorem dX10_set_23 : decode cX10_set 23 = .ok (.if_icmp .ne 9, 3) := by decide +kernel
theorem dX10_set_26 : decode cX10_set 26 = .ok (.sipush 200, 3) := by decide +kernel
theorem dX10_set_29 : decode cX10_set 29 = .ok (.goto 5, 3) := by decide +kernel
theorem dX10_set_32 : decode cX10_set 32 = .ok (.bipush 50, 2) := by decide +kernel
theorem dX10_set_34 : decode cX10_set 34 = .ok (.invokestatic 25, 3) := by decide +kernel
theorem dX10_set_37 : decode cX10_set 37 = .ok (.ifCond .ne 6, 3) := by decide +kernel
theorem dX10_set_40 : decode cX10_set 40 = .ok (.ldc 64, 2) := by decide +kernel
theorem dX10_set_42 : decode cX10_set 42 = .ok (.ireturn, 1) := by decide +kernel
theorem dX10_set_43 : decode cX10_set 43 = .ok (.aload_n 0, 1) := by decide +kernel
theorem dX10_set_44 : decode cX10_set 44 = .ok (.aload_n 0, 1) := by decide +kernel
theorem dX10_set_45 : decode cX10_set 45 = .ok (.getfield 7, 3) := by decide +kernel
theorem dX10_set_48 : decode cX10_set 48 = .ok (.invokevirtual 76, 3) := by decide +kernel
theorem dX10_set_51 : decode cX10_set 51 = .ok (.aload_n 0, 1) := by decide +kernel
theorem dX10_set_52 : decode cX10_set 52 = .ok (.getfield 7, 3) := by decide +kernel
theorem dX10_set_55 : decode cX10_set 55 = .ok (.sipush 203, 3) := by decide +kernel
theorem dX10_set_58 : decode cX10_set 58 = .ok (.iload_n 1, 1) := by decide +kernel
theorem dX10_set_59 : decode cX10_set 59 = .ok (.iadd, 1) := by decide +kernel
theorem dX10_set_60 : decode cX10_set 60 = .ok (.iaload, 1) := by decide +kernel
theorem dX10_set_61 : decode cX10_set 61 = .ok (.istore_n 3, 1) := by decide +kernel
theorem dX10_set_62 : decode cX10_set 62 = .ok (.aload_n 0, 1) := by decide +kernel
theorem dX10_set_63 : decode cX10_set 63 = .ok (.getfield 7, 3) := by decide +kernel
theorem dX10_set_66 : decode cX10_set 66 = .ok (.sipush 203, 3) := by decide +kernel
theorem dX10_set_69 : decode cX10_set 69 = .ok (.iload_n 1, 1) := by decide +kernel
theorem dX10_set_70 : decode cX10_set 70 = .ok (.iadd, 1) := by decide +kernel
theorem dX10_set_71 : decode cX10_set 71 = .ok (.iload_n 2, 1) := by decide +kernel
theorem dX10_set_72 : decode cX10_set 72 = .ok (.iastore, 1) := by decide +kernel
theorem dX10_set_73 : decode cX10_set 73 = .ok (.iload_n 3, 1) := by decide +kernel
theorem dX10_set_74 : decode cX10_set 74 = .ok (.ireturn, 1) := by decide +kernel
theorem dX10_sailor_0 : decode cX10_sailor 0 = .ok (.aload_n 0, 1) := by decide +kernel
theorem dX10_sailor_1 : decode cX10_sailor 1 = .ok (.iload_n 1, 1) := by decide +kernel
theorem dX10_sailor_2 : decode cX10_sailor 2 = .ok (.invokevirtual 98, 3) := by decide +kernel
theorem dX10_sailor_5 : decode cX10_sailor 5 = .ok (.ifCond .ne 6, 3) := by decide +kernel
theorem dX10_sailor_8 : decode cX10_sailor 8 = .ok (.ldc 64, 2) := by decide +kernel
theorem dX10_sailor_10 : decode cX10_sailor 10 = .ok (.ireturn, 1) := by decide +kernel
theorem dX10_sailor_11 : decode cX10_sailor 11 = .ok (.iload_n 2, 1) := by decide +kernel
theorem dX10_sailor_12 : decode cX10_sailor 12 = .ok (.tableswitch 159 0 12 #[68, 75, 82, 89, 89, 99, 106, 113, 119, 126, 134, 142, 151], 68) := by decide +kernel
theorem dX10_sailor_80 : decode cX10_sailor 80 = .ok (.aload_n 0, 1) := by decide +kernel
theorem dX10_sailor_81 : decode cX10_sailor 81 = .ok (.iload_n 1, 1) := by decide +kernel
theorem dX10_sailor_82 : decode cX10_sailor 82 = .ok (.iconst 0, 1) := by decide +kernel
theorem dX10_sailor_83 : decode cX10_sailor 83 = .ok (.invokevirtual 29, 3) := by decide +kernel
theorem dX10_sailor_86 : decode cX10_sailor 86 = .ok (.ireturn, 1) := by decide +kernel
theorem dX10_sailor_87 : decode cX10_sailor 87 = .ok (.aload_n 0, 1) := by decide +kernel
theorem dX10_sailor_88 : decode cX10_sailor 88 = .ok (.iload_n 1, 1) := by decide +kernel
theorem dX10_sailor_89 : decode cX10_sailor 89 = .ok (.iconst 1, 1) := by decide +kernel
theorem dX10_sailor_90 : decode cX10_sailor 90 = .ok (.invokevirtual 29, 3) := by decide +kernel
theorem dX10_sailor_93 : decode cX10_sailor 93 = .ok (.ireturn, 1) := by decide +kernel
theorem dX10_sailor_94 : decode cX10_sailor 94 = .ok (.aload_n 0, 1) := by decide +kernel
theorem dX10_sailor_95 : decode cX10_sailor 95 = .ok (.iload_n 1, 1) := by decide +kernel
theorem dX10_sailor_96 : decode cX10_sailor 96 = .ok (.iconst 2, 1) := by decide +kernel
theorem dX10_sailor_97 : decode cX10_sailor 97 = .ok (.invokevirtual 29, 3) := by decide +kernel
theorem dX10_sailor_100 : decode cX10_sailor 100 = .ok (.ireturn, 1) := by decide +kernel
theorem dX10_sailor_101 : decode cX10_sailor 101 = .ok (.sipush 10000, 3) := by decide +kernel
theorem dX10_sailor_104 : decode cX10_sailor 104 = .ok (.aload_n 0, 1) := by decide +kernel
theorem dX10_sailor_105 : decode cX10_sailor 105 = .ok (.iload_n 1, 1) := by decide +kernel
theorem dX10_sailor_106 : decode cX10_sailor 106 = .ok (.invokevirtual 95, 3) := by decide +kernel
theorem dX10_sailor_109 : decode cX10_sailor 109 = .ok (.iadd, 1) := by decide +kernel
theorem dX10_sailor_110 : decode cX10_sailor 110 = .ok (.ireturn, 1) := by decide +kernel
theorem dX10_sailor_111 : decode cX10_sailor 111 = .ok (.aload_n 0, 1) := by decide +kernel
theorem dX10_sailor_112 : decode cX10_sailor 112 = .ok (.iload_n 1, 1) := by decide +kernel
theorem dX10_sailor_113 : decode cX10_sailor 113 = .ok (.iconst 3, 1) := by decide +kernel
theorem dX10_sailor_114 : decode cX10_sailor 114 = .ok (.invokevirtual 29, 3) := by decide +kernel
theorem dX10_sailor_117 : decode cX10_sailor 117 = .ok (.ireturn, 1) := by decide +kernel
theorem dX10_sailor_118 : decode cX10_sailor 118 = .ok (.aload_n 0, 1) := by decide +kernel
theorem dX10_sailor_119 : decode cX10_sailor 119 = .ok (.iload_n 1, 1) := by decide +kernel
theorem dX10_sailor_120 : decode cX10_sailor 120 = .ok (.iconst 4, 1) := by decide +kernel
theorem dX10_sailor_121 : decode cX10_sailor 121 = .ok (.invokevirtual 29, 3) := by decide +kernel
theorem dX10_sailor_124 : decode cX10_sailor 124 = .ok (.ireturn, 1) := by decide +kernel
theorem dX10_sailor_125 : decode cX10_sailor 125 = .ok (.aload_n 0, 1) := by decide +kernel
theorem dX10_sailor_126 : decode cX10_sailor 126 = .ok (.iload_n 1, 1) := by decide +kernel
theorem dX10_sailor_127 : decode cX10_sailor 127 = .ok (.invokevirtual 46, 3) := by decide +kernel
theorem dX10_sailor_130 : decode cX10_sailor 130 = .ok (.ireturn, 1) := by decide +kernel
theorem dX10_sailor_131 : decode cX10_sailor 131 = .ok (.aload_n 0, 1) := by decide +kernel
theorem dX10_sailor_132 : decode cX10_sailor 132 = .ok (.iload_n 1, 1) := by decide +kernel
theorem dX10_sailor_133 : decode cX10_sailor 133 = .ok (.iconst 5, 1) := by decide +kernel
theorem dX10_sailor_134 : decode cX10_sailor 134 = .ok (.invokevirtual 29, 3) := by decide +kernel
theorem dX10_sailor_137 : decode cX10_sailor 137 = .ok (.ireturn, 1) := by decide +kernel
theorem dX10_sailor_138 : decode cX10_sailor 138 = .ok (.aload_n 0, 1) := by decide +kernel
theorem dX10_sailor_139 : decode cX10_sailor 139 = .ok (.iload_n 1, 1) := by decide +kernel
theorem dX10_sailor_140 : decode cX10_sailor 140 = .ok (.bipush 6, 2) := by decide +kernel
theorem dX10_sailor_142 : decode cX10_sailor 142 = .ok (.invokevirtual 29, 3) := by decide +kernel
theorem dX10_sailor_145 : decode cX10_sailor 145 = .ok (.ireturn, 1) := by decide +kernel
theorem dX10_sailor_146 : decode cX10_sailor 146 = .ok (.aload_n 0, 1) := by decide +kernel
theorem dX10_sailor_147 : decode cX10_sailor 147 = .ok (.iload_n 1, 1) := by decide +kernel
theorem dX10_sailor_148 : decode cX10_sailor 148 = .ok (.bipush 7, 2) := by decide +kernel
theorem dX10_sailor_150 : decode cX10_sailor 150 = .ok (.invokevirtual 29, 3) := by decide +kernel
theorem dX10_sailor_153 : decode cX10_sailor 153 = .ok (.ireturn, 1) := by decide +kernel
theorem dX10_sailor_154 : decode cX10_sailor 154 = .ok (.aload_n 0, 1) := by decide +kernel
theorem dX10_sailor_155 : decode cX10_sailor 155 = .ok (.iload_n 1, 1) := by decide +kernel
theorem dX10_sailor_156 : decode cX10_sailor 156 = .ok (.bipush 8, 2) := by decide +kernel
theorem dX10_sailor_158 : decode cX10_sailor 158 = .ok (.invokevirtual 29, 3) := by decide +kernel
theorem dX10_sailor_161 : decode cX10_sailor 161 = .ok (.ineg, 1) := by decide +kernel
theorem dX10_sailor_162 : decode cX10_sailor 162 = .ok (.ireturn, 1) := by decide +kernel
theorem dX10_sailor_163 : decode cX10_sailor 163 = .ok (.aload_n 0, 1) := by decide +kernel
theorem dX10_sailor_164 : decode cX10_sailor 164 = .ok (.iload_n 1, 1) := by decide +kernel
theorem dX10_sailor_165 : decode cX10_sailor 165 = .ok (.bipush 9, 2) := by decide +kernel
theorem dX10_sailor_167 : decode cX10_sailor 167 = .ok (.invokevirtual 29, 3) := by decide +kernel
theorem dX10_sailor_170 : decode cX10_sailor 170 = .ok (.ireturn, 1) := by decide +kernel
theorem dX10_sailor_171 : decode cX10_sailor 171 = .ok (.ldc 64, 2) := by decide +kernel
theorem dX10_sailor_173 : decode cX10_sailor 173 = .ok (.ireturn, 1) := by decide +kernel
theorem dX10_item_0 : decode cX10_item 0 = .ok (.iload_n 1, 1) := by decide +kernel
theorem dX10_item_1 : decode cX10_item 1 = .ok (.invokestatic 83, 3) := by decide +kernel
theorem dX10_item_4 : decode cX10_item 4 = .ok (.ifCond .eq 21, 3) := by decide +kernel
theorem dX10_item_7 : decode cX10_item 7 = .ok (.iload_n 2, 1) := by decide +kernel
theorem dX10_item_8 : decode cX10_item 8 = .ok (.iconst 0, 1) := by decide +kernel
theorem dX10_item_9 : decode cX10_item 9 = .ok (.iconst 4, 1) := by decide +kernel
theorem dX10_item_10 : decode cX10_item 10 = .ok (.invokestatic 25, 3) := by decide +kernel
theorem dX10_item_13 : decode cX10_item 13 = .ok (.ifCond .eq 12, 3) := by decide +kernel
theorem dX10_item_16 : decode cX10_item 16 = .ok (.aload_n 0, 1) := by decide +kernel
theorem dX10_item_17 : decode cX10_item 17 = .ok (.iload_n 1, 1) := by decide +kernel
theorem dX10_item_18 : decode cX10_item 18 = .ok (.iload_n 2, 1) := by decide +kernel
theorem dX10_item_19 : decode cX10_item 19 = .ok (.invokevirtual 86, 3) := by decide +kernel
theorem dX10_item_22 : decode cX10_item 22 = .ok (.goto 5, 3) := by decide +kernel
theorem dX10_item_25 : decode cX10_item 25 = .ok (.ldc 64, 2) := by decide +kernel
theorem dX10_item_27 : decode cX10_item 27 = .ok (.ireturn, 1) := by decide +kernel
theorem dX10_book_0 : decode cX10_book 0 = .ok (.iload_n 1, 1) := by decide +kernel
theorem dX10_book_1 : decode cX10_book 1 = .ok (.ifCond .lt 12, 3) := by decide +kernel
theorem dX10_book_4 : decode cX10_book 4 = .ok (.iload_n 2, 1) := by decide +kernel
theorem dX10_book_5 : decode cX10_book 5 = .ok (.iconst 0, 1) := by decide +kernel
theorem dX10_book_6 : decode cX10_book 6 = .ok (.iconst 2, 1) := by decide +kernel
theorem dX10_book_7 : decode cX10_book 7 = .ok (.invokestatic 25, 3) := by decide +kernel
theorem dX10_book_10 : decode cX10_book 10 = .ok (.ifCond .ne 6, 3) := by decide +kernel
theorem dX10_book_13 : decode cX10_book 13 = .ok (.ldc 64, 2) := by decide +kernel
theorem dX10_book_15 : decode cX10_book 15 = .ok (.ireturn, 1) := by decide +kernel
theorem dX10_book_16 : decode cX10_book 16 = .ok (.iload_n 1, 1) := by decide +kernel
theorem dX10_book_17 : decode cX10_book 17 = .ok (.aload_n 0, 1) := by decide +kernel
theorem dX10_book_18 : decode cX10_book 18 = .ok (.getfield 7, 3) := by decide +kernel
theorem dX10_book_21 : decode cX10_book 21 = .ok (.sipush 206, 3) := by decide +kernel
theorem dX10_book_24 : decode cX10_book 24 = .ok (.iaload, 1) := by decide +kernel
theorem dX10_book_25 : decode cX10_book 25 = .ok (.if_icmp .ge 20, 3) := by decide +kernel
theorem dX10_book_28 : decode cX10_book 28 = .ok (.aload_n 0, 1) := by decide +kernel
theorem dX10_book_29 : decode cX10_book 29 = .ok (.getfield 7, 3) := by decide +kernel
theorem dX10_book_32 : decode cX10_book 32 = .ok (.sipush 207, 3) := by decide +kernel
theorem dX10_book_35 : decode cX10_book 35 = .ok (.iconst 3, 1) := by decide +kernel
theorem dX10_book_36 : decode cX10_book 36 = .ok (.iload_n 1, 1) := by decide +kernel
theorem dX10_book_37 : decode cX10_book 37 = .ok (.imul, 1) := by decide +kernel
theorem dX10_book_38 : decode cX10_book 38 = .ok (.iadd, 1) := by decide +kernel
theorem dX10_book_39 : decode cX10_book 39 = .ok (.iload_n 2, 1) := by decide +kernel
theorem dX10_book_40 : decode cX10_book 40 = .ok (.iadd, 1) := by decide +kernel
theorem dX10_book_41 : decode cX10_book 41 = .ok (.iaload, 1) := by decide +kernel
theorem dX10_book_42 : decode cX10_book 42 = .ok (.goto 5, 3) := by decide +kernel
theorem dX10_book_45 : decode cX10_book 45 = .ok (.ldc 182, 2) := by decide +kernel
theorem dX10_book_47 : decode cX10_book 47 = .ok (.ireturn, 1) := by decide +kernel
theorem dX10_why_0 : decode cX10_why 0 = .ok (.aload_n 0, 1) := by decide +kernel
theorem dX10_why_1 : decode cX10_why 1 = .ok (.iload_n 1, 1) := by decide +kernel
theorem dX10_why_2 : decode cX10_why 2 = .ok (.invokevirtual 98, 3) := by decide +kernel
theorem dX10_why_5 : decode cX10_why 5 = .ok (.ifCond .eq 30, 3) := by decide +kernel
theorem dX10_why_8 : decode cX10_why 8 = .ok (.iload_n 2, 1) := by decide +kernel
theorem dX10_why_9 : decode cX10_why 9 = .ok (.invokestatic 83, 3) := by decide +kernel
theorem dX10_why_12 : decode cX10_why 12 = .ok (.ifCond .eq 23, 3) := by decide +kernel
theorem dX10_why_15 : decode cX10_why 15 = .ok (.iload_n 3, 1) := by decide +kernel
theorem dX10_why_16 : decode cX10_why 16 = .ok (.iconst 1, 1) := by decide +kernel
theorem dX10_why_17 : decode cX10_why 17 = .ok (.bipush 99, 2) := by decide +kernel
theorem dX10_why_19 : decode cX10_why 19 = .ok (.invokestatic 25, 3) := by decide +kernel
theorem dX10_why_22 : decode cX10_why 22 = .ok (.ifCond .eq 13, 3) := by decide +kernel
theorem dX10_why_25 : decode cX10_why 25 = .ok (.aload_n 0, 1) := by decide +kernel
theorem dX10_why_26 : decode cX10_why 26 = .ok (.iload_n 1, 1) := by decide +kernel
theorem dX10_why_27 : decode cX10_why 27 = .ok (.iload_n 2, 1) := by decide +kernel
theorem dX10_why_28 : decode cX10_why 28 = .ok (.iload_n 3, 1) := by decide +kernel
theorem dX10_why_29 : decode cX10_why 29 = .ok (.invokevirtual 101, 3) := by decide +kernel
theorem dX10_why_32 : decode cX10_why 32 = .ok (.goto 5, 3) := by decide +kernel
theorem dX10_why_35 : decode cX10_why 35 = .ok (.ldc 64, 2) := by decide +kernel
theorem dX10_why_37 : decode cX10_why 37 = .ok (.ireturn, 1) := by decide +kernel
theorem dX10_most_0 : decode cX10_most 0 = .ok (.aload_n 0, 1) := by decide +kernel
theorem dX10_most_1 : decode cX10_most 1 = .ok (.iload_n 1, 1) := by decide +kernel
theorem dX10_most_2 : decode cX10_most 2 = .ok (.invokevirtual 98, 3) := by decide +kernel
theorem dX10_most_5 : decode cX10_most 5 = .ok (.ifCond .eq 10, 3) := by decide +kernel
theorem dX10_most_8 : decode cX10_most 8 = .ok (.iload_n 2, 1) := by decide +kernel
theorem dX10_most_9 : decode cX10_most 9 = .ok (.invokestatic 83, 3) := by decide +kernel
theorem dX10_most_12 : decode cX10_most 12 = .ok (.ifCond .ne 6, 3) := by decide +kernel
theorem dX10_most_15 : decode cX10_most 15 = .ok (.ldc 64, 2) := by decide +kernel
theorem dX10_most_17 : decode cX10_most 17 = .ok (.ireturn, 1) := by decide +kernel
theorem dX10_most_18 : decode cX10_most 18 = .ok (.iconst 0, 1) := by decide +kernel
theorem dX10_most_19 : decode cX10_most 19 = .ok (.istore_n 3, 1) := by decide +kernel
theorem dX10_most_20 : decode cX10_most 20 = .ok (.iload_n 3, 1) := by decide +kernel
theorem dX10_most_21 : decode cX10_most 21 = .ok (.bipush 99, 2) := by decide +kernel
theorem dX10_most_23 : decode cX10_most 23 = .ok (.if_icmp .ge 21, 3) := by decide +kernel
theorem dX10_most_26 : decode cX10_most 26 = .ok (.aload_n 0, 1) := by decide +kernel
theorem dX10_most_27 : decode cX10_most 27 = .ok (.iload_n 1, 1) := by decide +kernel
theorem dX10_most_28 : decode cX10_most 28 = .ok (.iload_n 2, 1) := by decide +kernel
theorem dX10_most_29 : decode cX10_most 29 = .ok (.iload_n 3, 1) := by decide +kernel
theorem dX10_most_30 : decode cX10_most 30 = .ok (.iconst 1, 1) := by decide +kernel
theorem dX10_most_31 : decode cX10_most 31 = .ok (.iadd, 1) := by decide +kernel
theorem dX10_most_32 : decode cX10_most 32 = .ok (.invokevirtual 101, 3) := by decide +kernel
theorem dX10_most_35 : decode cX10_most 35 = .ok (.ifCond .ne 9, 3) := by decide +kernel
theorem dX10_most_38 : decode cX10_most 38 = .ok (.iinc 3 1, 3) := by decide +kernel
theorem dX10_most_41 : decode cX10_most 41 = .ok (.goto (-21), 3) := by decide +kernel
theorem dX10_most_44 : decode cX10_most 44 = .ok (.iload_n 3, 1) := by decide +kernel
theorem dX10_most_45 : decode cX10_most 45 = .ok (.ireturn, 1) := by decide +kernel
theorem dX10_clearIn_0 : decode cX10_clearIn 0 = .ok (.aload_n 0, 1) := by decide +kernel
theorem dX10_clearIn_1 : decode cX10_clearIn 1 = .ok (.iload_n 1, 1) := by decide +kernel
theorem dX10_clearIn_2 : decode cX10_clearIn 2 = .ok (.invokevirtual 98, 3) := by decide +kernel
theorem dX10_clearIn_5 : decode cX10_clearIn 5 = .ok (.ifCond .ne 6, 3) := by decide +kernel
theorem dX10_clearIn_8 : decode cX10_clearIn 8 = .ok (.ldc 64, 2) := by decide +kernel
theorem dX10_clearIn_10 : decode cX10_clearIn 10 = .ok (.ireturn, 1) := by decide +kernel
theorem dX10_clearIn_11 : decode cX10_clearIn 11 = .ok (.aload_n 0, 1) := by decide +kernel
theorem dX10_clearIn_12 : decode cX10_clearIn 12 = .ok (.iload_n 1, 1) := by decide +kernel
theorem dX10_clearIn_13 : decode cX10_clearIn 13 = .ok (.invokevirtual 42, 3) := by decide +kernel
theorem dX10_clearIn_16 : decode cX10_clearIn 16 = .ok (.ifCond .eq 6, 3) := by decide +kernel
theorem dX10_clearIn_19 : decode cX10_clearIn 19 = .ok (.ldc 37, 2) := by decide +kernel
theorem dX10_clearIn_21 : decode cX10_clearIn 21 = .ok (.ireturn, 1) := by decide +kernel
theorem dX10_clearIn_22 : decode cX10_clearIn 22 = .ok (.aload_n 0, 1) := by decide +kernel
theorem dX10_clearIn_23 : decode cX10_clearIn 23 = .ok (.iload_n 1, 1) := by decide +kernel
theorem dX10_clearIn_24 : decode cX10_clearIn 24 = .ok (.invokevirtual 50, 3) := by decide +kernel
theorem dX10_clearIn_27 : decode cX10_clearIn 27 = .ok (.aload_n 0, 1) := by decide +kernel
theorem dX10_clearIn_28 : decode cX10_clearIn 28 = .ok (.iload_n 1, 1) := by decide +kernel
theorem dX10_clearIn_29 : decode cX10_clearIn 29 = .ok (.bipush 8, 2) := by decide +kernel
theorem dX10_clearIn_31 : decode cX10_clearIn 31 = .ok (.invokevirtual 29, 3) := by decide +kernel
theorem dX10_clearIn_34 : decode cX10_clearIn 34 = .ok (.isub, 1) := by decide +kernel
theorem dX10_clearIn_35 : decode cX10_clearIn 35 = .ok (.istore_n 2, 1) := by decide +kernel
theorem dX10_clearIn_36 : decode cX10_clearIn 36 = .ok (.iconst 0, 1) := by decide +kernel
theorem dX10_clearIn_37 : decode cX10_clearIn 37 = .ok (.istore_n 3, 1) := by decide +kernel
theorem dX10_clearIn_38 : decode cX10_clearIn 38 = .ok (.iconst 0, 1) := by decide +kernel
theorem dX10_clearIn_39 : decode cX10_clearIn 39 = .ok (.istore 4, 2) := by decide +kernel
theorem dX10_clearIn_41 : decode cX10_clearIn 41 = .ok (.iload 4, 2) := by decide +kernel
theorem dX10_clearIn_43 : decode cX10_clearIn 43 = .ok (.ifCond .ne 92, 3) := by decide +kernel
theorem dX10_clearIn_46 : decode cX10_clearIn 46 = .ok (.iload_n 3, 1) := by decide +kernel
theorem dX10_clearIn_47 : decode cX10_clearIn 47 = .ok (.sipush 400, 3) := by decide +kernel
theorem dX10_clearIn_50 : decode cX10_clearIn 50 = .ok (.if_icmp .gt 85, 3) := by decide +kernel
theorem dX10_clearIn_53 : decode cX10_clearIn 53 = .ok (.aload_n 0, 1) := by decide +kernel
theorem dX10_clearIn_54 : decode cX10_clearIn 54 = .ok (.iload_n 1, 1) := by decide +kernel
theorem dX10_clearIn_55 : decode cX10_clearIn 55 = .ok (.iconst 3, 1) := by decide +kernel
theorem dX10_clearIn_56 : decode cX10_clearIn 56 = .ok (.invokevirtual 29, 3) := by decide +kernel
theorem dX10_clearIn_59 : decode cX10_clearIn 59 = .ok (.aload_n 0, 1) := by decide +kernel
theorem dX10_clearIn_60 : decode cX10_clearIn 60 = .ok (.invokevirtual 65, 3) := by decide +kernel
theorem dX10_clearIn_63 : decode cX10_clearIn 63 = .ok (.ifCond .eq 7, 3) := by decide +kernel
theorem dX10_clearIn_66 : decode cX10_clearIn 66 = .ok (.iload_n 3, 1) := by decide +kernel
theorem dX10_clearIn_67 : decode cX10_clearIn 67 = .ok (.goto 4, 3) := by decide +kernel
theorem dX10_clearIn_70 : decode cX10_clearIn 70 = .ok (.iconst 0, 1) := by decide +kernel
theorem dX10_clearIn_71 : decode cX10_clearIn 71 = .ok (.iadd, 1) := by decide +kernel
theorem dX10_clearIn_72 : decode cX10_clearIn 72 = .ok (.istore 5, 2) := by decide +kernel
theorem dX10_clearIn_74 : decode cX10_clearIn 74 = .ok (.aload_n 0, 1) := by decide +kernel
theorem dX10_clearIn_75 : decode cX10_clearIn 75 = .ok (.iload_n 1, 1) := by decide +kernel
theorem dX10_clearIn_76 : decode cX10_clearIn 76 = .ok (.iconst 4, 1) := by decide +kernel
theorem dX10_clearIn_77 : decode cX10_clearIn 77 = .ok (.invokevirtual 29, 3) := by decide +kernel
theorem dX10_clearIn_80 : decode cX10_clearIn 80 = .ok (.aload_n 0, 1) := by decide +kernel
theorem dX10_clearIn_81 : decode cX10_clearIn 81 = .ok (.invokevirtual 65, 3) := by decide +kernel
theorem dX10_clearIn_84 : decode cX10_clearIn 84 = .ok (.ifCond .eq 7, 3) := by decide +kernel
theorem dX10_clearIn_87 : decode cX10_clearIn 87 = .ok (.iconst 0, 1) := by decide +kernel
theorem dX10_clearIn_88 : decode cX10_clearIn 88 = .ok (.goto 4, 3) := by decide +kernel
theorem dX10_clearIn_91 : decode cX10_clearIn 91 = .ok (.iload_n 3, 1) := by decide +kernel
theorem dX10_clearIn_92 : decode cX10_clearIn 92 = .ok (.iadd, 1) := by decide +kernel
theorem dX10_clearIn_93 : decode cX10_clearIn 93 = .ok (.istore 6, 2) := by decide +kernel
theorem dX10_clearIn_95 : decode cX10_clearIn 95 = .ok (.aload_n 0, 1) := by decide +kernel
theorem dX10_clearIn_96 : decode cX10_clearIn 96 = .ok (.iload_n 1, 1) := by decide +kernel
theorem dX10_clearIn_97 : decode cX10_clearIn 97 = .ok (.iconst 0, 1) := by decide +kernel
theorem dX10_clearIn_98 : decode cX10_clearIn 98 = .ok (.invokevirtual 29, 3) := by decide +kernel
theorem dX10_clearIn_101 : decode cX10_clearIn 101 = .ok (.iload 5, 2) := by decide +kernel
theorem dX10_clearIn_103 : decode cX10_clearIn 103 = .ok (.iload 6, 2) := by decide +kernel
theorem dX10_clearIn_105 : decode cX10_clearIn 105 = .ok (.invokestatic 38, 3) := by decide +kernel
theorem dX10_clearIn_108 : decode cX10_clearIn 108 = .ok (.iload_n 2, 1) := by decide +kernel
theorem dX10_clearIn_109 : decode cX10_clearIn 109 = .ok (.if_icmp .lt 7, 3) := by decide +kernel
theorem dX10_clearIn_112 : decode cX10_clearIn 112 = .ok (.iconst 1, 1) := by decide +kernel
theorem dX10_clearIn_113 : decode cX10_clearIn 113 = .ok (.goto 4, 3) := by decide +kernel
theorem dX10_clearIn_116 : decode cX10_clearIn 116 = .ok (.iconst 0, 1) := by decide +kernel
theorem dX10_clearIn_117 : decode cX10_clearIn 117 = .ok (.istore 4, 2) := by decide +kernel
theorem dX10_clearIn_119 : decode cX10_clearIn 119 = .ok (.iload_n 3, 1) := by decide +kernel
theorem dX10_clearIn_120 : decode cX10_clearIn 120 = .ok (.iload 4, 2) := by decide +kernel
theorem dX10_clearIn_122 : decode cX10_clearIn 122 = .ok (.ifCond .eq 7, 3) := by decide +kernel
theorem dX10_clearIn_125 : decode cX10_clearIn 125 = .ok (.iconst 0, 1) := by decide +kernel
theorem dX10_clearIn_126 : decode cX10_clearIn 126 = .ok (.goto 4, 3) := by decide +kernel
theorem dX10_clearIn_129 : decode cX10_clearIn 129 = .ok (.iconst 1, 1) := by decide +kernel
theorem dX10_clearIn_130 : decode cX10_clearIn 130 = .ok (.iadd, 1) := by decide +kernel
theorem dX10_clearIn_131 : decode cX10_clearIn 131 = .ok (.istore_n 3, 1) := by decide +kernel
theorem dX10_clearIn_132 : decode cX10_clearIn 132 = .ok (.goto (-91), 3) := by decide +kernel
theorem dX10_clearIn_135 : decode cX10_clearIn 135 = .ok (.iload 4, 2) := by decide +kernel
theorem dX10_clearIn_137 : decode cX10_clearIn 137 = .ok (.ifCond .eq 7, 3) := by decide +kernel
theorem dX10_clearIn_140 : decode cX10_clearIn 140 = .ok (.iload_n 3, 1) := by decide +kernel
theorem dX10_clearIn_141 : decode cX10_clearIn 141 = .ok (.goto 5, 3) := by decide +kernel
theorem dX10_clearIn_144 : decode cX10_clearIn 144 = .ok (.ldc 182, 2) := by decide +kernel
theorem dX10_clearIn_146 : decode cX10_clearIn 146 = .ok (.ireturn, 1) := by decide +kernel
theorem dX10_ifPaidOff_0 : decode cX10_ifPaidOff 0 = .ok (.iconst 0, 1) := by decide +kernel
theorem dX10_ifPaidOff_1 : decode cX10_ifPaidOff 1 = .ok (.istore_n 2, 1) := by decide +kernel
theorem dX10_ifPaidOff_2 : decode cX10_ifPaidOff 2 = .ok (.iconst 0, 1) := by decide +kernel
theorem dX10_ifPaidOff_3 : decode cX10_ifPaidOff 3 = .ok (.istore_n 3, 1) := by decide +kernel
theorem dX10_ifPaidOff_4 : decode cX10_ifPaidOff 4 = .ok (.iconst 0, 1) := by decide +kernel
theorem dX10_ifPaidOff_5 : decode cX10_ifPaidOff 5 = .ok (.istore 4, 2) := by decide +kernel
theorem dX10_ifPaidOff_7 : decode cX10_ifPaidOff 7 = .ok (.iconst 0, 1) := by decide +kernel
theorem dX10_ifPaidOff_8 : decode cX10_ifPaidOff 8 = .ok (.istore 5, 2) := by decide +kernel
theorem dX10_ifPaidOff_10 : decode cX10_ifPaidOff 10 = .ok (.iload 5, 2) := by decide +kernel
theorem dX10_ifPaidOff_12 : decode cX10_ifPaidOff 12 = .ok (.aload_n 0, 1) := by decide +kernel
theorem dX10_ifPaidOff_13 : decode cX10_ifPaidOff 13 = .ok (.getfield 7, 3) := by decide +kernel
theorem dX10_ifPaidOff_16 : decode cX10_ifPaidOff 16 = .ok (.sipush 194, 3) := by decide +kernel
theorem dX10_ifPaidOff_19 : decode cX10_ifPaidOff 19 = .ok (.iaload, 1) := by decide +kernel
theorem dX10_ifPaidOff_20 : decode cX10_ifPaidOff 20 = .ok (.if_icmp .ge 63, 3) := by decide +kernel
theorem dX10_ifPaidOff_23 : decode cX10_ifPaidOff 23 = .ok (.aload_n 0, 1) := by decide +kernel
theorem dX10_ifPaidOff_24 : decode cX10_ifPaidOff 24 = .ok (.iload 5, 2) := by decide +kernel
theorem dX10_ifPaidOff_26 : decode cX10_ifPaidOff 26 = .ok (.invokevirtual 95, 3) := by decide +kernel
theorem dX10_ifPaidOff_29 : decode cX10_ifPaidOff 29 = .ok (.istore 6, 2) := by decide +kernel
theorem dX10_ifPaidOff_31 : decode cX10_ifPaidOff 31 = .ok (.iload_n 2, 1) := by decide +kernel
theorem dX10_ifPaidOff_32 : decode cX10_ifPaidOff 32 = .ok (.iload 6, 2) := by decide +kernel
theorem dX10_ifPaidOff_34 : decode cX10_ifPaidOff 34 = .ok (.ifCond .le 8, 3) := by decide +kernel
theorem dX10_ifPaidOff_37 : decode cX10_ifPaidOff 37 = .ok (.iload 6, 2) := by decide +kernel
theorem dX10_ifPaidOff_39 : decode cX10_ifPaidOff 39 = .ok (.goto 4, 3) := by decide +kernel
theorem dX10_ifPaidOff_42 : decode cX10_ifPaidOff 42 = .ok (.iconst 0, 1) := by decide +kernel
theorem dX10_ifPaidOff_43 : decode cX10_ifPaidOff 43 = .ok (.iadd, 1) := by decide +kernel
theorem dX10_ifPaidOff_44 : decode cX10_ifPaidOff 44 = .ok (.istore_n 2, 1) := by decide +kernel
theorem dX10_ifPaidOff_45 : decode cX10_ifPaidOff 45 = .ok (.iload_n 3, 1) := by decide +kernel
theorem dX10_ifPaidOff_46 : decode cX10_ifPaidOff 46 = .ok (.iload 6, 2) := by decide +kernel
theorem dX10_ifPaidOff_48 : decode cX10_ifPaidOff 48 = .ok (.ifCond .ge 8, 3) := by decide +kernel
theorem dX10_ifPaidOff_51 : decode cX10_ifPaidOff 51 = .ok (.iload 6, 2) := by decide +kernel
theorem dX10_ifPaidOff_53 : decode cX10_ifPaidOff 53 = .ok (.goto 4, 3) := by decide +kernel
theorem dX10_ifPaidOff_56 : decode cX10_ifPaidOff 56 = .ok (.iconst 0, 1) := by decide +kernel
theorem dX10_ifPaidOff_57 : decode cX10_ifPaidOff 57 = .ok (.isub, 1) := by decide +kernel
theorem dX10_ifPaidOff_58 : decode cX10_ifPaidOff 58 = .ok (.istore_n 3, 1) := by decide +kernel
theorem dX10_ifPaidOff_59 : decode cX10_ifPaidOff 59 = .ok (.iload 4, 2) := by decide +kernel
theorem dX10_ifPaidOff_61 : decode cX10_ifPaidOff 61 = .ok (.iload 6, 2) := by decide +kernel
theorem dX10_ifPaidOff_63 : decode cX10_ifPaidOff 63 = .ok (.ifCond .ge 10, 3) := by decide +kernel
theorem dX10_ifPaidOff_66 : decode cX10_ifPaidOff 66 = .ok (.iconst 1, 1) := by decide +kernel
theorem dX10_ifPaidOff_67 : decode cX10_ifPaidOff 67 = .ok (.iload 5, 2) := by decide +kernel
theorem dX10_ifPaidOff_69 : decode cX10_ifPaidOff 69 = .ok (.ishl, 1) := by decide +kernel
theorem dX10_ifPaidOff_70 : decode cX10_ifPaidOff 70 = .ok (.goto 4, 3) := by decide +kernel
theorem dX10_ifPaidOff_73 : decode cX10_ifPaidOff 73 = .ok (.iconst 0, 1) := by decide +kernel
theorem dX10_ifPaidOff_74 : decode cX10_ifPaidOff 74 = .ok (.ior, 1) := by decide +kernel
theorem dX10_ifPaidOff_75 : decode cX10_ifPaidOff 75 = .ok (.istore 4, 2) := by decide +kernel
theorem dX10_ifPaidOff_77 : decode cX10_ifPaidOff 77 = .ok (.iinc 5 1, 3) := by decide +kernel
theorem dX10_ifPaidOff_80 : decode cX10_ifPaidOff 80 = .ok (.goto (-70), 3) := by decide +kernel
theorem dX10_ifPaidOff_83 : decode cX10_ifPaidOff 83 = .ok (.iload_n 1, 1) := by decide +kernel
theorem dX10_ifPaidOff_84 : decode cX10_ifPaidOff 84 = .ok (.tableswitch 66 0 3 #[32, 34, 61, 63], 32) := by decide +kernel
theorem dX10_ifPaidOff_116 : decode cX10_ifPaidOff 116 = .ok (.iload_n 2, 1) := by decide +kernel
theorem dX10_ifPaidOff_117 : decode cX10_ifPaidOff 117 = .ok (.ireturn, 1) := by decide +kernel
theorem dX10_ifPaidOff_118 : decode cX10_ifPaidOff 118 = .ok (.iload_n 2, 1) := by decide +kernel
theorem dX10_ifPaidOff_119 : decode cX10_ifPaidOff 119 = .ok (.aload_n 0, 1) := by decide +kernel
theorem dX10_ifPaidOff_120 : decode cX10_ifPaidOff 120 = .ok (.getfield 7, 3) := by decide +kernel
theorem dX10_ifPaidOff_123 : decode cX10_ifPaidOff 123 = .ok (.sipush 195, 3) := by decide +kernel
theorem dX10_ifPaidOff_126 : decode cX10_ifPaidOff 126 = .ok (.iaload, 1) := by decide +kernel
theorem dX10_ifPaidOff_127 : decode cX10_ifPaidOff 127 = .ok (.if_icmp .le 16, 3) := by decide +kernel
theorem dX10_ifPaidOff_130 : decode cX10_ifPaidOff 130 = .ok (.iload_n 2, 1) := by decide +kernel
theorem dX10_ifPaidOff_131 : decode cX10_ifPaidOff 131 = .ok (.aload_n 0, 1) := by decide +kernel
theorem dX10_ifPaidOff_132 : decode cX10_ifPaidOff 132 = .ok (.getfield 7, 3) := by decide +kernel
theorem dX10_ifPaidOff_135 : decode cX10_ifPaidOff 135 = .ok (.sipush 195, 3) := by decide +kernel
theorem dX10_ifPaidOff_138 : decode cX10_ifPaidOff 138 = .ok (.iaload, 1) := by decide +kernel
theorem dX10_ifPaidOff_139 : decode cX10_ifPaidOff 139 = .ok (.isub, 1) := by decide +kernel
theorem dX10_ifPaidOff_140 : decode cX10_ifPaidOff 140 = .ok (.goto 4, 3) := by decide +kernel
theorem dX10_ifPaidOff_143 : decode cX10_ifPaidOff 143 = .ok (.iconst 0, 1) := by decide +kernel
theorem dX10_ifPaidOff_144 : decode cX10_ifPaidOff 144 = .ok (.ireturn, 1) := by decide +kernel
theorem dX10_ifPaidOff_145 : decode cX10_ifPaidOff 145 = .ok (.iload_n 3, 1) := by decide +kernel
theorem dX10_ifPaidOff_146 : decode cX10_ifPaidOff 146 = .ok (.ireturn, 1) := by decide +kernel
theorem dX10_ifPaidOff_147 : decode cX10_ifPaidOff 147 = .ok (.iload 4, 2) := by decide +kernel
theorem dX10_ifPaidOff_149 : decode cX10_ifPaidOff 149 = .ok (.ireturn, 1) := by decide +kernel
theorem dX10_ifPaidOff_150 : decode cX10_ifPaidOff 150 = .ok (.ldc 64, 2) := by decide +kernel
theorem dX10_ifPaidOff_152 : decode cX10_ifPaidOff 152 = .ok (.ireturn, 1) := by decide +kernel
theorem dX10_poorest_0 : decode cX10_poorest 0 = .ok (.iload_n 1, 1) := by decide +kernel
theorem dX10_poorest_1 : decode cX10_poorest 1 = .ok (.ifCond .ge 6, 3) := by decide +kernel
theorem dX10_poorest_4 : decode cX10_poorest 4 = .ok (.ldc 64, 2) := by decide +kernel
theorem dX10_poorest_6 : decode cX10_poorest 6 = .ok (.ireturn, 1) := by decide +kernel
theorem dX10_poorest_7 : decode cX10_poorest 7 = .ok (.ldc 182, 2) := by decide +kernel
theorem dX10_poorest_9 : decode cX10_poorest 9 = .ok (.istore_n 2, 1) := by decide +kernel
theorem dX10_poorest_10 : decode cX10_poorest 10 = .ok (.iconst 0, 1) := by decide +kernel
theorem dX10_poorest_11 : decode cX10_poorest 11 = .ok (.istore_n 3, 1) := by decide +kernel
theorem dX10_poorest_12 : decode cX10_poorest 12 = .ok (.iload_n 3, 1) := by decide +kernel
theorem dX10_poorest_13 : decode cX10_poorest 13 = .ok (.aload_n 0, 1) := by decide +kernel
theorem dX10_poorest_14 : decode cX10_poorest 14 = .ok (.getfield 7, 3) := by decide +kernel
theorem dX10_poorest_17 : decode cX10_poorest 17 = .ok (.sipush 194, 3) := by decide +kernel
theorem dX10_poorest_20 : decode cX10_poorest 20 = .ok (.iaload, 1) := by decide +kernel
theorem dX10_poorest_21 : decode cX10_poorest 21 = .ok (.if_icmp .ge 119, 3) := by decide +kernel
theorem dX10_poorest_24 : decode cX10_poorest 24 = .ok (.iconst 0, 1) := by decide +kernel
theorem dX10_poorest_25 : decode cX10_poorest 25 = .ok (.istore 4, 2) := by decide +kernel
theorem dX10_poorest_27 : decode cX10_poorest 27 = .ok (.iconst 0, 1) := by decide +kernel
theorem dX10_poorest_28 : decode cX10_poorest 28 = .ok (.istore 5, 2) := by decide +kernel
theorem dX10_poorest_30 : decode cX10_poorest 30 = .ok (.iload 5, 2) := by decide +kernel
theorem dX10_poorest_32 : decode cX10_poorest 32 = .ok (.aload_n 0, 1) := by decide +kernel
theorem dX10_poorest_33 : decode cX10_poorest 33 = .ok (.getfield 7, 3) := by decide +kernel
theorem dX10_poorest_36 : decode cX10_poorest 36 = .ok (.sipush 194, 3) := by decide +kernel
theorem dX10_poorest_39 : decode cX10_poorest 39 = .ok (.iaload, 1) := by decide +kernel
theorem dX10_poorest_40 : decode cX10_poorest 40 = .ok (.if_icmp .ge 74, 3) := by decide +kernel
theorem dX10_poorest_43 : decode cX10_poorest 43 = .ok (.aload_n 0, 1) := by decide +kernel
theorem dX10_poorest_44 : decode cX10_poorest 44 = .ok (.iload 5, 2) := by decide +kernel
theorem dX10_poorest_46 : decode cX10_poorest 46 = .ok (.invokevirtual 95, 3) := by decide +kernel
theorem dX10_poorest_49 : decode cX10_poorest 49 = .ok (.aload_n 0, 1) := by decide +kernel
theorem dX10_poorest_50 : decode cX10_poorest 50 = .ok (.iload_n 3, 1) := by decide +kernel
theorem dX10_poorest_51 : decode cX10_poorest 51 = .ok (.invokevirtual 95, 3) := by decide +kernel
theorem dX10_poorest_54 : decode cX10_poorest 54 = .ok (.if_icmp .lt 23, 3) := by decide +kernel
theorem dX10_poorest_57 : decode cX10_poorest 57 = .ok (.aload_n 0, 1) := by decide +kernel
theorem dX10_poorest_58 : decode cX10_poorest 58 = .ok (.iload 5, 2) := by decide +kernel
theorem dX10_poorest_60 : decode cX10_poorest 60 = .ok (.invokevirtual 95, 3) := by decide +kernel
theorem dX10_poorest_63 : decode cX10_poorest 63 = .ok (.aload_n 0, 1) := by decide +kernel
theorem dX10_poorest_64 : decode cX10_poorest 64 = .ok (.iload_n 3, 1) := by decide +kernel
theorem dX10_poorest_65 : decode cX10_poorest 65 = .ok (.invokevirtual 95, 3) := by decide +kernel
theorem dX10_poorest_68 : decode cX10_poorest 68 = .ok (.if_icmp .ne 13, 3) := by decide +kernel
theorem dX10_poorest_71 : decode cX10_poorest 71 = .ok (.iload 5, 2) := by decide +kernel
theorem dX10_poorest_73 : decode cX10_poorest 73 = .ok (.iload_n 3, 1) := by decide +kernel
theorem dX10_poorest_74 : decode cX10_poorest 74 = .ok (.if_icmp .ge 7, 3) := by decide +kernel
theorem dX10_poorest_77 : decode cX10_poorest 77 = .ok (.iconst 1, 1) := by decide +kernel
theorem dX10_poorest_78 : decode cX10_poorest 78 = .ok (.goto 4, 3) := by decide +kernel
theorem dX10_poorest_81 : decode cX10_poorest 81 = .ok (.iconst 0, 1) := by decide +kernel
theorem dX10_poorest_82 : decode cX10_poorest 82 = .ok (.istore 6, 2) := by decide +kernel
theorem dX10_poorest_84 : decode cX10_poorest 84 = .ok (.iload 4, 2) := by decide +kernel
theorem dX10_poorest_86 : decode cX10_poorest 86 = .ok (.aload_n 0, 1) := by decide +kernel
theorem dX10_poorest_87 : decode cX10_poorest 87 = .ok (.iload 5, 2) := by decide +kernel
theorem dX10_poorest_89 : decode cX10_poorest 89 = .ok (.invokevirtual 42, 3) := by decide +kernel
theorem dX10_poorest_92 : decode cX10_poorest 92 = .ok (.ifCond .ne 12, 3) := by decide +kernel
theorem dX10_poorest_95 : decode cX10_poorest 95 = .ok (.iload 6, 2) := by decide +kernel
theorem dX10_poorest_97 : decode cX10_poorest 97 = .ok (.ifCond .eq 7, 3) := by decide +kernel
theorem dX10_poorest_100 : decode cX10_poorest 100 = .ok (.iconst 1, 1) := by decide +kernel
theorem dX10_poorest_101 : decode cX10_poorest 101 = .ok (.goto 4, 3) := by decide +kernel
theorem dX10_poorest_104 : decode cX10_poorest 104 = .ok (.iconst 0, 1) := by decide +kernel
theorem dX10_poorest_105 : decode cX10_poorest 105 = .ok (.iadd, 1) := by decide +kernel
theorem dX10_poorest_106 : decode cX10_poorest 106 = .ok (.istore 4, 2) := by decide +kernel
theorem dX10_poorest_108 : decode cX10_poorest 108 = .ok (.iinc 5 1, 3) := by decide +kernel
theorem dX10_poorest_111 : decode cX10_poorest 111 = .ok (.goto (-81), 3) := by decide +kernel
theorem dX10_poorest_114 : decode cX10_poorest 114 = .ok (.aload_n 0, 1) := by decide +kernel
theorem dX10_poorest_115 : decode cX10_poorest 115 = .ok (.iload_n 3, 1) := by decide +kernel
theorem dX10_poorest_116 : decode cX10_poorest 116 = .ok (.invokevirtual 42, 3) := by decide +kernel
theorem dX10_poorest_119 : decode cX10_poorest 119 = .ok (.ifCond .ne 13, 3) := by decide +kernel
theorem dX10_poorest_122 : decode cX10_poorest 122 = .ok (.iload 4, 2) := by decide +kernel
theorem dX10_poorest_124 : decode cX10_poorest 124 = .ok (.iload_n 1, 1) := by decide +kernel
theorem dX10_poorest_125 : decode cX10_poorest 125 = .ok (.if_icmp .ne 7, 3) := by decide +kernel
theorem dX10_poorest_128 : decode cX10_poorest 128 = .ok (.iload_n 3, 1) := by decide +kernel
theorem dX10_poorest_129 : decode cX10_poorest 129 = .ok (.goto 4, 3) := by decide +kernel
theorem dX10_poorest_132 : decode cX10_poorest 132 = .ok (.iload_n 2, 1) := by decide +kernel
theorem dX10_poorest_133 : decode cX10_poorest 133 = .ok (.istore_n 2, 1) := by decide +kernel
theorem dX10_poorest_134 : decode cX10_poorest 134 = .ok (.iinc 3 1, 3) := by decide +kernel
theorem dX10_poorest_137 : decode cX10_poorest 137 = .ok (.goto (-125), 3) := by decide +kernel
theorem dX10_poorest_140 : decode cX10_poorest 140 = .ok (.iload_n 2, 1) := by decide +kernel
theorem dX10_poorest_141 : decode cX10_poorest 141 = .ok (.ireturn, 1) := by decide +kernel
theorem dX10_share_0 : decode cX10_share 0 = .ok (.iconst 0, 1) := by decide +kernel
theorem dX10_share_1 : decode cX10_share 1 = .ok (.istore_n 1, 1) := by decide +kernel
theorem dX10_share_2 : decode cX10_share 2 = .ok (.iconst 0, 1) := by decide +kernel
theorem dX10_share_3 : decode cX10_share 3 = .ok (.istore_n 2, 1) := by decide +kernel
theorem dX10_share_4 : decode cX10_share 4 = .ok (.iconst 0, 1) := by decide +kernel
theorem dX10_share_5 : decode cX10_share 5 = .ok (.istore_n 3, 1) := by decide +kernel
theorem dX10_share_6 : decode cX10_share 6 = .ok (.iload_n 3, 1) := by decide +kernel
theorem dX10_share_7 : decode cX10_share 7 = .ok (.aload_n 0, 1) := by decide +kernel
theorem dX10_share_8 : decode cX10_share 8 = .ok (.getfield 7, 3) := by decide +kernel
theorem dX10_share_11 : decode cX10_share 11 = .ok (.sipush 194, 3) := by decide +kernel
theorem dX10_share_14 : decode cX10_share 14 = .ok (.iaload, 1) := by decide +kernel
theorem dX10_share_15 : decode cX10_share 15 = .ok (.if_icmp .ge 49, 3) := by decide +kernel
theorem dX10_share_18 : decode cX10_share 18 = .ok (.iload_n 1, 1) := by decide +kernel
theorem dX10_share_19 : decode cX10_share 19 = .ok (.aload_n 0, 1) := by decide +kernel
theorem dX10_share_20 : decode cX10_share 20 = .ok (.iload_n 3, 1) := by decide +kernel
theorem dX10_share_21 : decode cX10_share 21 = .ok (.invokevirtual 42, 3) := by decide +kernel
theorem dX10_share_24 : decode cX10_share 24 = .ok (.ifCond .eq 7, 3) := by decide +kernel
theorem dX10_share_27 : decode cX10_share 27 = .ok (.iconst 0, 1) := by decide +kernel
theorem dX10_share_28 : decode cX10_share 28 = .ok (.goto 8, 3) := by decide +kernel
theorem dX10_share_31 : decode cX10_share 31 = .ok (.aload_n 0, 1) := by decide +kernel
theorem dX10_share_32 : decode cX10_share 32 = .ok (.iload_n 3, 1) := by decide +kernel
theorem dX10_share_33 : decode cX10_share 33 = .ok (.invokevirtual 46, 3) := by decide +kernel
theorem dX10_share_36 : decode cX10_share 36 = .ok (.iadd, 1) := by decide +kernel
theorem dX10_share_37 : decode cX10_share 37 = .ok (.istore_n 1, 1) := by decide +kernel
theorem dX10_share_38 : decode cX10_share 38 = .ok (.iload_n 2, 1) := by decide +kernel
theorem dX10_share_39 : decode cX10_share 39 = .ok (.aload_n 0, 1) := by decide +kernel
theorem dX10_share_40 : decode cX10_share 40 = .ok (.iload_n 3, 1) := by decide +kernel
theorem dX10_share_41 : decode cX10_share 41 = .ok (.invokevirtual 42, 3) := by decide +kernel
theorem dX10_share_44 : decode cX10_share 44 = .ok (.ifCond .eq 7, 3) := by decide +kernel
theorem dX10_share_47 : decode cX10_share 47 = .ok (.iconst 0, 1) := by decide +kernel
theorem dX10_share_48 : decode cX10_share 48 = .ok (.goto 8, 3) := by decide +kernel
theorem dX10_share_51 : decode cX10_share 51 = .ok (.aload_n 0, 1) := by decide +kernel
theorem dX10_share_52 : decode cX10_share 52 = .ok (.iload_n 3, 1) := by decide +kernel
theorem dX10_share_53 : decode cX10_share 53 = .ok (.invokevirtual 50, 3) := by decide +kernel
theorem dX10_share_56 : decode cX10_share 56 = .ok (.iadd, 1) := by decide +kernel
theorem dX10_share_57 : decode cX10_share 57 = .ok (.istore_n 2, 1) := by decide +kernel
theorem dX10_share_58 : decode cX10_share 58 = .ok (.iinc 3 1, 3) := by decide +kernel
theorem dX10_share_61 : decode cX10_share 61 = .ok (.goto (-55), 3) := by decide +kernel
theorem dX10_share_64 : decode cX10_share 64 = .ok (.iload_n 1, 1) := by decide +kernel
theorem dX10_share_65 : decode cX10_share 65 = .ok (.ifCond .ne 8, 3) := by decide +kernel
theorem dX10_share_68 : decode cX10_share 68 = .ok (.ldc 182, 2) := by decide +kernel
theorem dX10_share_70 : decode cX10_share 70 = .ok (.goto 11, 3) := by decide +kernel
theorem dX10_share_73 : decode cX10_share 73 = .ok (.iload_n 2, 1) := by decide +kernel
theorem dX10_share_74 : decode cX10_share 74 = .ok (.i2f, 1) := by decide +kernel
theorem dX10_share_75 : decode cX10_share 75 = .ok (.iload_n 1, 1) := by decide +kernel
theorem dX10_share_76 : decode cX10_share 76 = .ok (.i2f, 1) := by decide +kernel
theorem dX10_share_77 : decode cX10_share 77 = .ok (.fdiv, 1) := by decide +kernel
theorem dX10_share_78 : decode cX10_share 78 = .ok (.invokestatic 183, 3) := by decide +kernel
theorem dX10_share_81 : decode cX10_share 81 = .ok (.ireturn, 1) := by decide +kernel
theorem dX10_count_0 : decode cX10_count 0 = .ok (.iload_n 1, 1) := by decide +kernel
theorem dX10_count_1 : decode cX10_count 1 = .ok (.bipush 8, 2) := by decide +kernel
theorem dX10_count_3 : decode cX10_count 3 = .ok (.bipush 14, 2) := by decide +kernel
theorem dX10_count_5 : decode cX10_count 5 = .ok (.invokestatic 25, 3) := by decide +kernel
theorem dX10_count_8 : decode cX10_count 8 = .ok (.ifCond .eq 17, 3) := by decide +kernel
theorem dX10_count_11 : decode cX10_count 11 = .ok (.aload_n 0, 1) := by decide +kernel
theorem dX10_count_12 : decode cX10_count 12 = .ok (.getfield 7, 3) := by decide +kernel
theorem dX10_count_15 : decode cX10_count 15 = .ok (.sipush 195, 3) := by decide +kernel
theorem dX10_count_18 : decode cX10_count 18 = .ok (.iload_n 1, 1) := by decide +kernel
theorem dX10_count_19 : decode cX10_count 19 = .ok (.iadd, 1) := by decide +kernel
theorem dX10_count_20 : decode cX10_count 20 = .ok (.bipush 8, 2) := by decide +kernel
theorem dX10_count_22 : decode cX10_count 22 = .ok (.isub, 1) := by decide +kernel
theorem dX10_count_23 : decode cX10_count 23 = .ok (.iaload, 1) := by decide +kernel
theorem dX10_count_24 : decode cX10_count 24 = .ok (.ireturn, 1) := by decide +kernel
theorem dX10_count_25 : decode cX10_count 25 = .ok (.iload_n 1, 1) := by decide +kernel
theorem dX10_count_26 : decode cX10_count 26 = .ok (.bipush 20, 2) := by decide +kernel
theorem dX10_count_28 : decode cX10_count 28 = .ok (.bipush 22, 2) := by decide +kernel
theorem dX10_count_30 : decode cX10_count 30 = .ok (.invokestatic 25, 3) := by decide +kernel
theorem dX10_count_33 : decode cX10_count 33 = .ok (.ifCond .eq 17, 3) := by decide +kernel
theorem dX10_count_36 : decode cX10_count 36 = .ok (.aload_n 0, 1) := by decide +kernel
theorem dX10_count_37 : decode cX10_count 37 = .ok (.getfield 7, 3) := by decide +kernel
theorem dX10_count_40 : decode cX10_count 40 = .ok (.sipush 203, 3) := by decide +kernel
theorem dX10_count_43 : decode cX10_count 43 = .ok (.iload_n 1, 1) := by decide +kernel
theorem dX10_count_44 : decode cX10_count 44 = .ok (.iadd, 1) := by decide +kernel
theorem dX10_count_45 : decode cX10_count 45 = .ok (.bipush 20, 2) := by decide +kernel
theorem dX10_count_47 : decode cX10_count 47 = .ok (.isub, 1) := by decide +kernel
theorem dX10_count_48 : decode cX10_count 48 = .ok (.iaload, 1) := by decide +kernel
theorem dX10_count_49 : decode cX10_count 49 = .ok (.ireturn, 1) := by decide +kernel
theorem dX10_count_50 : decode cX10_count 50 = .ok (.iload_n 1, 1) := by decide +kernel
theorem dX10_count_51 : decode cX10_count 51 = .ok (.tableswitch 183 0 18 #[89, 98, 107, 116, 125, 134, 140, 146, 183, 183, 183, 183, 183, 183, 183, 152, 164, 173, 178], 89) := by decide +kernel
theorem dX10_count_140 : decode cX10_count 140 = .ok (.aload_n 0, 1) := by decide +kernel
theorem dX10_count_141 : decode cX10_count 141 = .ok (.getfield 7, 3) := by decide +kernel
theorem dX10_count_144 : decode cX10_count 144 = .ok (.sipush 190, 3) := by decide +kernel
theorem dX10_count_147 : decode cX10_count 147 = .ok (.iaload, 1) := by decide +kernel
theorem dX10_count_148 : decode cX10_count 148 = .ok (.ireturn, 1) := by decide +kernel
theorem dX10_count_149 : decode cX10_count 149 = .ok (.aload_n 0, 1) := by decide +kernel
theorem dX10_count_150 : decode cX10_count 150 = .ok (.getfield 7, 3) := by decide +kernel
theorem dX10_count_153 : decode cX10_count 153 = .ok (.sipush 191, 3) := by decide +kernel
theorem dX10_count_156 : decode cX10_count 156 = .ok (.iaload, 1) := by decide +kernel
theorem dX10_count_157 : decode cX10_count 157 = .ok (.ireturn, 1) := by decide +kernel
theorem dX10_count_158 : decode cX10_count 158 = .ok (.aload_n 0, 1) := by decide +kernel
theorem dX10_count_159 : decode cX10_count 159 = .ok (.getfield 7, 3) := by decide +kernel
theorem dX10_count_162 : decode cX10_count 162 = .ok (.sipush 192, 3) := by decide +kernel
theorem dX10_count_165 : decode cX10_count 165 = .ok (.iaload, 1) := by decide +kernel
theorem dX10_count_166 : decode cX10_count 166 = .ok (.ireturn, 1) := by decide +kernel
theorem dX10_count_167 : decode cX10_count 167 = .ok (.aload_n 0, 1) := by decide +kernel
theorem dX10_count_168 : decode cX10_count 168 = .ok (.getfield 7, 3) := by decide +kernel
theorem dX10_count_171 : decode cX10_count 171 = .ok (.sipush 193, 3) := by decide +kernel
theorem dX10_count_174 : decode cX10_count 174 = .ok (.iaload, 1) := by decide +kernel
theorem dX10_count_175 : decode cX10_count 175 = .ok (.ireturn, 1) := by decide +kernel
theorem dX10_count_176 : decode cX10_count 176 = .ok (.aload_n 0, 1) := by decide +kernel
theorem dX10_count_177 : decode cX10_count 177 = .ok (.getfield 7, 3) := by decide +kernel
theorem dX10_count_180 : decode cX10_count 180 = .ok (.sipush 194, 3) := by decide +kernel
theorem dX10_count_183 : decode cX10_count 183 = .ok (.iaload, 1) := by decide +kernel
theorem dX10_count_184 : decode cX10_count 184 = .ok (.ireturn, 1) := by decide +kernel
theorem dX10_count_185 : decode cX10_count 185 = .ok (.aload_n 0, 1) := by decide +kernel
theorem dX10_count_186 : decode cX10_count 186 = .ok (.iconst 0, 1) := by decide +kernel
theorem dX10_count_187 : decode cX10_count 187 = .ok (.invokevirtual 135, 3) := by decide +kernel
theorem dX10_count_190 : decode cX10_count 190 = .ok (.ireturn, 1) := by decide +kernel
theorem dX10_count_191 : decode cX10_count 191 = .ok (.aload_n 0, 1) := by decide +kernel
theorem dX10_count_192 : decode cX10_count 192 = .ok (.iconst 1, 1) := by decide +kernel
theorem dX10_count_193 : decode cX10_count 193 = .ok (.invokevirtual 135, 3) := by decide +kernel
theorem dX10_count_196 : decode cX10_count 196 = .ok (.ireturn, 1) := by decide +kernel
theorem dX10_count_197 : decode cX10_count 197 = .ok (.aload_n 0, 1) := by decide +kernel
theorem dX10_count_198 : decode cX10_count 198 = .ok (.iconst 2, 1) := by decide +kernel
theorem dX10_count_199 : decode cX10_count 199 = .ok (.invokevirtual 135, 3) := by decide +kernel
theorem dX10_count_202 : decode cX10_count 202 = .ok (.ireturn, 1) := by decide +kernel
theorem dX10_count_203 : decode cX10_count 203 = .ok (.ldc 189, 2) := by decide +kernel
theorem dX10_count_205 : decode cX10_count 205 = .ok (.aload_n 0, 1) := by decide +kernel
theorem dX10_count_206 : decode cX10_count 206 = .ok (.getfield 7, 3) := by decide +kernel
theorem dX10_count_209 : decode cX10_count 209 = .ok (.sipush 202, 3) := by decide +kernel
theorem dX10_count_212 : decode cX10_count 212 = .ok (.iaload, 1) := by decide +kernel
theorem dX10_count_213 : decode cX10_count 213 = .ok (.iadd, 1) := by decide +kernel
theorem dX10_count_214 : decode cX10_count 214 = .ok (.ireturn, 1) := by decide +kernel
theorem dX10_count_215 : decode cX10_count 215 = .ok (.aload_n 0, 1) := by decide +kernel
theorem dX10_count_216 : decode cX10_count 216 = .ok (.getfield 7, 3) := by decide +kernel
theorem dX10_count_219 : decode cX10_count 219 = .ok (.sipush 206, 3) := by decide +kernel
theorem dX10_count_222 : decode cX10_count 222 = .ok (.iaload, 1) := by decide +kernel
theorem dX10_count_223 : decode cX10_count 223 = .ok (.ireturn, 1) := by decide +kernel
theorem dX10_count_224 : decode cX10_count 224 = .ok (.aload_n 0, 1) := by decide +kernel
theorem dX10_count_225 : decode cX10_count 225 = .ok (.getfield 33, 3) := by decide +kernel
theorem dX10_count_228 : decode cX10_count 228 = .ok (.ireturn, 1) := by decide +kernel
theorem dX10_count_229 : decode cX10_count 229 = .ok (.aload_n 0, 1) := by decide +kernel
theorem dX10_count_230 : decode cX10_count 230 = .ok (.getfield 190, 3) := by decide +kernel
theorem dX10_count_233 : decode cX10_count 233 = .ok (.ireturn, 1) := by decide +kernel
theorem dX10_count_234 : decode cX10_count 234 = .ok (.ldc 64, 2) := by decide +kernel
theorem dX10_count_236 : decode cX10_count 236 = .ok (.ireturn, 1) := by decide +kernel
theorem dX10_type_0 : decode cX10_type 0 = .ok (.iload_n 1, 1) := by decide +kernel
theorem dX10_type_1 : decode cX10_type 1 = .ok (.bipush 32, 2) := by decide +kernel
theorem dX10_type_3 : decode cX10_type 3 = .ok (.bipush 126, 2) := by decide +kernel
theorem dX10_type_5 : decode cX10_type 5 = .ok (.invokestatic 25, 3) := by decide +kernel
theorem dX10_type_8 : decode cX10_type 8 = .ok (.ifCond .ne 6, 3) := by decide +kernel
theorem dX10_type_11 : decode cX10_type 11 = .ok (.ldc 64, 2) := by decide +kernel
theorem dX10_type_13 : decode cX10_type 13 = .ok (.ireturn, 1) := by decide +kernel
theorem dX10_type_14 : decode cX10_type 14 = .ok (.aload_n 0, 1) := by decide +kernel
theorem dX10_type_15 : decode cX10_type 15 = .ok (.getfield 190, 3) := by decide +kernel
theorem dX10_type_18 : decode cX10_type 18 = .ok (.bipush 60, 2) := by decide +kernel
theorem dX10_type_20 : decode cX10_type 20 = .ok (.if_icmp .ne 6, 3) := by decide +kernel
theorem dX10_type_23 : decode cX10_type 23 = .ok (.ldc 69, 2) := by decide +kernel
theorem dX10_type_25 : decode cX10_type 25 = .ok (.ireturn, 1) := by decide +kernel
theorem dX10_type_26 : decode cX10_type 26 = .ok (.aload_n 0, 1) := by decide +kernel
theorem dX10_type_27 : decode cX10_type 27 = .ok (.getfield 19, 3) := by decide +kernel
theorem dX10_type_30 : decode cX10_type 30 = .ok (.aload_n 0, 1) := by decide +kernel
theorem dX10_type_31 : decode cX10_type 31 = .ok (.getfield 190, 3) := by decide +kernel
theorem dX10_type_34 : decode cX10_type 34 = .ok (.iload_n 1, 1) := by decide +kernel
theorem dX10_type_35 : decode cX10_type 35 = .ok (.iastore, 1) := by decide +kernel
theorem dX10_type_36 : decode cX10_type 36 = .ok (.aload_n 0, 1) := by decide +kernel
theorem dX10_type_37 : decode cX10_type 37 = .ok (.dup, 1) := by decide +kernel
theorem dX10_type_38 : decode cX10_type 38 = .ok (.getfield 190, 3) := by decide +kernel
theorem dX10_type_41 : decode cX10_type 41 = .ok (.iconst 1, 1) := by decide +kernel
theorem dX10_type_42 : decode cX10_type 42 = .ok (.iadd, 1) := by decide +kernel
theorem dX10_type_43 : decode cX10_type 43 = .ok (.putfield 190, 3) := by decide +kernel
theorem dX10_type_46 : decode cX10_type 46 = .ok (.aload_n 0, 1) := by decide +kernel
theorem dX10_type_47 : decode cX10_type 47 = .ok (.getfield 190, 3) := by decide +kernel
theorem dX10_type_50 : decode cX10_type 50 = .ok (.ireturn, 1) := by decide +kernel
theorem dX10_clearText_0 : decode cX10_clearText 0 = .ok (.aload_n 0, 1) := by decide +kernel
theorem dX10_clearText_1 : decode cX10_clearText 1 = .ok (.getfield 190, 3) := by decide +kernel
theorem dX10_clearText_4 : decode cX10_clearText 4 = .ok (.istore_n 1, 1) := by decide +kernel
theorem dX10_clearText_5 : decode cX10_clearText 5 = .ok (.aload_n 0, 1) := by decide +kernel
theorem dX10_clearText_6 : decode cX10_clearText 6 = .ok (.iconst 0, 1) := by decide +kernel
theorem dX10_clearText_7 : decode cX10_clearText 7 = .ok (.putfield 190, 3) := by decide +kernel
theorem dX10_clearText_10 : decode cX10_clearText 10 = .ok (.iload_n 1, 1) := by decide +kernel
theorem dX10_clearText_11 : decode cX10_clearText 11 = .ok (.ireturn, 1) := by decide +kernel
theorem dX10_at_0 : decode cX10_at 0 = .ok (.iload_n 1, 1) := by decide +kernel
theorem dX10_at_1 : decode cX10_at 1 = .ok (.aload_n 0, 1) := by decide +kernel
theorem dX10_at_2 : decode cX10_at 2 = .ok (.getfield 190, 3) := by decide +kernel
theorem dX10_at_5 : decode cX10_at 5 = .ok (.if_icmp .ge 12, 3) := by decide +kernel
theorem dX10_at_8 : decode cX10_at 8 = .ok (.aload_n 0, 1) := by decide +kernel
theorem dX10_at_9 : decode cX10_at 9 = .ok (.getfield 19, 3) := by decide +kernel
theorem dX10_at_12 : decode cX10_at 12 = .ok (.iload_n 1, 1) := by decide +kernel
theorem dX10_at_13 : decode cX10_at 13 = .ok (.iaload, 1) := by decide +kernel
theorem dX10_at_14 : decode cX10_at 14 = .ok (.goto 4, 3) := by decide +kernel
theorem dX10_at_17 : decode cX10_at 17 = .ok (.iconst 0, 1) := by decide +kernel
theorem dX10_at_18 : decode cX10_at 18 = .ok (.ireturn, 1) := by decide +kernel
theorem dX10_numbers_0 : decode cX10_numbers 0 = .ok (.iload_n 0, 1) := by decide +kernel
theorem dX10_numbers_1 : decode cX10_numbers 1 = .ok (.tableswitch 111 97 118 #[107, 109, 111, 105, 103, 107, 111, 107, 111, 111, 111, 105, 111, 111, 103, 103, 111, 107, 111, 111, 111, 109], 103) := by decide +kernel
theorem dX10_numbers_104 : decode cX10_numbers 104 = .ok (.iconst 0, 1) := by decide +kernel
theorem dX10_numbers_105 : decode cX10_numbers 105 = .ok (.ireturn, 1) := by decide +kernel
theorem dX10_numbers_106 : decode cX10_numbers 106 = .ok (.iconst 1, 1) := by decide +kernel
theorem dX10_numbers_107 : decode cX10_numbers 107 = .ok (.ireturn, 1) := by decide +kernel
theorem dX10_numbers_108 : decode cX10_numbers 108 = .ok (.iconst 2, 1) := by decide +kernel
theorem dX10_numbers_109 : decode cX10_numbers 109 = .ok (.ireturn, 1) := by decide +kernel
theorem dX10_numbers_110 : decode cX10_numbers 110 = .ok (.iconst 3, 1) := by decide +kernel
theorem dX10_numbers_111 : decode cX10_numbers 111 = .ok (.ireturn, 1) := by decide +kernel
theorem dX10_numbers_112 : decode cX10_numbers 112 = .ok (.iconst (-1), 1) := by decide +kernel
theorem dX10_numbers_113 : decode cX10_numbers 113 = .ok (.ireturn, 1) := by decide +kernel
theorem dX10_readOrder_0 : decode cX10_readOrder 0 = .ok (.aload_n 0, 1) := by decide +kernel
theorem dX10_readOrder_1 : decode cX10_readOrder 1 = .ok (.aload_n 0, 1) := by decide +kernel
theorem dX10_readOrder_2 : decode cX10_readOrder 2 = .ok (.iload_n 1, 1) := by decide +kernel
theorem dX10_readOrder_3 : decode cX10_readOrder 3 = .ok (.invokevirtual 193, 3) := by decide +kernel
theorem dX10_readOrder_6 : decode cX10_readOrder 6 = .ok (.putfield 196, 3) := by decide +kernel
theorem dX10_readOrder_9 : decode cX10_readOrder 9 = .ok (.aload_n 0, 1) := by decide +kernel
theorem dX10_readOrder_10 : decode cX10_readOrder 10 = .ok (.getfield 196, 3) := by decide +kernel
theorem dX10_readOrder_13 : decode cX10_readOrder 13 = .ok (.invokestatic 199, 3) := by decide +kernel
theorem dX10_readOrder_16 : decode cX10_readOrder 16 = .ok (.istore_n 2, 1) := by decide +kernel
theorem dX10_readOrder_17 : decode cX10_readOrder 17 = .ok (.aload_n 0, 1) := by decide +kernel
theorem dX10_readOrder_18 : decode cX10_readOrder 18 = .ok (.iconst 0, 1) := by decide +kernel
theorem dX10_readOrder_19 : decode cX10_readOrder 19 = .ok (.putfield 202, 3) := by decide +kernel
theorem dX10_readOrder_22 : decode cX10_readOrder 22 = .ok (.iload_n 2, 1) := by decide +kernel
theorem dX10_readOrder_23 : decode cX10_readOrder 23 = .ok (.ifCond .ge 5, 3) := by decide +kernel
theorem dX10_readOrder_26 : decode cX10_readOrder 26 = .ok (.iconst (-1), 1) := by decide +kernel
theorem dX10_readOrder_27 : decode cX10_readOrder 27 = .ok (.ireturn, 1) := by decide +kernel
theorem dX10_readOrder_28 : decode cX10_readOrder 28 = .ok (.iload_n 1, 1) := by decide +kernel
theorem dX10_readOrder_29 : decode cX10_readOrder 29 = .ok (.iconst 1, 1) := by decide +kernel
theorem dX10_readOrder_30 : decode cX10_readOrder 30 = .ok (.iadd, 1) := by decide +kernel
theorem dX10_readOrder_31 : decode cX10_readOrder 31 = .ok (.istore_n 3, 1) := by decide +kernel
theorem dX10_readOrder_32 : decode cX10_readOrder 32 = .ok (.iconst 0, 1) := by decide +kernel
theorem dX10_readOrder_33 : decode cX10_readOrder 33 = .ok (.istore 4, 2) := by decide +kernel
theorem dX10_readOrder_35 : decode cX10_readOrder 35 = .ok (.iload 4, 2) := by decide +kernel
theorem dX10_readOrder_37 : decode cX10_readOrder 37 = .ok (.iload_n 2, 1) := by decide +kernel
theorem dX10_readOrder_38 : decode cX10_readOrder 38 = .ok (.if_icmp .ge 124, 3) := by decide +kernel
theorem dX10_readOrder_41 : decode cX10_readOrder 41 = .ok (.aload_n 0, 1) := by decide +kernel
theorem dX10_readOrder_42 : decode cX10_readOrder 42 = .ok (.getfield 22, 3) := by decide +kernel
theorem dX10_readOrder_45 : decode cX10_readOrder 45 = .ok (.iload 4, 2) := by decide +kernel
theorem dX10_readOrder_47 : decode cX10_readOrder 47 = .ok (.iconst 0, 1) := by decide +kernel
theorem dX10_readOrder_48 : decode cX10_readOrder 48 = .ok (.iastore, 1) := by decide +kernel
theorem dX10_readOrder_49 : decode cX10_readOrder 49 = .ok (.iconst 0, 1) := by decide +kernel
theorem dX10_readOrder_50 : decode cX10_readOrder 50 = .ok (.istore 5, 2) := by decide +kernel
theorem dX10_readOrder_52 : decode cX10_readOrder 52 = .ok (.iload 5, 2) := by decide +kernel
theorem dX10_readOrder_54 : decode cX10_readOrder 54 = .ok (.iconst 3, 1) := by decide +kernel
theorem dX10_readOrder_55 : decode cX10_readOrder 55 = .ok (.if_icmp .ge 53, 3) := by decide +kernel
theorem dX10_readOrder_58 : decode cX10_readOrder 58 = .ok (.aload_n 0, 1) := by decide +kernel
theorem dX10_readOrder_59 : decode cX10_readOrder 59 = .ok (.iload_n 3, 1) := by decide +kernel
theorem dX10_readOrder_60 : decode cX10_readOrder 60 = .ok (.invokevirtual 193, 3) := by decide +kernel
theorem dX10_readOrder_63 : decode cX10_readOrder 63 = .ok (.bipush 48, 2) := by decide +kernel
theorem dX10_readOrder_65 : decode cX10_readOrder 65 = .ok (.bipush 57, 2) := by decide +kernel
theorem dX10_readOrder_67 : decode cX10_readOrder 67 = .ok (.invokestatic 25, 3) := by decide +kernel
theorem dX10_readOrder_70 : decode cX10_readOrder 70 = .ok (.ifCond .eq 38, 3) := by decide +kernel
theorem dX10_readOrder_73 : decode cX10_readOrder 73 = .ok (.aload_n 0, 1) := by decide +kernel
theorem dX10_readOrder_74 : decode cX10_readOrder 74 = .ok (.getfield 22, 3) := by decide +kernel
theorem dX10_readOrder_77 : decode cX10_readOrder 77 = .ok (.iload 4, 2) := by decide +kernel
theorem dX10_readOrder_79 : decode cX10_readOrder 79 = .ok (.bipush 10, 2) := by decide +kernel
theorem dX10_readOrder_81 : decode cX10_readOrder 81 = .ok (.aload_n 0, 1) := by decide +kernel
theorem dX10_readOrder_82 : decode cX10_readOrder 82 = .ok (.getfield 22, 3) := by decide +kernel
theorem dX10_readOrder_85 : decode cX10_readOrder 85 = .ok (.iload 4, 2) := by decide +kernel
theorem dX10_readOrder_87 : decode cX10_readOrder 87 = .ok (.iaload, 1) := by decide +kernel
theorem dX10_readOrder_88 : decode cX10_readOrder 88 = .ok (.imul, 1) := by decide +kernel
theorem dX10_readOrder_89 : decode cX10_readOrder 89 = .ok (.aload_n 0, 1) := by decide +kernel
theorem dX10_readOrder_90 : decode cX10_readOrder 90 = .ok (.iload_n 3, 1) := by decide +kernel
theorem dX10_readOrder_91 : decode cX10_readOrder 91 = .ok (.invokevirtual 193, 3) := by decide +kernel
theorem dX10_readOrder_94 : decode cX10_readOrder 94 = .ok (.iadd, 1) := by decide +kernel
theorem dX10_readOrder_95 : decode cX10_readOrder 95 = .ok (.bipush 48, 2) := by decide +kernel
theorem dX10_readOrder_97 : decode cX10_readOrder 97 = .ok (.isub, 1) := by decide +kernel
theorem dX10_readOrder_98 : decode cX10_readOrder 98 = .ok (.iastore, 1) := by decide +kernel
theorem dX10_readOrder_99 : decode cX10_readOrder 99 = .ok (.iinc 5 1, 3) := by decide +kernel
theorem dX10_readOrder_102 : decode cX10_readOrder 102 = .ok (.iinc 3 1, 3) := by decide +kernel
theorem dX10_readOrder_105 : decode cX10_readOrder 105 = .ok (.goto (-53), 3) := by decide +kernel
theorem dX10_readOrder_108 : decode cX10_readOrder 108 = .ok (.aload_n 0, 1) := by decide +kernel
theorem dX10_readOrder_109 : decode cX10_readOrder 109 = .ok (.iload_n 3, 1) := by decide +kernel
theorem dX10_readOrder_110 : decode cX10_readOrder 110 = .ok (.iload_n 1, 1) := by decide +kernel
theorem dX10_readOrder_111 : decode cX10_readOrder 111 = .ok (.isub, 1) := by decide +kernel
theorem dX10_readOrder_112 : decode cX10_readOrder 112 = .ok (.putfield 202, 3) := by decide +kernel
theorem dX10_readOrder_115 : decode cX10_readOrder 115 = .ok (.iload 5, 2) := by decide +kernel
theorem dX10_readOrder_117 : decode cX10_readOrder 117 = .ok (.ifCond .eq 21, 3) := by decide +kernel
theorem dX10_readOrder_120 : decode cX10_readOrder 120 = .ok (.iload 4, 2) := by decide +kernel
theorem dX10_readOrder_122 : decode cX10_readOrder 122 = .ok (.iconst 1, 1) := by decide +kernel
theorem dX10_readOrder_123 : decode cX10_readOrder 123 = .ok (.iadd, 1) := by decide +kernel
theorem dX10_readOrder_124 : decode cX10_readOrder 124 = .ok (.iload_n 2, 1) := by decide +kernel
theorem dX10_readOrder_125 : decode cX10_readOrder 125 = .ok (.if_icmp .ge 15, 3) := by decide +kernel
theorem dX10_readOrder_128 : decode cX10_readOrder 128 = .ok (.aload_n 0, 1) := by decide +kernel
theorem dX10_readOrder_129 : decode cX10_readOrder 129 = .ok (.iload_n 3, 1) := by decide +kernel
theorem dX10_readOrder_130 : decode cX10_readOrder 130 = .ok (.invokevirtual 193, 3) := by decide +kernel
theorem dX10_readOrder_133 : decode cX10_readOrder 133 = .ok (.bipush 44, 2) := by decide +kernel
theorem dX10_readOrder_135 : decode cX10_readOrder 135 = .ok (.if_icmp .eq 5, 3) := by decide +kernel
theorem dX10_readOrder_138 : decode cX10_readOrder 138 = .ok (.iconst (-1), 1) := by decide +kernel
theorem dX10_readOrder_139 : decode cX10_readOrder 139 = .ok (.ireturn, 1) := by decide +kernel
theorem dX10_readOrder_140 : decode cX10_readOrder 140 = .ok (.iload_n 3, 1) := by decide +kernel
theorem dX10_readOrder_141 : decode cX10_readOrder 141 = .ok (.iload 4, 2) := by decide +kernel
theorem dX10_readOrder_143 : decode cX10_readOrder 143 = .ok (.iconst 1, 1) := by decide +kernel
theorem dX10_readOrder_144 : decode cX10_readOrder 144 = .ok (.iadd, 1) := by decide +kernel
theorem dX10_readOrder_145 : decode cX10_readOrder 145 = .ok (.iload_n 2, 1) := by decide +kernel
theorem dX10_readOrder_146 : decode cX10_readOrder 146 = .ok (.if_icmp .ge 7, 3) := by decide +kernel
theorem dX10_readOrder_149 : decode cX10_readOrder 149 = .ok (.iconst 1, 1) := by decide +kernel
theorem dX10_readOrder_150 : decode cX10_readOrder 150 = .ok (.goto 4, 3) := by decide +kernel
theorem dX10_readOrder_153 : decode cX10_readOrder 153 = .ok (.iconst 0, 1) := by decide +kernel
theorem dX10_readOrder_154 : decode cX10_readOrder 154 = .ok (.iadd, 1) := by decide +kernel
theorem dX10_readOrder_155 : decode cX10_readOrder 155 = .ok (.istore_n 3, 1) := by decide +kernel
theorem dX10_readOrder_156 : decode cX10_readOrder 156 = .ok (.iinc 4 1, 3) := by decide +kernel
theorem dX10_readOrder_159 : decode cX10_readOrder 159 = .ok (.goto (-124), 3) := by decide +kernel
theorem dX10_readOrder_162 : decode cX10_readOrder 162 = .ok (.aload_n 0, 1) := by decide +kernel
theorem dX10_readOrder_163 : decode cX10_readOrder 163 = .ok (.iload_n 3, 1) := by decide +kernel
theorem dX10_readOrder_164 : decode cX10_readOrder 164 = .ok (.iload_n 1, 1) := by decide +kernel
theorem dX10_readOrder_165 : decode cX10_readOrder 165 = .ok (.isub, 1) := by decide +kernel
theorem dX10_readOrder_166 : decode cX10_readOrder 166 = .ok (.putfield 202, 3) := by decide +kernel
theorem dX10_readOrder_169 : decode cX10_readOrder 169 = .ok (.aload_n 0, 1) := by decide +kernel
theorem dX10_readOrder_170 : decode cX10_readOrder 170 = .ok (.iload_n 3, 1) := by decide +kernel
theorem dX10_readOrder_171 : decode cX10_readOrder 171 = .ok (.invokevirtual 193, 3) := by decide +kernel
theorem dX10_readOrder_174 : decode cX10_readOrder 174 = .ok (.bipush 59, 2) := by decide +kernel
theorem dX10_readOrder_176 : decode cX10_readOrder 176 = .ok (.if_icmp .ne 9, 3) := by decide +kernel
theorem dX10_readOrder_179 : decode cX10_readOrder 179 = .ok (.iload_n 3, 1) := by decide +kernel
theorem dX10_readOrder_180 : decode cX10_readOrder 180 = .ok (.iconst 1, 1) := by decide +kernel
theorem dX10_readOrder_181 : decode cX10_readOrder 181 = .ok (.iadd, 1) := by decide +kernel
theorem dX10_readOrder_182 : decode cX10_readOrder 182 = .ok (.goto 4, 3) := by decide +kernel
theorem dX10_readOrder_185 : decode cX10_readOrder 185 = .ok (.iconst (-1), 1) := by decide +kernel
theorem dX10_readOrder_186 : decode cX10_readOrder 186 = .ok (.ireturn, 1) := by decide +kernel
theorem dX10_noOrder_0 : decode cX10_noOrder 0 = .ok (.aload_n 0, 1) := by decide +kernel
theorem dX10_noOrder_1 : decode cX10_noOrder 1 = .ok (.getfield 196, 3) := by decide +kernel
theorem dX10_noOrder_4 : decode cX10_noOrder 4 = .ok (.tableswitch 250 97 118 #[167, 121, 250, 201, 250, 184, 250, 104, 250, 250, 250, 212, 250, 250, 240, 245, 250, 223, 250, 250, 250, 144], 104) := by decide +kernel
theorem dX10_noOrder_108 : decode cX10_noOrder 108 = .ok (.aload_n 0, 1) := by decide +kernel
theorem dX10_noOrder_109 : decode cX10_noOrder 109 = .ok (.aload_n 0, 1) := by decide +kernel
theorem dX10_noOrder_110 : decode cX10_noOrder 110 = .ok (.getfield 22, 3) := by decide +kernel
theorem dX10_noOrder_113 : decode cX10_noOrder 113 = .ok (.iconst 0, 1) := by decide +kernel
theorem dX10_noOrder_114 : decode cX10_noOrder 114 = .ok (.iaload, 1) := by decide +kernel
theorem dX10_noOrder_115 : decode cX10_noOrder 115 = .ok (.aload_n 0, 1) := by decide +kernel
theorem dX10_noOrder_116 : decode cX10_noOrder 116 = .ok (.getfield 22, 3) := by decide +kernel
theorem dX10_noOrder_119 : decode cX10_noOrder 119 = .ok (.iconst 1, 1) := by decide +kernel
theorem dX10_noOrder_120 : decode cX10_noOrder 120 = .ok (.iaload, 1) := by decide +kernel
theorem dX10_noOrder_121 : decode cX10_noOrder 121 = .ok (.invokevirtual 73, 3) := by decide +kernel
theorem dX10_noOrder_124 : decode cX10_noOrder 124 = .ok (.ireturn, 1) := by decide +kernel
theorem dX10_noOrder_125 : decode cX10_noOrder 125 = .ok (.aload_n 0, 1) := by decide +kernel
theorem dX10_noOrder_126 : decode cX10_noOrder 126 = .ok (.aload_n 0, 1) := by decide +kernel
theorem dX10_noOrder_127 : decode cX10_noOrder 127 = .ok (.getfield 22, 3) := by decide +kernel
theorem dX10_noOrder_130 : decode cX10_noOrder 130 = .ok (.iconst 0, 1) := by decide +kernel
theorem dX10_noOrder_131 : decode cX10_noOrder 131 = .ok (.iaload, 1) := by decide +kernel
theorem dX10_noOrder_132 : decode cX10_noOrder 132 = .ok (.aload_n 0, 1) := by decide +kernel
theorem dX10_noOrder_133 : decode cX10_noOrder 133 = .ok (.getfield 22, 3) := by decide +kernel
theorem dX10_noOrder_136 : decode cX10_noOrder 136 = .ok (.iconst 1, 1) := by decide +kernel
theorem dX10_noOrder_137 : decode cX10_noOrder 137 = .ok (.iaload, 1) := by decide +kernel
theorem dX10_noOrder_138 : decode cX10_noOrder 138 = .ok (.aload_n 0, 1) := by decide +kernel
theorem dX10_noOrder_139 : decode cX10_noOrder 139 = .ok (.getfield 22, 3) := by decide +kernel
theorem dX10_noOrder_142 : decode cX10_noOrder 142 = .ok (.iconst 2, 1) := by decide +kernel
theorem dX10_noOrder_143 : decode cX10_noOrder 143 = .ok (.iaload, 1) := by decide +kernel
theorem dX10_noOrder_144 : decode cX10_noOrder 144 = .ok (.invokevirtual 89, 3) := by decide +kernel
theorem dX10_noOrder_147 : decode cX10_noOrder 147 = .ok (.ireturn, 1) := by decide +kernel
theorem dX10_noOrder_148 : decode cX10_noOrder 148 = .ok (.aload_n 0, 1) := by decide +kernel
theorem dX10_noOrder_149 : decode cX10_noOrder 149 = .ok (.aload_n 0, 1) := by decide +kernel
theorem dX10_noOrder_150 : decode cX10_noOrder 150 = .ok (.getfield 22, 3) := by decide +kernel
theorem dX10_noOrder_153 : decode cX10_noOrder 153 = .ok (.iconst 0, 1) := by decide +kernel
theorem dX10_noOrder_154 : decode cX10_noOrder 154 = .ok (.iaload, 1) := by decide +kernel
theorem dX10_noOrder_155 : decode cX10_noOrder 155 = .ok (.aload_n 0, 1) := by decide +kernel
theorem dX10_noOrder_156 : decode cX10_noOrder 156 = .ok (.getfield 22, 3) := by decide +kernel
theorem dX10_noOrder_159 : decode cX10_noOrder 159 = .ok (.iconst 1, 1) := by decide +kernel
theorem dX10_noOrder_160 : decode cX10_noOrder 160 = .ok (.iaload, 1) := by decide +kernel
theorem dX10_noOrder_161 : decode cX10_noOrder 161 = .ok (.aload_n 0, 1) := by decide +kernel
theorem dX10_noOrder_162 : decode cX10_noOrder 162 = .ok (.getfield 22, 3) := by decide +kernel
theorem dX10_noOrder_165 : decode cX10_noOrder 165 = .ok (.iconst 2, 1) := by decide +kernel
theorem dX10_noOrder_166 : decode cX10_noOrder 166 = .ok (.iaload, 1) := by decide +kernel
theorem dX10_noOrder_167 : decode cX10_noOrder 167 = .ok (.invokevirtual 107, 3) := by decide +kernel
theorem dX10_noOrder_170 : decode cX10_noOrder 170 = .ok (.ireturn, 1) := by decide +kernel
theorem dX10_noOrder_171 : decode cX10_noOrder 171 = .ok (.aload_n 0, 1) := by decide +kernel
theorem dX10_noOrder_172 : decode cX10_noOrder 172 = .ok (.aload_n 0, 1) := by decide +kernel
theorem dX10_noOrder_173 : decode cX10_noOrder 173 = .ok (.getfield 22, 3) := by decide +kernel
theorem dX10_noOrder_176 : decode cX10_noOrder 176 = .ok (.iconst 0, 1) := by decide +kernel
theorem dX10_noOrder_177 : decode cX10_noOrder 177 = .ok (.iaload, 1) := by decide +kernel
theorem dX10_noOrder_178 : decode cX10_noOrder 178 = .ok (.aload_n 0, 1) := by decide +kernel
theorem dX10_noOrder_179 : decode cX10_noOrder 179 = .ok (.getfield 22, 3) := by decide +kernel
theorem dX10_noOrder_182 : decode cX10_noOrder 182 = .ok (.iconst 1, 1) := by decide +kernel
theorem dX10_noOrder_183 : decode cX10_noOrder 183 = .ok (.iaload, 1) := by decide +kernel
theorem dX10_noOrder_184 : decode cX10_noOrder 184 = .ok (.invokevirtual 113, 3) := by decide +kernel
theorem dX10_noOrder_187 : decode cX10_noOrder 187 = .ok (.ireturn, 1) := by decide +kernel
theorem dX10_noOrder_188 : decode cX10_noOrder 188 = .ok (.aload_n 0, 1) := by decide +kernel
theorem dX10_noOrder_189 : decode cX10_noOrder 189 = .ok (.aload_n 0, 1) := by decide +kernel
theorem dX10_noOrder_190 : decode cX10_noOrder 190 = .ok (.getfield 22, 3) := by decide +kernel
theorem dX10_noOrder_193 : decode cX10_noOrder 193 = .ok (.iconst 0, 1) := by decide +kernel
theorem dX10_noOrder_194 : decode cX10_noOrder 194 = .ok (.iaload, 1) := by decide +kernel
theorem dX10_noOrder_195 : decode cX10_noOrder 195 = .ok (.aload_n 0, 1) := by decide +kernel
theorem dX10_noOrder_196 : decode cX10_noOrder 196 = .ok (.getfield 22, 3) := by decide +kernel
theorem dX10_noOrder_199 : decode cX10_noOrder 199 = .ok (.iconst 1, 1) := by decide +kernel
theorem dX10_noOrder_200 : decode cX10_noOrder 200 = .ok (.iaload, 1) := by decide +kernel
theorem dX10_noOrder_201 : decode cX10_noOrder 201 = .ok (.invokevirtual 119, 3) := by decide +kernel
theorem dX10_noOrder_204 : decode cX10_noOrder 204 = .ok (.ireturn, 1) := by decide +kernel
theorem dX10_noOrder_205 : decode cX10_noOrder 205 = .ok (.aload_n 0, 1) := by decide +kernel
theorem dX10_noOrder_206 : decode cX10_noOrder 206 = .ok (.aload_n 0, 1) := by decide +kernel
theorem dX10_noOrder_207 : decode cX10_noOrder 207 = .ok (.getfield 22, 3) := by decide +kernel
theorem dX10_noOrder_210 : decode cX10_noOrder 210 = .ok (.iconst 0, 1) := by decide +kernel
theorem dX10_noOrder_211 : decode cX10_noOrder 211 = .ok (.iaload, 1) := by decide +kernel
theorem dX10_noOrder_212 : decode cX10_noOrder 212 = .ok (.invokevirtual 166, 3) := by decide +kernel
theorem dX10_noOrder_215 : decode cX10_noOrder 215 = .ok (.ireturn, 1) := by decide +kernel
theorem dX10_noOrder_216 : decode cX10_noOrder 216 = .ok (.aload_n 0, 1) := by decide +kernel
theorem dX10_noOrder_217 : decode cX10_noOrder 217 = .ok (.aload_n 0, 1) := by decide +kernel
theorem dX10_noOrder_218 : decode cX10_noOrder 218 = .ok (.getfield 22, 3) := by decide +kernel
theorem dX10_noOrder_221 : decode cX10_noOrder 221 = .ok (.iconst 0, 1) := by decide +kernel
theorem dX10_noOrder_222 : decode cX10_noOrder 222 = .ok (.iaload, 1) := by decide +kernel
theorem dX10_noOrder_223 : decode cX10_noOrder 223 = .ok (.invokevirtual 141, 3) := by decide +kernel
theorem dX10_noOrder_226 : decode cX10_noOrder 226 = .ok (.ireturn, 1) := by decide +kernel
theorem dX10_noOrder_227 : decode cX10_noOrder 227 = .ok (.aload_n 0, 1) := by decide +kernel
theorem dX10_noOrder_228 : decode cX10_noOrder 228 = .ok (.aload_n 0, 1) := by decide +kernel
theorem dX10_noOrder_229 : decode cX10_noOrder 229 = .ok (.getfield 22, 3) := by decide +kernel
theorem dX10_noOrder_232 : decode cX10_noOrder 232 = .ok (.iconst 0, 1) := by decide +kernel
theorem dX10_noOrder_233 : decode cX10_noOrder 233 = .ok (.iaload, 1) := by decide +kernel
theorem dX10_noOrder_234 : decode cX10_noOrder 234 = .ok (.aload_n 0, 1) := by decide +kernel
theorem dX10_noOrder_235 : decode cX10_noOrder 235 = .ok (.getfield 22, 3) := by decide +kernel
theorem dX10_noOrder_238 : decode cX10_noOrder 238 = .ok (.iconst 1, 1) := by decide +kernel
theorem dX10_noOrder_239 : decode cX10_noOrder 239 = .ok (.iaload, 1) := by decide +kernel
theorem dX10_noOrder_240 : decode cX10_noOrder 240 = .ok (.invokevirtual 147, 3) := by decide +kernel
theorem dX10_noOrder_243 : decode cX10_noOrder 243 = .ok (.ireturn, 1) := by decide +kernel
theorem dX10_noOrder_244 : decode cX10_noOrder 244 = .ok (.aload_n 0, 1) := by decide +kernel
theorem dX10_noOrder_245 : decode cX10_noOrder 245 = .ok (.invokevirtual 153, 3) := by decide +kernel
theorem dX10_noOrder_248 : decode cX10_noOrder 248 = .ok (.ireturn, 1) := by decide +kernel
theorem dX10_noOrder_249 : decode cX10_noOrder 249 = .ok (.aload_n 0, 1) := by decide +kernel
theorem dX10_noOrder_250 : decode cX10_noOrder 250 = .ok (.invokevirtual 160, 3) := by decide +kernel
theorem dX10_noOrder_253 : decode cX10_noOrder 253 = .ok (.ireturn, 1) := by decide +kernel
theorem dX10_noOrder_254 : decode cX10_noOrder 254 = .ok (.aload_n 0, 1) := by decide +kernel
theorem dX10_noOrder_255 : decode cX10_noOrder 255 = .ok (.invokevirtual 176, 3) := by decide +kernel
theorem dX10_noOrder_258 : decode cX10_noOrder 258 = .ok (.ireturn, 1) := by decide +kernel
theorem dX10_doOrder_0 : decode cX10_doOrder 0 = .ok (.aload_n 0, 1) := by decide +kernel
theorem dX10_doOrder_1 : decode cX10_doOrder 1 = .ok (.getfield 196, 3) := by decide +kernel
theorem dX10_doOrder_4 : decode cX10_doOrder 4 = .ok (.tableswitch 250 97 118 #[167, 121, 250, 201, 250, 184, 250, 104, 250, 250, 250, 212, 250, 250, 240, 245, 250, 223, 250, 250, 250, 144], 104) := by decide +kernel
theorem dX10_doOrder_108 : decode cX10_doOrder 108 = .ok (.aload_n 0, 1) := by decide +kernel
theorem dX10_doOrder_109 : decode cX10_doOrder 109 = .ok (.aload_n 0, 1) := by decide +kernel
theorem dX10_doOrder_110 : decode cX10_doOrder 110 = .ok (.getfield 22, 3) := by decide +kernel
theorem dX10_doOrder_113 : decode cX10_doOrder 113 = .ok (.iconst 0, 1) := by decide +kernel
theorem dX10_doOrder_114 : decode cX10_doOrder 114 = .ok (.iaload, 1) := by decide +kernel
theorem dX10_doOrder_115 : decode cX10_doOrder 115 = .ok (.aload_n 0, 1) := by decide +kernel
theorem dX10_doOrder_116 : decode cX10_doOrder 116 = .ok (.getfield 22, 3) := by decide +kernel
theorem dX10_doOrder_119 : decode cX10_doOrder 119 = .ok (.iconst 1, 1) := by decide +kernel
theorem dX10_doOrder_120 : decode cX10_doOrder 120 = .ok (.iaload, 1) := by decide +kernel
theorem dX10_doOrder_121 : decode cX10_doOrder 121 = .ok (.invokevirtual 80, 3) := by decide +kernel
theorem dX10_doOrder_124 : decode cX10_doOrder 124 = .ok (.ireturn, 1) := by decide +kernel
theorem dX10_doOrder_125 : decode cX10_doOrder 125 = .ok (.aload_n 0, 1) := by decide +kernel
theorem dX10_doOrder_126 : decode cX10_doOrder 126 = .ok (.aload_n 0, 1) := by decide +kernel
theorem dX10_doOrder_127 : decode cX10_doOrder 127 = .ok (.getfield 22, 3) := by decide +kernel
theorem dX10_doOrder_130 : decode cX10_doOrder 130 = .ok (.iconst 0, 1) := by decide +kernel
theorem dX10_doOrder_131 : decode cX10_doOrder 131 = .ok (.iaload, 1) := by decide +kernel
theorem dX10_doOrder_132 : decode cX10_doOrder 132 = .ok (.aload_n 0, 1) := by decide +kernel
theorem dX10_doOrder_133 : decode cX10_doOrder 133 = .ok (.getfield 22, 3) := by decide +kernel
theorem dX10_doOrder_136 : decode cX10_doOrder 136 = .ok (.iconst 1, 1) := by decide +kernel
theorem dX10_doOrder_137 : decode cX10_doOrder 137 = .ok (.iaload, 1) := by decide +kernel
theorem dX10_doOrder_138 : decode cX10_doOrder 138 = .ok (.aload_n 0, 1) := by decide +kernel
theorem dX10_doOrder_139 : decode cX10_doOrder 139 = .ok (.getfield 22, 3) := by decide +kernel
theorem dX10_doOrder_142 : decode cX10_doOrder 142 = .ok (.iconst 2, 1) := by decide +kernel
theorem dX10_doOrder_143 : decode cX10_doOrder 143 = .ok (.iaload, 1) := by decide +kernel
theorem dX10_doOrder_144 : decode cX10_doOrder 144 = .ok (.invokevirtual 92, 3) := by decide +kernel
theorem dX10_doOrder_147 : decode cX10_doOrder 147 = .ok (.ireturn, 1) := by decide +kernel
theorem dX10_doOrder_148 : decode cX10_doOrder 148 = .ok (.aload_n 0, 1) := by decide +kernel
theorem dX10_doOrder_149 : decode cX10_doOrder 149 = .ok (.aload_n 0, 1) := by decide +kernel
theorem dX10_doOrder_150 : decode cX10_doOrder 150 = .ok (.getfield 22, 3) := by decide +kernel
theorem dX10_doOrder_153 : decode cX10_doOrder 153 = .ok (.iconst 0, 1) := by decide +kernel
theorem dX10_doOrder_154 : decode cX10_doOrder 154 = .ok (.iaload, 1) := by decide +kernel
theorem dX10_doOrder_155 : decode cX10_doOrder 155 = .ok (.aload_n 0, 1) := by decide +kernel
theorem dX10_doOrder_156 : decode cX10_doOrder 156 = .ok (.getfield 22, 3) := by decide +kernel
theorem dX10_doOrder_159 : decode cX10_doOrder 159 = .ok (.iconst 1, 1) := by decide +kernel
theorem dX10_doOrder_160 : decode cX10_doOrder 160 = .ok (.iaload, 1) := by decide +kernel
theorem dX10_doOrder_161 : decode cX10_doOrder 161 = .ok (.aload_n 0, 1) := by decide +kernel
theorem dX10_doOrder_162 : decode cX10_doOrder 162 = .ok (.getfield 22, 3) := by decide +kernel
theorem dX10_doOrder_165 : decode cX10_doOrder 165 = .ok (.iconst 2, 1) := by decide +kernel
theorem dX10_doOrder_166 : decode cX10_doOrder 166 = .ok (.iaload, 1) := by decide +kernel
theorem dX10_doOrder_167 : decode cX10_doOrder 167 = .ok (.invokevirtual 110, 3) := by decide +kernel
theorem dX10_doOrder_170 : decode cX10_doOrder 170 = .ok (.ireturn, 1) := by decide +kernel
theorem dX10_doOrder_171 : decode cX10_doOrder 171 = .ok (.aload_n 0, 1) := by decide +kernel
theorem dX10_doOrder_172 : decode cX10_doOrder 172 = .ok (.aload_n 0, 1) := by decide +kernel
theorem dX10_doOrder_173 : decode cX10_doOrder 173 = .ok (.getfield 22, 3) := by decide +kernel
theorem dX10_doOrder_176 : decode cX10_doOrder 176 = .ok (.iconst 0, 1) := by decide +kernel
theorem dX10_doOrder_177 : decode cX10_doOrder 177 = .ok (.iaload, 1) := by decide +kernel
theorem dX10_doOrder_178 : decode cX10_doOrder 178 = .ok (.aload_n 0, 1) := by decide +kernel
theorem dX10_doOrder_179 : decode cX10_doOrder 179 = .ok (.getfield 22, 3) := by decide +kernel
theorem dX10_doOrder_182 : decode cX10_doOrder 182 = .ok (.iconst 1, 1) := by decide +kernel
theorem dX10_doOrder_183 : decode cX10_doOrder 183 = .ok (.iaload, 1) := by decide +kernel
theorem dX10_doOrder_184 : decode cX10_doOrder 184 = .ok (.invokevirtual 116, 3) := by decide +kernel
theorem dX10_doOrder_187 : decode cX10_doOrder 187 = .ok (.ireturn, 1) := by decide +kernel
theorem dX10_doOrder_188 : decode cX10_doOrder 188 = .ok (.aload_n 0, 1) := by decide +kernel
theorem dX10_doOrder_189 : decode cX10_doOrder 189 = .ok (.aload_n 0, 1) := by decide +kernel
theorem dX10_doOrder_190 : decode cX10_doOrder 190 = .ok (.getfield 22, 3) := by decide +kernel
theorem dX10_doOrder_193 : decode cX10_doOrder 193 = .ok (.iconst 0, 1) := by decide +kernel
theorem dX10_doOrder_194 : decode cX10_doOrder 194 = .ok (.iaload, 1) := by decide +kernel
theorem dX10_doOrder_195 : decode cX10_doOrder 195 = .ok (.aload_n 0, 1) := by decide +kernel
theorem dX10_doOrder_196 : decode cX10_doOrder 196 = .ok (.getfield 22, 3) := by decide +kernel
theorem dX10_doOrder_199 : decode cX10_doOrder 199 = .ok (.iconst 1, 1) := by decide +kernel
theorem dX10_doOrder_200 : decode cX10_doOrder 200 = .ok (.iaload, 1) := by decide +kernel
theorem dX10_doOrder_201 : decode cX10_doOrder 201 = .ok (.invokevirtual 122, 3) := by decide +kernel
theorem dX10_doOrder_204 : decode cX10_doOrder 204 = .ok (.ireturn, 1) := by decide +kernel
theorem dX10_doOrder_205 : decode cX10_doOrder 205 = .ok (.aload_n 0, 1) := by decide +kernel
theorem dX10_doOrder_206 : decode cX10_doOrder 206 = .ok (.aload_n 0, 1) := by decide +kernel
theorem dX10_doOrder_207 : decode cX10_doOrder 207 = .ok (.getfield 22, 3) := by decide +kernel
theorem dX10_doOrder_210 : decode cX10_doOrder 210 = .ok (.iconst 0, 1) := by decide +kernel
theorem dX10_doOrder_211 : decode cX10_doOrder 211 = .ok (.iaload, 1) := by decide +kernel
theorem dX10_doOrder_212 : decode cX10_doOrder 212 = .ok (.invokevirtual 169, 3) := by decide +kernel
theorem dX10_doOrder_215 : decode cX10_doOrder 215 = .ok (.ireturn, 1) := by decide +kernel
theorem dX10_doOrder_216 : decode cX10_doOrder 216 = .ok (.aload_n 0, 1) := by decide +kernel
theorem dX10_doOrder_217 : decode cX10_doOrder 217 = .ok (.aload_n 0, 1) := by decide +kernel
theorem dX10_doOrder_218 : decode cX10_doOrder 218 = .ok (.getfield 22, 3) := by decide +kernel
theorem dX10_doOrder_221 : decode cX10_doOrder 221 = .ok (.iconst 0, 1) := by decide +kernel
theorem dX10_doOrder_222 : decode cX10_doOrder 222 = .ok (.iaload, 1) := by decide +kernel
theorem dX10_doOrder_223 : decode cX10_doOrder 223 = .ok (.invokevirtual 144, 3) := by decide +kernel
theorem dX10_doOrder_226 : decode cX10_doOrder 226 = .ok (.ireturn, 1) := by decide +kernel
theorem dX10_doOrder_227 : decode cX10_doOrder 227 = .ok (.aload_n 0, 1) := by decide +kernel
theorem dX10_doOrder_228 : decode cX10_doOrder 228 = .ok (.aload_n 0, 1) := by decide +kernel
theorem dX10_doOrder_229 : decode cX10_doOrder 229 = .ok (.getfield 22, 3) := by decide +kernel
theorem dX10_doOrder_232 : decode cX10_doOrder 232 = .ok (.iconst 0, 1) := by decide +kernel
theorem dX10_doOrder_233 : decode cX10_doOrder 233 = .ok (.iaload, 1) := by decide +kernel
theorem dX10_doOrder_234 : decode cX10_doOrder 234 = .ok (.aload_n 0, 1) := by decide +kernel
theorem dX10_doOrder_235 : decode cX10_doOrder 235 = .ok (.getfield 22, 3) := by decide +kernel
theorem dX10_doOrder_238 : decode cX10_doOrder 238 = .ok (.iconst 1, 1) := by decide +kernel
theorem dX10_doOrder_239 : decode cX10_doOrder 239 = .ok (.iaload, 1) := by decide +kernel
theorem dX10_doOrder_240 : decode cX10_doOrder 240 = .ok (.invokevirtual 150, 3) := by decide +kernel
theorem dX10_doOrder_243 : decode cX10_doOrder 243 = .ok (.ireturn, 1) := by decide +kernel
theorem dX10_doOrder_244 : decode cX10_doOrder 244 = .ok (.aload_n 0, 1) := by decide +kernel
theorem dX10_doOrder_245 : decode cX10_doOrder 245 = .ok (.invokevirtual 157, 3) := by decide +kernel
theorem dX10_doOrder_248 : decode cX10_doOrder 248 = .ok (.ireturn, 1) := by decide +kernel
theorem dX10_doOrder_249 : decode cX10_doOrder 249 = .ok (.aload_n 0, 1) := by decide +kernel
theorem dX10_doOrder_250 : decode cX10_doOrder 250 = .ok (.invokevirtual 163, 3) := by decide +kernel
theorem dX10_doOrder_253 : decode cX10_doOrder 253 = .ok (.ireturn, 1) := by decide +kernel
theorem dX10_doOrder_254 : decode cX10_doOrder 254 = .ok (.aload_n 0, 1) := by decide +kernel
theorem dX10_doOrder_255 : decode cX10_doOrder 255 = .ok (.invokevirtual 179, 3) := by decide +kernel
theorem dX10_doOrder_258 : decode cX10_doOrder 258 = .ok (.ireturn, 1) := by decide +kernel
theorem dX10_doText_0 : decode cX10_doText 0 = .ok (.aload_n 0, 1) := by decide +kernel
theorem dX10_doText_1 : decode cX10_doText 1 = .ok (.iconst 0, 1) := by decide +kernel
theorem dX10_doText_2 : decode cX10_doText 2 = .ok (.putfield 205, 3) := by decide +kernel
theorem dX10_doText_5 : decode cX10_doText 5 = .ok (.iconst 0, 1) := by decide +kernel
theorem dX10_doText_6 : decode cX10_doText 6 = .ok (.istore_n 1, 1) := by decide +kernel
theorem dX10_doText_7 : decode cX10_doText 7 = .ok (.iload_n 1, 1) := by decide +kernel
theorem dX10_doText_8 : decode cX10_doText 8 = .ok (.aload_n 0, 1) := by decide +kernel
theorem dX10_doText_9 : decode cX10_doText 9 = .ok (.getfield 190, 3) := by decide +kernel
theorem dX10_doText_12 : decode cX10_doText 12 = .ok (.if_icmp .ge 79, 3) := by decide +kernel
theorem dX10_doText_15 : decode cX10_doText 15 = .ok (.aload_n 0, 1) := by decide +kernel
theorem dX10_doText_16 : decode cX10_doText 16 = .ok (.iload_n 1, 1) := by decide +kernel
theorem dX10_doText_17 : decode cX10_doText 17 = .ok (.invokevirtual 208, 3) := by decide +kernel
theorem dX10_doText_20 : decode cX10_doText 20 = .ok (.istore_n 2, 1) := by decide +kernel
theorem dX10_doText_21 : decode cX10_doText 21 = .ok (.aload_n 0, 1) := by decide +kernel
theorem dX10_doText_22 : decode cX10_doText 22 = .ok (.iload_n 2, 1) := by decide +kernel
theorem dX10_doText_23 : decode cX10_doText 23 = .ok (.ifCond .ge 10, 3) := by decide +kernel
theorem dX10_doText_26 : decode cX10_doText 26 = .ok (.aload_n 0, 1) := by decide +kernel
theorem dX10_doText_27 : decode cX10_doText 27 = .ok (.getfield 202, 3) := by decide +kernel
theorem dX10_doText_30 : decode cX10_doText 30 = .ok (.goto 7, 3) := by decide +kernel
theorem dX10_doText_33 : decode cX10_doText 33 = .ok (.aload_n 0, 1) := by decide +kernel
theorem dX10_doText_34 : decode cX10_doText 34 = .ok (.invokevirtual 211, 3) := by decide +kernel
theorem dX10_doText_37 : decode cX10_doText 37 = .ok (.putfield 214, 3) := by decide +kernel
theorem dX10_doText_40 : decode cX10_doText 40 = .ok (.iload_n 2, 1) := by decide +kernel
theorem dX10_doText_41 : decode cX10_doText 41 = .ok (.ifCond .lt 10, 3) := by decide +kernel
theorem dX10_doText_44 : decode cX10_doText 44 = .ok (.aload_n 0, 1) := by decide +kernel
theorem dX10_doText_45 : decode cX10_doText 45 = .ok (.getfield 214, 3) := by decide +kernel
theorem dX10_doText_48 : decode cX10_doText 48 = .ok (.ifCond .ge 23, 3) := by decide +kernel
theorem dX10_doText_51 : decode cX10_doText 51 = .ok (.aload_n 0, 1) := by decide +kernel
theorem dX10_doText_52 : decode cX10_doText 52 = .ok (.iload_n 1, 1) := by decide +kernel
theorem dX10_doText_53 : decode cX10_doText 53 = .ok (.putfield 217, 3) := by decide +kernel
theorem dX10_doText_56 : decode cX10_doText 56 = .ok (.aload_n 0, 1) := by decide +kernel
theorem dX10_doText_57 : decode cX10_doText 57 = .ok (.iload_n 2, 1) := by decide +kernel
theorem dX10_doText_58 : decode cX10_doText 58 = .ok (.ifCond .ge 7, 3) := by decide +kernel
theorem dX10_doText_61 : decode cX10_doText 61 = .ok (.iconst 1, 1) := by decide +kernel
theorem dX10_doText_62 : decode cX10_doText 62 = .ok (.goto 4, 3) := by decide +kernel
theorem dX10_doText_65 : decode cX10_doText 65 = .ok (.iconst 2, 1) := by decide +kernel
theorem dX10_doText_66 : decode cX10_doText 66 = .ok (.putfield 220, 3) := by decide +kernel
theorem dX10_doText_69 : decode cX10_doText 69 = .ok (.iconst 0, 1) := by decide +kernel
theorem dX10_doText_70 : decode cX10_doText 70 = .ok (.ireturn, 1) := by decide +kernel
theorem dX10_doText_71 : decode cX10_doText 71 = .ok (.aload_n 0, 1) := by decide +kernel
theorem dX10_doText_72 : decode cX10_doText 72 = .ok (.invokevirtual 223, 3) := by decide +kernel
theorem dX10_doText_75 : decode cX10_doText 75 = .ok (.pop, 1) := by decide +kernel
theorem dX10_doText_76 : decode cX10_doText 76 = .ok (.aload_n 0, 1) := by decide +kernel
theorem dX10_doText_77 : decode cX10_doText 77 = .ok (.dup, 1) := by decide +kernel
theorem dX10_doText_78 : decode cX10_doText 78 = .ok (.getfield 205, 3) := by decide +kernel
theorem dX10_doText_81 : decode cX10_doText 81 = .ok (.iconst 1, 1) := by decide +kernel
theorem dX10_doText_82 : decode cX10_doText 82 = .ok (.iadd, 1) := by decide +kernel
theorem dX10_doText_83 : decode cX10_doText 83 = .ok (.putfield 205, 3) := by decide +kernel
theorem dX10_doText_86 : decode cX10_doText 86 = .ok (.iload_n 2, 1) := by decide +kernel
theorem dX10_doText_87 : decode cX10_doText 87 = .ok (.istore_n 1, 1) := by decide +kernel
theorem dX10_doText_88 : decode cX10_doText 88 = .ok (.goto (-81), 3) := by decide +kernel
theorem dX10_doText_91 : decode cX10_doText 91 = .ok (.iconst 1, 1) := by decide +kernel
theorem dX10_doText_92 : decode cX10_doText 92 = .ok (.ireturn, 1) := by decide +kernel
theorem dX10_fault_0 : decode cX10_fault 0 = .ok (.iload_n 1, 1) := by decide +kernel
theorem dX10_fault_1 : decode cX10_fault 1 = .ok (.iconst 0, 1) := by decide +kernel
theorem dX10_fault_2 : decode cX10_fault 2 = .ok (.iconst 2, 1) := by decide +kernel
theorem dX10_fault_3 : decode cX10_fault 3 = .ok (.invokestatic 25, 3) := by decide +kernel
theorem dX10_fault_6 : decode cX10_fault 6 = .ok (.ifCond .ne 6, 3) := by decide +kernel
theorem dX10_fault_9 : decode cX10_fault 9 = .ok (.ldc 64, 2) := by decide +kernel
theorem dX10_fault_11 : decode cX10_fault 11 = .ok (.ireturn, 1) := by decide +kernel
theorem dX10_fault_12 : decode cX10_fault 12 = .ok (.aload_n 0, 1) := by decide +kernel
theorem dX10_fault_13 : decode cX10_fault 13 = .ok (.invokevirtual 226, 3) := by decide +kernel
theorem dX10_fault_16 : decode cX10_fault 16 = .ok (.aload_n 0, 1) := by decide +kernel
theorem dX10_fault_17 : decode cX10_fault 17 = .ok (.invokevirtual 229, 3) := by decide +kernel
theorem dX10_fault_20 : decode cX10_fault 20 = .ok (.istore_n 2, 1) := by decide +kernel
theorem dX10_fault_21 : decode cX10_fault 21 = .ok (.aload_n 0, 1) := by decide +kernel
theorem dX10_fault_22 : decode cX10_fault 22 = .ok (.invokevirtual 232, 3) := by decide +kernel
theorem dX10_fault_25 : decode cX10_fault 25 = .ok (.iload_n 2, 1) := by decide +kernel
theorem dX10_fault_26 : decode cX10_fault 26 = .ok (.ifCond .eq 8, 3) := by decide +kernel
theorem dX10_fault_29 : decode cX10_fault 29 = .ok (.ldc 182, 2) := by decide +kernel
theorem dX10_fault_31 : decode cX10_fault 31 = .ok (.goto 30, 3) := by decide +kernel
theorem dX10_fault_34 : decode cX10_fault 34 = .ok (.iload_n 1, 1) := by decide +kernel
theorem dX10_fault_35 : decode cX10_fault 35 = .ok (.ifCond .ne 10, 3) := by decide +kernel
theorem dX10_fault_38 : decode cX10_fault 38 = .ok (.aload_n 0, 1) := by decide +kernel
theorem dX10_fault_39 : decode cX10_fault 39 = .ok (.getfield 217, 3) := by decide +kernel
theorem dX10_fault_42 : decode cX10_fault 42 = .ok (.goto 19, 3) := by decide +kernel
theorem dX10_fault_45 : decode cX10_fault 45 = .ok (.iload_n 1, 1) := by decide +kernel
theorem dX10_fault_46 : decode cX10_fault 46 = .ok (.iconst 1, 1) := by decide +kernel
theorem dX10_fault_47 : decode cX10_fault 47 = .ok (.if_icmp .ne 10, 3) := by decide +kernel
theorem dX10_fault_50 : decode cX10_fault 50 = .ok (.aload_n 0, 1) := by decide +kernel
theorem dX10_fault_51 : decode cX10_fault 51 = .ok (.getfield 220, 3) := by decide +kernel
theorem dX10_fault_54 : decode cX10_fault 54 = .ok (.goto 7, 3) := by decide +kernel
theorem dX10_fault_57 : decode cX10_fault 57 = .ok (.aload_n 0, 1) := by decide +kernel
theorem dX10_fault_58 : decode cX10_fault 58 = .ok (.getfield 214, 3) := by decide +kernel
theorem dX10_fault_61 : decode cX10_fault 61 = .ok (.ireturn, 1) := by decide +kernel
theorem dX10_play_0 : decode cX10_play 0 = .ok (.aload_n 0, 1) := by decide +kernel
theorem dX10_play_1 : decode cX10_play 1 = .ok (.invokevirtual 226, 3) := by decide +kernel
theorem dX10_play_4 : decode cX10_play 4 = .ok (.aload_n 0, 1) := by decide +kernel
theorem dX10_play_5 : decode cX10_play 5 = .ok (.invokevirtual 229, 3) := by decide +kernel
theorem dX10_play_8 : decode cX10_play 8 = .ok (.ifCond .ne 10, 3) := by decide +kernel
theorem dX10_play_11 : decode cX10_play 11 = .ok (.aload_n 0, 1) := by decide +kernel
theorem dX10_play_12 : decode cX10_play 12 = .ok (.invokevirtual 232, 3) := by decide +kernel
theorem dX10_play_15 : decode cX10_play 15 = .ok (.ldc 37, 2) := by decide +kernel
theorem dX10_play_17 : decode cX10_play 17 = .ok (.ireturn, 1) := by decide +kernel
theorem dX10_play_18 : decode cX10_play 18 = .ok (.aload_n 0, 1) := by decide +kernel
theorem dX10_play_19 : decode cX10_play 19 = .ok (.aload_n 0, 1) := by decide +kernel
theorem dX10_play_20 : decode cX10_play 20 = .ok (.getfield 13, 3) := by decide +kernel
theorem dX10_play_23 : decode cX10_play 23 = .ok (.invokevirtual 76, 3) := by decide +kernel
theorem dX10_play_26 : decode cX10_play 26 = .ok (.aload_n 0, 1) := by decide +kernel
theorem dX10_play_27 : decode cX10_play 27 = .ok (.getfield 205, 3) := by decide +kernel
theorem dX10_play_30 : decode cX10_play 30 = .ok (.ireturn, 1) := by decide +kernel
end
section
theorem dX0_init_0 : decode cX0_init 0 = .ok (.aload_n 0, 1) := by decide +kernel
theorem dX0_init_1 : decode cX0_init 1 = .ok (.invokespecial 3, 3) := by decide +kernel
theorem dX0_init_4 : decode cX0_init 4 = .ok (.aload_n 0, 1) := by decide +kernel
theorem dX0_init_5 : decode cX0_init 5 = .ok (.bipush 16, 2) := by decide +kernel
theorem dX0_init_7 : decode cX0_init 7 = .ok (.anewarray 9, 3) := by decide +kernel
theorem dX0_init_10 : decode cX0_init 10 = .ok (.putfield 11, 3) := by decide +kernel
theorem dX0_init_13 : decode cX0_init 13 = .ok (.iconst 0, 1) := by decide +kernel
theorem dX0_init_14 : decode cX0_init 14 = .ok (.istore_n 1, 1) := by decide +kernel
theorem dX0_init_15 : decode cX0_init 15 = .ok (.iload_n 1, 1) := by decide +kernel
theorem dX0_init_16 : decode cX0_init 16 = .ok (.aload_n 0, 1) := by decide +kernel
theorem dX0_init_17 : decode cX0_init 17 = .ok (.getfield 11, 3) := by decide +kernel
theorem dX0_init_20 : decode cX0_init 20 = .ok (.arraylength, 1) := by decide +kernel
theorem dX0_init_21 : decode cX0_init 21 = .ok (.if_icmp .ge 22, 3) := by decide +kernel
theorem dX0_init_24 : decode cX0_init 24 = .ok (.aload_n 0, 1) := by decide +kernel
theorem dX0_init_25 : decode cX0_init 25 = .ok (.getfield 11, 3) := by decide +kernel
theorem dX0_init_28 : decode cX0_init 28 = .ok (.iload_n 1, 1) := by decide +kernel
theorem dX0_init_29 : decode cX0_init 29 = .ok (.new 9, 3) := by decide +kernel
theorem dX0_init_32 : decode cX0_init 32 = .ok (.dup, 1) := by decide +kernel
theorem dX0_init_33 : decode cX0_init 33 = .ok (.invokespecial 17, 3) := by decide +kernel
theorem dX0_init_36 : decode cX0_init 36 = .ok (.aastore, 1) := by decide +kernel
theorem dX0_init_37 : decode cX0_init 37 = .ok (.iinc 1 1, 3) := by decide +kernel
theorem dX0_init_40 : decode cX0_init 40 = .ok (.goto (-25), 3) := by decide +kernel
theorem dX0_init_43 : decode cX0_init 43 = .ok (.aload_n 0, 1) := by decide +kernel
theorem dX0_init_44 : decode cX0_init 44 = .ok (.bipush 6, 2) := by decide +kernel
theorem dX0_init_46 : decode cX0_init 46 = .ok (.anewarray 18, 3) := by decide +kernel
theorem dX0_init_49 : decode cX0_init 49 = .ok (.putfield 20, 3) := by decide +kernel
theorem dX0_init_52 : decode cX0_init 52 = .ok (.iconst 0, 1) := by decide +kernel
theorem dX0_init_53 : decode cX0_init 53 = .ok (.istore_n 1, 1) := by decide +kernel
theorem dX0_init_54 : decode cX0_init 54 = .ok (.iload_n 1, 1) := by decide +kernel
theorem dX0_init_55 : decode cX0_init 55 = .ok (.aload_n 0, 1) := by decide +kernel
theorem dX0_init_56 : decode cX0_init 56 = .ok (.getfield 20, 3) := by decide +kernel
theorem dX0_init_59 : decode cX0_init 59 = .ok (.arraylength, 1) := by decide +kernel
theorem dX0_init_60 : decode cX0_init 60 = .ok (.if_icmp .ge 22, 3) := by decide +kernel
theorem dX0_init_63 : decode cX0_init 63 = .ok (.aload_n 0, 1) := by decide +kernel
theorem dX0_init_64 : decode cX0_init 64 = .ok (.getfield 20, 3) := by decide +kernel
theorem dX0_init_67 : decode cX0_init 67 = .ok (.iload_n 1, 1) := by decide +kernel
theorem dX0_init_68 : decode cX0_init 68 = .ok (.new 18, 3) := by decide +kernel
theorem dX0_init_71 : decode cX0_init 71 = .ok (.dup, 1) := by decide +kernel
theorem dX0_init_72 : decode cX0_init 72 = .ok (.invokespecial 24, 3) := by decide +kernel
theorem dX0_init_75 : decode cX0_init 75 = .ok (.aastore, 1) := by decide +kernel
theorem dX0_init_76 : decode cX0_init 76 = .ok (.iinc 1 1, 3) := by decide +kernel
theorem dX0_init_79 : decode cX0_init 79 = .ok (.goto (-25), 3) := by decide +kernel
theorem dX0_init_82 : decode cX0_init 82 = .ok (.aload_n 0, 1) := by decide +kernel
theorem dX0_init_83 : decode cX0_init 83 = .ok (.getstatic 25, 3) := by decide +kernel
theorem dX0_init_86 : decode cX0_init 86 = .ok (.arraylength, 1) := by decide +kernel
theorem dX0_init_87 : decode cX0_init 87 = .ok (.newarray .int, 2) := by decide +kernel
theorem dX0_init_89 : decode cX0_init 89 = .ok (.putfield 29, 3) := by decide +kernel
theorem dX0_init_92 : decode cX0_init 92 = .ok (.getstatic 25, 3) := by decide +kernel
theorem dX0_init_95 : decode cX0_init 95 = .ok (.aload_n 0, 1) := by decide +kernel
theorem dX0_init_96 : decode cX0_init 96 = .ok (.getfield 29, 3) := by decide +kernel
theorem dX0_init_99 : decode cX0_init 99 = .ok (.invokestatic 32, 3) := by decide +kernel
theorem dX0_init_102 : decode cX0_init 102 = .ok (.aload_n 0, 1) := by decide +kernel
theorem dX0_init_103 : decode cX0_init 103 = .ok (.new 36, 3) := by decide +kernel
theorem dX0_init_106 : decode cX0_init 106 = .ok (.dup, 1) := by decide +kernel
theorem dX0_init_107 : decode cX0_init 107 = .ok (.invokespecial 38, 3) := by decide +kernel
theorem dX0_init_110 : decode cX0_init 110 = .ok (.putfield 39, 3) := by decide +kernel
theorem dX0_init_113 : decode cX0_init 113 = .ok (.aload_n 0, 1) := by decide +kernel
theorem dX0_init_114 : decode cX0_init 114 = .ok (.new 43, 3) := by decide +kernel
theorem dX0_init_117 : decode cX0_init 117 = .ok (.dup, 1) := by decide +kernel
theorem dX0_init_118 : decode cX0_init 118 = .ok (.invokespecial 45, 3) := by decide +kernel
theorem dX0_init_121 : decode cX0_init 121 = .ok (.putfield 46, 3) := by decide +kernel
theorem dX0_init_124 : decode cX0_init 124 = .ok (.return_, 1) := by decide +kernel
theorem dX0_copyFrom_0 : decode cX0_copyFrom 0 = .ok (.iconst 0, 1) := by decide +kernel
theorem dX0_copyFrom_1 : decode cX0_copyFrom 1 = .ok (.istore_n 2, 1) := by decide +kernel
theorem dX0_copyFrom_2 : decode cX0_copyFrom 2 = .ok (.iload_n 2, 1) := by decide +kernel
theorem dX0_copyFrom_3 : decode cX0_copyFrom 3 = .ok (.aload_n 0, 1) := by decide +kernel
theorem dX0_copyFrom_4 : decode cX0_copyFrom 4 = .ok (.getfield 11, 3) := by decide +kernel
theorem dX0_copyFrom_7 : decode cX0_copyFrom 7 = .ok (.arraylength, 1) := by decide +kernel
theorem dX0_copyFrom_8 : decode cX0_copyFrom 8 = .ok (.if_icmp .ge 33, 3) := by decide +kernel
theorem dX0_copyFrom_11 : decode cX0_copyFrom 11 = .ok (.iload_n 2, 1) := by decide +kernel
theorem dX0_copyFrom_12 : decode cX0_copyFrom 12 = .ok (.aload_n 1, 1) := by decide +kernel
theorem dX0_copyFrom_13 : decode cX0_copyFrom 13 = .ok (.getfield 11, 3) := by decide +kernel
theorem dX0_copyFrom_16 : decode cX0_copyFrom 16 = .ok (.arraylength, 1) := by decide +kernel
theorem dX0_copyFrom_17 : decode cX0_copyFrom 17 = .ok (.if_icmp .ge 24, 3) := by decide +kernel
theorem dX0_copyFrom_20 : decode cX0_copyFrom 20 = .ok (.aload_n 0, 1) := by decide +kernel
theorem dX0_copyFrom_21 : decode cX0_copyFrom 21 = .ok (.getfield 11, 3) := by decide +kernel
theorem dX0_copyFrom_24 : decode cX0_copyFrom 24 = .ok (.iload_n 2, 1) := by decide +kernel
theorem dX0_copyFrom_25 : decode cX0_copyFrom 25 = .ok (.aaload, 1) := by decide +kernel
theorem dX0_copyFrom_26 : decode cX0_copyFrom 26 = .ok (.aload_n 1, 1) := by decide +kernel
theorem dX0_copyFrom_27 : decode cX0_copyFrom 27 = .ok (.getfield 11, 3) := by decide +kernel
theorem dX0_copyFrom_30 : decode cX0_copyFrom 30 = .ok (.iload_n 2, 1) := by decide +kernel
theorem dX0_copyFrom_31 : decode cX0_copyFrom 31 = .ok (.aaload, 1) := by decide +kernel
theorem dX0_copyFrom_32 : decode cX0_copyFrom 32 = .ok (.invokevirtual 50, 3) := by decide +kernel
theorem dX0_copyFrom_35 : decode cX0_copyFrom 35 = .ok (.iinc 2 1, 3) := by decide +kernel
theorem dX0_copyFrom_38 : decode cX0_copyFrom 38 = .ok (.goto (-36), 3) := by decide +kernel
theorem dX0_copyFrom_41 : decode cX0_copyFrom 41 = .ok (.iconst 0, 1) := by decide +kernel
theorem dX0_copyFrom_42 : decode cX0_copyFrom 42 = .ok (.istore_n 2, 1) := by decide +kernel
theorem dX0_copyFrom_43 : decode cX0_copyFrom 43 = .ok (.iload_n 2, 1) := by decide +kernel
theorem dX0_copyFrom_44 : decode cX0_copyFrom 44 = .ok (.aload_n 0, 1) := by decide +kernel
theorem dX0_copyFrom_45 : decode cX0_copyFrom 45 = .ok (.getfield 20, 3) := by decide +kernel
theorem dX0_copyFrom_48 : decode cX0_copyFrom 48 = .ok (.arraylength, 1) := by decide +kernel
theorem dX0_copyFrom_49 : decode cX0_copyFrom 49 = .ok (.if_icmp .ge 33, 3) := by decide +kernel
theorem dX0_copyFrom_52 : decode cX0_copyFrom 52 = .ok (.iload_n 2, 1) := by decide +kernel
theorem dX0_copyFrom_53 : decode cX0_copyFrom 53 = .ok (.aload_n 1, 1) := by decide +kernel
theorem dX0_copyFrom_54 : decode cX0_copyFrom 54 = .ok (.getfield 20, 3) := by decide +kernel
theorem dX0_copyFrom_57 : decode cX0_copyFrom 57 = .ok (.arraylength, 1) := by decide +kernel
theorem dX0_copyFrom_58 : decode cX0_copyFrom 58 = .ok (.if_icmp .ge 24, 3) := by decide +kernel
theorem dX0_copyFrom_61 : decode cX0_copyFrom 61 = .ok (.aload_n 0, 1) := by decide +kernel
theorem dX0_copyFrom_62 : decode cX0_copyFrom 62 = .ok (.getfield 20, 3) := by decide +kernel
theorem dX0_copyFrom_65 : decode cX0_copyFrom 65 = .ok (.iload_n 2, 1) := by decide +kernel
theorem dX0_copyFrom_66 : decode cX0_copyFrom 66 = .ok (.aaload, 1) := by decide +kernel
theorem dX0_copyFrom_67 : decode cX0_copyFrom 67 = .ok (.aload_n 1, 1) := by decide +kernel
theorem dX0_copyFrom_68 : decode cX0_copyFrom 68 = .ok (.getfield 20, 3) := by decide +kernel
theorem dX0_copyFrom_71 : decode cX0_copyFrom 71 = .ok (.iload_n 2, 1) := by decide +kernel
theorem dX0_copyFrom_72 : decode cX0_copyFrom 72 = .ok (.aaload, 1) := by decide +kernel
theorem dX0_copyFrom_73 : decode cX0_copyFrom 73 = .ok (.invokevirtual 54, 3) := by decide +kernel
theorem dX0_copyFrom_76 : decode cX0_copyFrom 76 = .ok (.iinc 2 1, 3) := by decide +kernel
theorem dX0_copyFrom_79 : decode cX0_copyFrom 79 = .ok (.goto (-36), 3) := by decide +kernel
theorem dX0_copyFrom_82 : decode cX0_copyFrom 82 = .ok (.aload_n 1, 1) := by decide +kernel
theorem dX0_copyFrom_83 : decode cX0_copyFrom 83 = .ok (.getfield 29, 3) := by decide +kernel
theorem dX0_copyFrom_86 : decode cX0_copyFrom 86 = .ok (.aload_n 0, 1) := by decide +kernel
theorem dX0_copyFrom_87 : decode cX0_copyFrom 87 = .ok (.getfield 29, 3) := by decide +kernel
theorem dX0_copyFrom_90 : decode cX0_copyFrom 90 = .ok (.invokestatic 32, 3) := by decide +kernel
theorem dX0_copyFrom_93 : decode cX0_copyFrom 93 = .ok (.aload_n 0, 1) := by decide +kernel
theorem dX0_copyFrom_94 : decode cX0_copyFrom 94 = .ok (.getfield 39, 3) := by decide +kernel
theorem dX0_copyFrom_97 : decode cX0_copyFrom 97 = .ok (.aload_n 1, 1) := by decide +kernel
theorem dX0_copyFrom_98 : decode cX0_copyFrom 98 = .ok (.getfield 39, 3) := by decide +kernel
theorem dX0_copyFrom_101 : decode cX0_copyFrom 101 = .ok (.invokevirtual 57, 3) := by decide +kernel
theorem dX0_copyFrom_104 : decode cX0_copyFrom 104 = .ok (.aload_n 0, 1) := by decide +kernel
theorem dX0_copyFrom_105 : decode cX0_copyFrom 105 = .ok (.getfield 46, 3) := by decide +kernel
theorem dX0_copyFrom_108 : decode cX0_copyFrom 108 = .ok (.aload_n 1, 1) := by decide +kernel
theorem dX0_copyFrom_109 : decode cX0_copyFrom 109 = .ok (.getfield 46, 3) := by decide +kernel
theorem dX0_copyFrom_112 : decode cX0_copyFrom 112 = .ok (.invokevirtual 60, 3) := by decide +kernel
theorem dX0_copyFrom_115 : decode cX0_copyFrom 115 = .ok (.aload_n 0, 1) := by decide +kernel
theorem dX0_copyFrom_116 : decode cX0_copyFrom 116 = .ok (.aload_n 1, 1) := by decide +kernel
theorem dX0_copyFrom_117 : decode cX0_copyFrom 117 = .ok (.getfield 63, 3) := by decide +kernel
theorem dX0_copyFrom_120 : decode cX0_copyFrom 120 = .ok (.putfield 63, 3) := by decide +kernel
theorem dX0_copyFrom_123 : decode cX0_copyFrom 123 = .ok (.aload_n 0, 1) := by decide +kernel
theorem dX0_copyFrom_124 : decode cX0_copyFrom 124 = .ok (.aload_n 1, 1) := by decide +kernel
theorem dX0_copyFrom_125 : decode cX0_copyFrom 125 = .ok (.getfield 67, 3) := by decide +kernel
theorem dX0_copyFrom_128 : decode cX0_copyFrom 128 = .ok (.putfield 67, 3) := by decide +kernel
theorem dX0_copyFrom_131 : decode cX0_copyFrom 131 = .ok (.aload_n 0, 1) := by decide +kernel
theorem dX0_copyFrom_132 : decode cX0_copyFrom 132 = .ok (.aload_n 1, 1) := by decide +kernel
theorem dX0_copyFrom_133 : decode cX0_copyFrom 133 = .ok (.getfield 70, 3) := by decide +kernel
theorem dX0_copyFrom_136 : decode cX0_copyFrom 136 = .ok (.putfield 70, 3) := by decide +kernel
theorem dX0_copyFrom_139 : decode cX0_copyFrom 139 = .ok (.aload_n 0, 1) := by decide +kernel
theorem dX0_copyFrom_140 : decode cX0_copyFrom 140 = .ok (.aload_n 1, 1) := by decide +kernel
theorem dX0_copyFrom_141 : decode cX0_copyFrom 141 = .ok (.getfield 73, 3) := by decide +kernel
theorem dX0_copyFrom_144 : decode cX0_copyFrom 144 = .ok (.putfield 73, 3) := by decide +kernel
theorem dX0_copyFrom_147 : decode cX0_copyFrom 147 = .ok (.aload_n 0, 1) := by decide +kernel
theorem dX0_copyFrom_148 : decode cX0_copyFrom 148 = .ok (.aload_n 1, 1) := by decide +kernel
theorem dX0_copyFrom_149 : decode cX0_copyFrom 149 = .ok (.getfield 76, 3) := by decide +kernel
theorem dX0_copyFrom_152 : decode cX0_copyFrom 152 = .ok (.putfield 76, 3) := by decide +kernel
theorem dX0_copyFrom_155 : decode cX0_copyFrom 155 = .ok (.return_, 1) := by decide +kernel
theorem dX0_findSailor_0 : decode cX0_findSailor 0 = .ok (.iload_n 1, 1) := by decide +kernel
theorem dX0_findSailor_1 : decode cX0_findSailor 1 = .ok (.ifCond .lt 29, 3) := by decide +kernel
theorem dX0_findSailor_4 : decode cX0_findSailor 4 = .ok (.iload_n 1, 1) := by decide +kernel
theorem dX0_findSailor_5 : decode cX0_findSailor 5 = .ok (.aload_n 0, 1) := by decide +kernel
theorem dX0_findSailor_6 : decode cX0_findSailor 6 = .ok (.getfield 63, 3) := by decide +kernel
theorem dX0_findSailor_9 : decode cX0_findSailor 9 = .ok (.if_icmp .ge 21, 3) := by decide +kernel
theorem dX0_findSailor_12 : decode cX0_findSailor 12 = .ok (.iload_n 1, 1) := by decide +kernel
theorem dX0_findSailor_13 : decode cX0_findSailor 13 = .ok (.aload_n 0, 1) := by decide +kernel
theorem dX0_findSailor_14 : decode cX0_findSailor 14 = .ok (.getfield 11, 3) := by decide +kernel
theorem dX0_findSailor_17 : decode cX0_findSailor 17 = .ok (.arraylength, 1) := by decide +kernel
theorem dX0_findSailor_18 : decode cX0_findSailor 18 = .ok (.if_icmp .ge 12, 3) := by decide +kernel
theorem dX0_findSailor_21 : decode cX0_findSailor 21 = .ok (.aload_n 0, 1) := by decide +kernel
theorem dX0_findSailor_22 : decode cX0_findSailor 22 = .ok (.getfield 11, 3) := by decide +kernel
theorem dX0_findSailor_25 : decode cX0_findSailor 25 = .ok (.iload_n 1, 1) := by decide +kernel
theorem dX0_findSailor_26 : decode cX0_findSailor 26 = .ok (.aaload, 1) := by decide +kernel
theorem dX0_findSailor_27 : decode cX0_findSailor 27 = .ok (.goto 4, 3) := by decide +kernel
theorem dX0_findSailor_30 : decode cX0_findSailor 30 = .ok (.aconst_null, 1) := by decide +kernel
theorem dX0_findSailor_31 : decode cX0_findSailor 31 = .ok (.areturn, 1) := by decide +kernel
theorem dX0_findItem_0 : decode cX0_findItem 0 = .ok (.iload_n 1, 1) := by decide +kernel
theorem dX0_findItem_1 : decode cX0_findItem 1 = .ok (.ifCond .lt 21, 3) := by decide +kernel
theorem dX0_findItem_4 : decode cX0_findItem 4 = .ok (.iload_n 1, 1) := by decide +kernel
theorem dX0_findItem_5 : decode cX0_findItem 5 = .ok (.aload_n 0, 1) := by decide +kernel
theorem dX0_findItem_6 : decode cX0_findItem 6 = .ok (.getfield 20, 3) := by decide +kernel
theorem dX0_findItem_9 : decode cX0_findItem 9 = .ok (.arraylength, 1) := by decide +kernel
theorem dX0_findItem_10 : decode cX0_findItem 10 = .ok (.if_icmp .ge 12, 3) := by decide +kernel
theorem dX0_findItem_13 : decode cX0_findItem 13 = .ok (.aload_n 0, 1) := by decide +kernel
theorem dX0_findItem_14 : decode cX0_findItem 14 = .ok (.getfield 20, 3) := by decide +kernel
theorem dX0_findItem_17 : decode cX0_findItem 17 = .ok (.iload_n 1, 1) := by decide +kernel
theorem dX0_findItem_18 : decode cX0_findItem 18 = .ok (.aaload, 1) := by decide +kernel
theorem dX0_findItem_19 : decode cX0_findItem 19 = .ok (.goto 4, 3) := by decide +kernel
theorem dX0_findItem_22 : decode cX0_findItem 22 = .ok (.aconst_null, 1) := by decide +kernel
theorem dX0_findItem_23 : decode cX0_findItem 23 = .ok (.areturn, 1) := by decide +kernel
theorem dX0_setting_0 : decode cX0_setting 0 = .ok (.iload_n 1, 1) := by decide +kernel
theorem dX0_setting_1 : decode cX0_setting 1 = .ok (.ifCond .lt 21, 3) := by decide +kernel
theorem dX0_setting_4 : decode cX0_setting 4 = .ok (.iload_n 1, 1) := by decide +kernel
theorem dX0_setting_5 : decode cX0_setting 5 = .ok (.aload_n 0, 1) := by decide +kernel
theorem dX0_setting_6 : decode cX0_setting 6 = .ok (.getfield 29, 3) := by decide +kernel
theorem dX0_setting_9 : decode cX0_setting 9 = .ok (.arraylength, 1) := by decide +kernel
theorem dX0_setting_10 : decode cX0_setting 10 = .ok (.if_icmp .ge 12, 3) := by decide +kernel
theorem dX0_setting_13 : decode cX0_setting 13 = .ok (.aload_n 0, 1) := by decide +kernel
theorem dX0_setting_14 : decode cX0_setting 14 = .ok (.getfield 29, 3) := by decide +kernel
theorem dX0_setting_17 : decode cX0_setting 17 = .ok (.iload_n 1, 1) := by decide +kernel
theorem dX0_setting_18 : decode cX0_setting 18 = .ok (.iaload, 1) := by decide +kernel
theorem dX0_setting_19 : decode cX0_setting 19 = .ok (.goto 4, 3) := by decide +kernel
theorem dX0_setting_22 : decode cX0_setting 22 = .ok (.iconst 0, 1) := by decide +kernel
theorem dX0_setting_23 : decode cX0_setting 23 = .ok (.ireturn, 1) := by decide +kernel
theorem dX0_signOn_0 : decode cX0_signOn 0 = .ok (.iload_n 1, 1) := by decide +kernel
theorem dX0_signOn_1 : decode cX0_signOn 1 = .ok (.iconst 0, 1) := by decide +kernel
theorem dX0_signOn_2 : decode cX0_signOn 2 = .ok (.iconst 3, 1) := by decide +kernel
theorem dX0_signOn_3 : decode cX0_signOn 3 = .ok (.invokestatic 80, 3) := by decide +kernel
theorem dX0_signOn_6 : decode cX0_signOn 6 = .ok (.ifCond .eq 12, 3) := by decide +kernel
theorem dX0_signOn_9 : decode cX0_signOn 9 = .ok (.iload_n 2, 1) := by decide +kernel
theorem dX0_signOn_10 : decode cX0_signOn 10 = .ok (.iconst 0, 1) := by decide +kernel
theorem dX0_signOn_11 : decode cX0_signOn 11 = .ok (.iconst 1, 1) := by decide +kernel
theorem dX0_signOn_12 : decode cX0_signOn 12 = .ok (.invokestatic 80, 3) := by decide +kernel
theorem dX0_signOn_15 : decode cX0_signOn 15 = .ok (.ifCond .ne 6, 3) := by decide +kernel
theorem dX0_signOn_18 : decode cX0_signOn 18 = .ok (.ldc 84, 2) := by decide +kernel
theorem dX0_signOn_20 : decode cX0_signOn 20 = .ok (.ireturn, 1) := by decide +kernel
theorem dX0_signOn_21 : decode cX0_signOn 21 = .ok (.aload_n 0, 1) := by decide +kernel
theorem dX0_signOn_22 : decode cX0_signOn 22 = .ok (.getfield 76, 3) := by decide +kernel
theorem dX0_signOn_25 : decode cX0_signOn 25 = .ok (.ifCond .eq 6, 3) := by decide +kernel
theorem dX0_signOn_28 : decode cX0_signOn 28 = .ok (.ldc 85, 2) := by decide +kernel
theorem dX0_signOn_30 : decode cX0_signOn 30 = .ok (.ireturn, 1) := by decide +kernel
theorem dX0_signOn_31 : decode cX0_signOn 31 = .ok (.aload_n 0, 1) := by decide +kernel
theorem dX0_signOn_32 : decode cX0_signOn 32 = .ok (.getfield 63, 3) := by decide +kernel
theorem dX0_signOn_35 : decode cX0_signOn 35 = .ok (.istore_n 3, 1) := by decide +kernel
theorem dX0_signOn_36 : decode cX0_signOn 36 = .ok (.iload_n 3, 1) := by decide +kernel
theorem dX0_signOn_37 : decode cX0_signOn 37 = .ok (.ifCond .lt 12, 3) := by decide +kernel
theorem dX0_signOn_40 : decode cX0_signOn 40 = .ok (.iload_n 3, 1) := by decide +kernel
theorem dX0_signOn_41 : decode cX0_signOn 41 = .ok (.aload_n 0, 1) := by decide +kernel
theorem dX0_signOn_42 : decode cX0_signOn 42 = .ok (.getfield 11, 3) := by decide +kernel
theorem dX0_signOn_45 : decode cX0_signOn 45 = .ok (.arraylength, 1) := by decide +kernel
theorem dX0_signOn_46 : decode cX0_signOn 46 = .ok (.if_icmp .lt 6, 3) := by decide +kernel
theorem dX0_signOn_49 : decode cX0_signOn 49 = .ok (.ldc 86, 2) := by decide +kernel
theorem dX0_signOn_51 : decode cX0_signOn 51 = .ok (.ireturn, 1) := by decide +kernel
theorem dX0_signOn_52 : decode cX0_signOn 52 = .ok (.aload_n 0, 1) := by decide +kernel
theorem dX0_signOn_53 : decode cX0_signOn 53 = .ok (.getfield 11, 3) := by decide +kernel
theorem dX0_signOn_56 : decode cX0_signOn 56 = .ok (.iload_n 3, 1) := by decide +kernel
theorem dX0_signOn_57 : decode cX0_signOn 57 = .ok (.aaload, 1) := by decide +kernel
theorem dX0_signOn_58 : decode cX0_signOn 58 = .ok (.iload_n 1, 1) := by decide +kernel
theorem dX0_signOn_59 : decode cX0_signOn 59 = .ok (.iload_n 2, 1) := by decide +kernel
theorem dX0_signOn_60 : decode cX0_signOn 60 = .ok (.invokevirtual 87, 3) := by decide +kernel
theorem dX0_signOn_63 : decode cX0_signOn 63 = .ok (.aload_n 0, 1) := by decide +kernel
theorem dX0_signOn_64 : decode cX0_signOn 64 = .ok (.dup, 1) := by decide +kernel
theorem dX0_signOn_65 : decode cX0_signOn 65 = .ok (.getfield 63, 3) := by decide +kernel
theorem dX0_signOn_68 : decode cX0_signOn 68 = .ok (.iconst 1, 1) := by decide +kernel
theorem dX0_signOn_69 : decode cX0_signOn 69 = .ok (.iadd, 1) := by decide +kernel
theorem dX0_signOn_70 : decode cX0_signOn 70 = .ok (.putfield 63, 3) := by decide +kernel
theorem dX0_signOn_73 : decode cX0_signOn 73 = .ok (.iload_n 3, 1) := by decide +kernel
theorem dX0_signOn_74 : decode cX0_signOn 74 = .ok (.ireturn, 1) := by decide +kernel
theorem dX0_buyForChest_0 : decode cX0_buyForChest 0 = .ok (.aload_n 0, 1) := by decide +kernel
theorem dX0_buyForChest_1 : decode cX0_buyForChest 1 = .ok (.iload_n 1, 1) := by decide +kernel
theorem dX0_buyForChest_2 : decode cX0_buyForChest 2 = .ok (.invokevirtual 91, 3) := by decide +kernel
theorem dX0_buyForChest_5 : decode cX0_buyForChest 5 = .ok (.astore 4, 2) := by decide +kernel
theorem dX0_buyForChest_7 : decode cX0_buyForChest 7 = .ok (.aload 4, 2) := by decide +kernel
theorem dX0_buyForChest_9 : decode cX0_buyForChest 9 = .ok (.ifnull 23, 3) := by decide +kernel
theorem dX0_buyForChest_12 : decode cX0_buyForChest 12 = .ok (.iload_n 2, 1) := by decide +kernel
theorem dX0_buyForChest_13 : decode cX0_buyForChest 13 = .ok (.iconst 1, 1) := by decide +kernel
theorem dX0_buyForChest_14 : decode cX0_buyForChest 14 = .ok (.bipush 99, 2) := by decide +kernel
theorem dX0_buyForChest_16 : decode cX0_buyForChest 16 = .ok (.invokestatic 80, 3) := by decide +kernel
theorem dX0_buyForChest_19 : decode cX0_buyForChest 19 = .ok (.ifCond .eq 13, 3) := by decide +kernel
theorem dX0_buyForChest_22 : decode cX0_buyForChest 22 = .ok (.iload_n 3, 1) := by decide +kernel
theorem dX0_buyForChest_23 : decode cX0_buyForChest 23 = .ok (.iconst 1, 1) := by decide +kernel
theorem dX0_buyForChest_24 : decode cX0_buyForChest 24 = .ok (.bipush 99, 2) := by decide +kernel
theorem dX0_buyForChest_26 : decode cX0_buyForChest 26 = .ok (.invokestatic 80, 3) := by decide +kernel
theorem dX0_buyForChest_29 : decode cX0_buyForChest 29 = .ok (.ifCond .ne 6, 3) := by decide +kernel
theorem dX0_buyForChest_32 : decode cX0_buyForChest 32 = .ok (.ldc 84, 2) := by decide +kernel
theorem dX0_buyForChest_34 : decode cX0_buyForChest 34 = .ok (.ireturn, 1) := by decide +kernel
theorem dX0_buyForChest_35 : decode cX0_buyForChest 35 = .ok (.aload_n 0, 1) := by decide +kernel
theorem dX0_buyForChest_36 : decode cX0_buyForChest 36 = .ok (.getfield 76, 3) := by decide +kernel
theorem dX0_buyForChest_39 : decode cX0_buyForChest 39 = .ok (.ifCond .eq 6, 3) := by decide +kernel
theorem dX0_buyForChest_42 : decode cX0_buyForChest 42 = .ok (.ldc 85, 2) := by decide +kernel
theorem dX0_buyForChest_44 : decode cX0_buyForChest 44 = .ok (.ireturn, 1) := by decide +kernel
theorem dX0_buyForChest_45 : decode cX0_buyForChest 45 = .ok (.aload 4, 2) := by decide +kernel
theorem dX0_buyForChest_47 : decode cX0_buyForChest 47 = .ok (.getfield 95, 3) := by decide +kernel
theorem dX0_buyForChest_50 : decode cX0_buyForChest 50 = .ok (.iload_n 2, 1) := by decide +kernel
theorem dX0_buyForChest_51 : decode cX0_buyForChest 51 = .ok (.iadd, 1) := by decide +kernel
theorem dX0_buyForChest_52 : decode cX0_buyForChest 52 = .ok (.sipush 500, 3) := by decide +kernel
theorem dX0_buyForChest_55 : decode cX0_buyForChest 55 = .ok (.if_icmp .le 6, 3) := by decide +kernel
theorem dX0_buyForChest_58 : decode cX0_buyForChest 58 = .ok (.ldc 86, 2) := by decide +kernel
theorem dX0_buyForChest_60 : decode cX0_buyForChest 60 = .ok (.ireturn, 1) := by decide +kernel
theorem dX0_buyForChest_61 : decode cX0_buyForChest 61 = .ok (.aload_n 0, 1) := by decide +kernel
theorem dX0_buyForChest_62 : decode cX0_buyForChest 62 = .ok (.getfield 46, 3) := by decide +kernel
theorem dX0_buyForChest_65 : decode cX0_buyForChest 65 = .ok (.dup, 1) := by decide +kernel
theorem dX0_buyForChest_66 : decode cX0_buyForChest 66 = .ok (.getfield 98, 3) := by decide +kernel
theorem dX0_buyForChest_69 : decode cX0_buyForChest 69 = .ok (.iload_n 2, 1) := by decide +kernel
theorem dX0_buyForChest_70 : decode cX0_buyForChest 70 = .ok (.iload_n 3, 1) := by decide +kernel
theorem dX0_buyForChest_71 : decode cX0_buyForChest 71 = .ok (.imul, 1) := by decide +kernel
theorem dX0_buyForChest_72 : decode cX0_buyForChest 72 = .ok (.iadd, 1) := by decide +kernel
theorem dX0_buyForChest_73 : decode cX0_buyForChest 73 = .ok (.putfield 98, 3) := by decide +kernel
theorem dX0_buyForChest_76 : decode cX0_buyForChest 76 = .ok (.aload_n 0, 1) := by decide +kernel
theorem dX0_buyForChest_77 : decode cX0_buyForChest 77 = .ok (.getfield 46, 3) := by decide +kernel
theorem dX0_buyForChest_80 : decode cX0_buyForChest 80 = .ok (.iload_n 2, 1) := by decide +kernel
theorem dX0_buyForChest_81 : decode cX0_buyForChest 81 = .ok (.iload_n 3, 1) := by decide +kernel
theorem dX0_buyForChest_82 : decode cX0_buyForChest 82 = .ok (.imul, 1) := by decide +kernel
theorem dX0_buyForChest_83 : decode cX0_buyForChest 83 = .ok (.invokevirtual 101, 3) := by decide +kernel
theorem dX0_buyForChest_86 : decode cX0_buyForChest 86 = .ok (.aload 4, 2) := by decide +kernel
theorem dX0_buyForChest_88 : decode cX0_buyForChest 88 = .ok (.iload_n 2, 1) := by decide +kernel
theorem dX0_buyForChest_89 : decode cX0_buyForChest 89 = .ok (.iload_n 3, 1) := by decide +kernel
theorem dX0_buyForChest_90 : decode cX0_buyForChest 90 = .ok (.iload_n 3, 1) := by decide +kernel
theorem dX0_buyForChest_91 : decode cX0_buyForChest 91 = .ok (.aload_n 0, 1) := by decide +kernel
theorem dX0_buyForChest_92 : decode cX0_buyForChest 92 = .ok (.iconst 1, 1) := by decide +kernel
theorem dX0_buyForChest_93 : decode cX0_buyForChest 93 = .ok (.invokevirtual 105, 3) := by decide +kernel
theorem dX0_buyForChest_96 : decode cX0_buyForChest 96 = .ok (.imul, 1) := by decide +kernel
theorem dX0_buyForChest_97 : decode cX0_buyForChest 97 = .ok (.bipush 100, 2) := by decide +kernel
theorem dX0_buyForChest_99 : decode cX0_buyForChest 99 = .ok (.idiv, 1) := by decide +kernel
theorem dX0_buyForChest_100 : decode cX0_buyForChest 100 = .ok (.iadd, 1) := by decide +kernel
theorem dX0_buyForChest_101 : decode cX0_buyForChest 101 = .ok (.invokevirtual 109, 3) := by decide +kernel
theorem dX0_buyForChest_104 : decode cX0_buyForChest 104 = .ok (.aload 4, 2) := by decide +kernel
theorem dX0_buyForChest_106 : decode cX0_buyForChest 106 = .ok (.getfield 112, 3) := by decide +kernel
theorem dX0_buyForChest_109 : decode cX0_buyForChest 109 = .ok (.ireturn, 1) := by decide +kernel
theorem dX0_sellFromChest_0 : decode cX0_sellFromChest 0 = .ok (.aload_n 0, 1) := by decide +kernel
theorem dX0_sellFromChest_1 : decode cX0_sellFromChest 1 = .ok (.iload_n 1, 1) := by decide +kernel
theorem dX0_sellFromChest_2 : decode cX0_sellFromChest 2 = .ok (.invokevirtual 115, 3) := by decide +kernel
theorem dX0_sellFromChest_5 : decode cX0_sellFromChest 5 = .ok (.astore 4, 2) := by decide +kernel
theorem dX0_sellFromChest_7 : decode cX0_sellFromChest 7 = .ok (.aload_n 0, 1) := by decide +kernel
theorem dX0_sellFromChest_8 : decode cX0_sellFromChest 8 = .ok (.iload_n 2, 1) := by decide +kernel
theorem dX0_sellFromChest_9 : decode cX0_sellFromChest 9 = .ok (.invokevirtual 91, 3) := by decide +kernel
theorem dX0_sellFromChest_12 : decode cX0_sellFromChest 12 = .ok (.astore 5, 2) := by decide +kernel
theorem dX0_sellFromChest_14 : decode cX0_sellFromChest 14 = .ok (.aload 4, 2) := by decide +kernel
theorem dX0_sellFromChest_16 : decode cX0_sellFromChest 16 = .ok (.ifnull 18, 3) := by decide +kernel
theorem dX0_sellFromChest_19 : decode cX0_sellFromChest 19 = .ok (.aload 5, 2) := by decide +kernel
theorem dX0_sellFromChest_21 : decode cX0_sellFromChest 21 = .ok (.ifnull 13, 3) := by decide +kernel
theorem dX0_sellFromChest_24 : decode cX0_sellFromChest 24 = .ok (.iload_n 3, 1) := by decide +kernel
theorem dX0_sellFromChest_25 : decode cX0_sellFromChest 25 = .ok (.iconst 1, 1) := by decide +kernel
theorem dX0_sellFromChest_26 : decode cX0_sellFromChest 26 = .ok (.bipush 99, 2) := by decide +kernel
theorem dX0_sellFromChest_28 : decode cX0_sellFromChest 28 = .ok (.invokestatic 80, 3) := by decide +kernel
theorem dX0_sellFromChest_31 : decode cX0_sellFromChest 31 = .ok (.ifCond .ne 6, 3) := by decide +kernel
theorem dX0_sellFromChest_34 : decode cX0_sellFromChest 34 = .ok (.ldc 84, 2) := by decide +kernel
theorem dX0_sellFromChest_36 : decode cX0_sellFromChest 36 = .ok (.ireturn, 1) := by decide +kernel
theorem dX0_sellFromChest_37 : decode cX0_sellFromChest 37 = .ok (.aload_n 0, 1) := by decide +kernel
theorem dX0_sellFromChest_38 : decode cX0_sellFromChest 38 = .ok (.aload 4, 2) := by decide +kernel
theorem dX0_sellFromChest_40 : decode cX0_sellFromChest 40 = .ok (.aload 5, 2) := by decide +kernel
theorem dX0_sellFromChest_42 : decode cX0_sellFromChest 42 = .ok (.iload_n 3, 1) := by decide +kernel
theorem dX0_sellFromChest_43 : decode cX0_sellFromChest 43 = .ok (.invokevirtual 119, 3) := by decide +kernel
theorem dX0_sellFromChest_46 : decode cX0_sellFromChest 46 = .ok (.ifCond .eq 6, 3) := by decide +kernel
theorem dX0_sellFromChest_49 : decode cX0_sellFromChest 49 = .ok (.ldc 85, 2) := by decide +kernel
theorem dX0_sellFromChest_51 : decode cX0_sellFromChest 51 = .ok (.ireturn, 1) := by decide +kernel
theorem dX0_sellFromChest_52 : decode cX0_sellFromChest 52 = .ok (.iload_n 3, 1) := by decide +kernel
theorem dX0_sellFromChest_53 : decode cX0_sellFromChest 53 = .ok (.aload 5, 2) := by decide +kernel
theorem dX0_sellFromChest_55 : decode cX0_sellFromChest 55 = .ok (.getfield 112, 3) := by decide +kernel
theorem dX0_sellFromChest_58 : decode cX0_sellFromChest 58 = .ok (.imul, 1) := by decide +kernel
theorem dX0_sellFromChest_59 : decode cX0_sellFromChest 59 = .ok (.istore 6, 2) := by decide +kernel
theorem dX0_sellFromChest_61 : decode cX0_sellFromChest 61 = .ok (.aload 5, 2) := by decide +kernel
theorem dX0_sellFromChest_63 : decode cX0_sellFromChest 63 = .ok (.iload_n 3, 1) := by decide +kernel
theorem dX0_sellFromChest_64 : decode cX0_sellFromChest 64 = .ok (.iload 6, 2) := by decide +kernel
theorem dX0_sellFromChest_66 : decode cX0_sellFromChest 66 = .ok (.invokevirtual 123, 3) := by decide +kernel
theorem dX0_sellFromChest_69 : decode cX0_sellFromChest 69 = .ok (.aload 4, 2) := by decide +kernel
theorem dX0_sellFromChest_71 : decode cX0_sellFromChest 71 = .ok (.dup, 1) := by decide +kernel
theorem dX0_sellFromChest_72 : decode cX0_sellFromChest 72 = .ok (.getfield 126, 3) := by decide +kernel
theorem dX0_sellFromChest_75 : decode cX0_sellFromChest 75 = .ok (.iload 6, 2) := by decide +kernel
theorem dX0_sellFromChest_77 : decode cX0_sellFromChest 77 = .ok (.iadd, 1) := by decide +kernel
theorem dX0_sellFromChest_78 : decode cX0_sellFromChest 78 = .ok (.putfield 126, 3) := by decide +kernel
theorem dX0_sellFromChest_81 : decode cX0_sellFromChest 81 = .ok (.aload_n 0, 1) := by decide +kernel
theorem dX0_sellFromChest_82 : decode cX0_sellFromChest 82 = .ok (.getfield 46, 3) := by decide +kernel
theorem dX0_sellFromChest_85 : decode cX0_sellFromChest 85 = .ok (.dup, 1) := by decide +kernel
theorem dX0_sellFromChest_86 : decode cX0_sellFromChest 86 = .ok (.getfield 129, 3) := by decide +kernel
theorem dX0_sellFromChest_89 : decode cX0_sellFromChest 89 = .ok (.iload 6, 2) := by decide +kernel
theorem dX0_sellFromChest_91 : decode cX0_sellFromChest 91 = .ok (.iadd, 1) := by decide +kernel
theorem dX0_sellFromChest_92 : decode cX0_sellFromChest 92 = .ok (.putfield 129, 3) := by decide +kernel
theorem dX0_sellFromChest_95 : decode cX0_sellFromChest 95 = .ok (.aload_n 0, 1) := by decide +kernel
theorem dX0_sellFromChest_96 : decode cX0_sellFromChest 96 = .ok (.getfield 39, 3) := by decide +kernel
theorem dX0_sellFromChest_99 : decode cX0_sellFromChest 99 = .ok (.iload_n 1, 1) := by decide +kernel
theorem dX0_sellFromChest_100 : decode cX0_sellFromChest 100 = .ok (.iconst 0, 1) := by decide +kernel
theorem dX0_sellFromChest_101 : decode cX0_sellFromChest 101 = .ok (.iload 6, 2) := by decide +kernel
theorem dX0_sellFromChest_103 : decode cX0_sellFromChest 103 = .ok (.invokevirtual 132, 3) := by decide +kernel
theorem dX0_sellFromChest_106 : decode cX0_sellFromChest 106 = .ok (.iload 6, 2) := by decide +kernel
theorem dX0_sellFromChest_108 : decode cX0_sellFromChest 108 = .ok (.ireturn, 1) := by decide +kernel
theorem dX0_reasonNotToSell_0 : decode cX0_reasonNotToSell 0 = .ok (.aload_n 0, 1) := by decide +kernel
theorem dX0_reasonNotToSell_1 : decode cX0_reasonNotToSell 1 = .ok (.iload_n 1, 1) := by decide +kernel
theorem dX0_reasonNotToSell_2 : decode cX0_reasonNotToSell 2 = .ok (.invokevirtual 115, 3) := by decide +kernel
theorem dX0_reasonNotToSell_5 : decode cX0_reasonNotToSell 5 = .ok (.astore 4, 2) := by decide +kernel
theorem dX0_reasonNotToSell_7 : decode cX0_reasonNotToSell 7 = .ok (.aload_n 0, 1) := by decide +kernel
theorem dX0_reasonNotToSell_8 : decode cX0_reasonNotToSell 8 = .ok (.iload_n 2, 1) := by decide +kernel
theorem dX0_reasonNotToSell_9 : decode cX0_reasonNotToSell 9 = .ok (.invokevirtual 91, 3) := by decide +kernel
theorem dX0_reasonNotToSell_12 : decode cX0_reasonNotToSell 12 = .ok (.astore 5, 2) := by decide +kernel
theorem dX0_reasonNotToSell_14 : decode cX0_reasonNotToSell 14 = .ok (.aload 4, 2) := by decide +kernel
theorem dX0_reasonNotToSell_16 : decode cX0_reasonNotToSell 16 = .ok (.ifnull 18, 3) := by decide +kernel
theorem dX0_reasonNotToSell_19 : decode cX0_reasonNotToSell 19 = .ok (.aload 5, 2) := by decide +kernel
theorem dX0_reasonNotToSell_21 : decode cX0_reasonNotToSell 21 = .ok (.ifnull 13, 3) := by decide +kernel
theorem dX0_reasonNotToSell_24 : decode cX0_reasonNotToSell 24 = .ok (.iload_n 3, 1) := by decide +kernel
theorem dX0_reasonNotToSell_25 : decode cX0_reasonNotToSell 25 = .ok (.iconst 1, 1) := by decide +kernel
theorem dX0_reasonNotToSell_26 : decode cX0_reasonNotToSell 26 = .ok (.bipush 99, 2) := by decide +kernel
theorem dX0_reasonNotToSell_28 : decode cX0_reasonNotToSell 28 = .ok (.invokestatic 80, 3) := by decide +kernel
theorem dX0_reasonNotToSell_31 : decode cX0_reasonNotToSell 31 = .ok (.ifCond .ne 6, 3) := by decide +kernel
theorem dX0_reasonNotToSell_34 : decode cX0_reasonNotToSell 34 = .ok (.ldc 84, 2) := by decide +kernel
theorem dX0_reasonNotToSell_36 : decode cX0_reasonNotToSell 36 = .ok (.ireturn, 1) := by decide +kernel
theorem dX0_reasonNotToSell_37 : decode cX0_reasonNotToSell 37 = .ok (.aload_n 0, 1) := by decide +kernel
theorem dX0_reasonNotToSell_38 : decode cX0_reasonNotToSell 38 = .ok (.aload 4, 2) := by decide +kernel
theorem dX0_reasonNotToSell_40 : decode cX0_reasonNotToSell 40 = .ok (.aload 5, 2) := by decide +kernel
theorem dX0_reasonNotToSell_42 : decode cX0_reasonNotToSell 42 = .ok (.iload_n 3, 1) := by decide +kernel
theorem dX0_reasonNotToSell_43 : decode cX0_reasonNotToSell 43 = .ok (.invokevirtual 119, 3) := by decide +kernel
theorem dX0_reasonNotToSell_46 : decode cX0_reasonNotToSell 46 = .ok (.ireturn, 1) := by decide +kernel
theorem dX0_reasonAgainst_0 : decode cX0_reasonAgainst 0 = .ok (.aload_n 1, 1) := by decide +kernel
theorem dX0_reasonAgainst_1 : decode cX0_reasonAgainst 1 = .ok (.getfield 136, 3) := by decide +kernel
theorem dX0_reasonAgainst_4 : decode cX0_reasonAgainst 4 = .ok (.ifCond .eq 5, 3) := by decide +kernel
theorem dX0_reasonAgainst_7 : decode cX0_reasonAgainst 7 = .ok (.iconst 1, 1) := by decide +kernel
theorem dX0_reasonAgainst_8 : decode cX0_reasonAgainst 8 = .ok (.ireturn, 1) := by decide +kernel
theorem dX0_reasonAgainst_9 : decode cX0_reasonAgainst 9 = .ok (.aload_n 2, 1) := by decide +kernel
theorem dX0_reasonAgainst_10 : decode cX0_reasonAgainst 10 = .ok (.getfield 95, 3) := by decide +kernel
theorem dX0_reasonAgainst_13 : decode cX0_reasonAgainst 13 = .ok (.iload_n 3, 1) := by decide +kernel
theorem dX0_reasonAgainst_14 : decode cX0_reasonAgainst 14 = .ok (.if_icmp .ge 5, 3) := by decide +kernel
theorem dX0_reasonAgainst_17 : decode cX0_reasonAgainst 17 = .ok (.iconst 2, 1) := by decide +kernel
theorem dX0_reasonAgainst_18 : decode cX0_reasonAgainst 18 = .ok (.ireturn, 1) := by decide +kernel
theorem dX0_reasonAgainst_19 : decode cX0_reasonAgainst 19 = .ok (.aload_n 1, 1) := by decide +kernel
theorem dX0_reasonAgainst_20 : decode cX0_reasonAgainst 20 = .ok (.invokevirtual 139, 3) := by decide +kernel
theorem dX0_reasonAgainst_23 : decode cX0_reasonAgainst 23 = .ok (.iload_n 3, 1) := by decide +kernel
theorem dX0_reasonAgainst_24 : decode cX0_reasonAgainst 24 = .ok (.aload_n 2, 1) := by decide +kernel
theorem dX0_reasonAgainst_25 : decode cX0_reasonAgainst 25 = .ok (.getfield 112, 3) := by decide +kernel
theorem dX0_reasonAgainst_28 : decode cX0_reasonAgainst 28 = .ok (.imul, 1) := by decide +kernel
theorem dX0_reasonAgainst_29 : decode cX0_reasonAgainst 29 = .ok (.isub, 1) := by decide +kernel
theorem dX0_reasonAgainst_30 : decode cX0_reasonAgainst 30 = .ok (.aload_n 0, 1) := by decide +kernel
theorem dX0_reasonAgainst_31 : decode cX0_reasonAgainst 31 = .ok (.iconst 0, 1) := by decide +kernel
theorem dX0_reasonAgainst_32 : decode cX0_reasonAgainst 32 = .ok (.invokevirtual 105, 3) := by decide +kernel
theorem dX0_reasonAgainst_35 : decode cX0_reasonAgainst 35 = .ok (.ineg, 1) := by decide +kernel
theorem dX0_reasonAgainst_36 : decode cX0_reasonAgainst 36 = .ok (.if_icmp .ge 7, 3) := by decide +kernel
theorem dX0_reasonAgainst_39 : decode cX0_reasonAgainst 39 = .ok (.iconst 3, 1) := by decide +kernel
theorem dX0_reasonAgainst_40 : decode cX0_reasonAgainst 40 = .ok (.goto 4, 3) := by decide +kernel
theorem dX0_reasonAgainst_43 : decode cX0_reasonAgainst 43 = .ok (.iconst 0, 1) := by decide +kernel
theorem dX0_reasonAgainst_44 : decode cX0_reasonAgainst 44 = .ok (.ireturn, 1) := by decide +kernel
theorem dX0_couldBuy_0 : decode cX0_couldBuy 0 = .ok (.aload_n 0, 1) := by decide +kernel
theorem dX0_couldBuy_1 : decode cX0_couldBuy 1 = .ok (.iload_n 1, 1) := by decide +kernel
theorem dX0_couldBuy_2 : decode cX0_couldBuy 2 = .ok (.invokevirtual 115, 3) := by decide +kernel
theorem dX0_couldBuy_5 : decode cX0_couldBuy 5 = .ok (.astore_n 3, 1) := by decide +kernel
theorem dX0_couldBuy_6 : decode cX0_couldBuy 6 = .ok (.aload_n 0, 1) := by decide +kernel
theorem dX0_couldBuy_7 : decode cX0_couldBuy 7 = .ok (.iload_n 2, 1) := by decide +kernel
theorem dX0_couldBuy_8 : decode cX0_couldBuy 8 = .ok (.invokevirtual 91, 3) := by decide +kernel
theorem dX0_couldBuy_11 : decode cX0_couldBuy 11 = .ok (.astore 4, 2) := by decide +kernel
theorem dX0_couldBuy_13 : decode cX0_couldBuy 13 = .ok (.aload_n 3, 1) := by decide +kernel
theorem dX0_couldBuy_14 : decode cX0_couldBuy 14 = .ok (.ifnull 8, 3) := by decide +kernel
theorem dX0_couldBuy_17 : decode cX0_couldBuy 17 = .ok (.aload 4, 2) := by decide +kernel
theorem dX0_couldBuy_19 : decode cX0_couldBuy 19 = .ok (.ifnonnull 6, 3) := by decide +kernel
theorem dX0_couldBuy_22 : decode cX0_couldBuy 22 = .ok (.ldc 84, 2) := by decide +kernel
theorem dX0_couldBuy_24 : decode cX0_couldBuy 24 = .ok (.ireturn, 1) := by decide +kernel
theorem dX0_couldBuy_25 : decode cX0_couldBuy 25 = .ok (.aload_n 3, 1) := by decide +kernel
theorem dX0_couldBuy_26 : decode cX0_couldBuy 26 = .ok (.invokevirtual 139, 3) := by decide +kernel
theorem dX0_couldBuy_29 : decode cX0_couldBuy 29 = .ok (.aload_n 0, 1) := by decide +kernel
theorem dX0_couldBuy_30 : decode cX0_couldBuy 30 = .ok (.iconst 0, 1) := by decide +kernel
theorem dX0_couldBuy_31 : decode cX0_couldBuy 31 = .ok (.invokevirtual 105, 3) := by decide +kernel
theorem dX0_couldBuy_34 : decode cX0_couldBuy 34 = .ok (.iadd, 1) := by decide +kernel
theorem dX0_couldBuy_35 : decode cX0_couldBuy 35 = .ok (.istore 5, 2) := by decide +kernel
theorem dX0_couldBuy_37 : decode cX0_couldBuy 37 = .ok (.aload_n 3, 1) := by decide +kernel
theorem dX0_couldBuy_38 : decode cX0_couldBuy 38 = .ok (.getfield 136, 3) := by decide +kernel
theorem dX0_couldBuy_41 : decode cX0_couldBuy 41 = .ok (.ifCond .ne 16, 3) := by decide +kernel
theorem dX0_couldBuy_44 : decode cX0_couldBuy 44 = .ok (.aload 4, 2) := by decide +kernel
theorem dX0_couldBuy_46 : decode cX0_couldBuy 46 = .ok (.getfield 112, 3) := by decide +kernel
theorem dX0_couldBuy_49 : decode cX0_couldBuy 49 = .ok (.ifCond .le 8, 3) := by decide +kernel
theorem dX0_couldBuy_52 : decode cX0_couldBuy 52 = .ok (.iload 5, 2) := by decide +kernel
theorem dX0_couldBuy_54 : decode cX0_couldBuy 54 = .ok (.ifCond .ge 5, 3) := by decide +kernel
theorem dX0_couldBuy_57 : decode cX0_couldBuy 57 = .ok (.iconst 0, 1) := by decide +kernel
theorem dX0_couldBuy_58 : decode cX0_couldBuy 58 = .ok (.ireturn, 1) := by decide +kernel
theorem dX0_couldBuy_59 : decode cX0_couldBuy 59 = .ok (.iload 5, 2) := by decide +kernel
theorem dX0_couldBuy_61 : decode cX0_couldBuy 61 = .ok (.aload 4, 2) := by decide +kernel
theorem dX0_couldBuy_63 : decode cX0_couldBuy 63 = .ok (.getfield 112, 3) := by decide +kernel
theorem dX0_couldBuy_66 : decode cX0_couldBuy 66 = .ok (.idiv, 1) := by decide +kernel
theorem dX0_couldBuy_67 : decode cX0_couldBuy 67 = .ok (.aload 4, 2) := by decide +kernel
theorem dX0_couldBuy_69 : decode cX0_couldBuy 69 = .ok (.getfield 95, 3) := by decide +kernel
theorem dX0_couldBuy_72 : decode cX0_couldBuy 72 = .ok (.invokestatic 143, 3) := by decide +kernel
theorem dX0_couldBuy_75 : decode cX0_couldBuy 75 = .ok (.bipush 99, 2) := by decide +kernel
theorem dX0_couldBuy_77 : decode cX0_couldBuy 77 = .ok (.invokestatic 143, 3) := by decide +kernel
theorem dX0_couldBuy_80 : decode cX0_couldBuy 80 = .ok (.ireturn, 1) := by decide +kernel
theorem dX0_advanceTo_0 : decode cX0_advanceTo 0 = .ok (.aload_n 0, 1) := by decide +kernel
theorem dX0_advanceTo_1 : decode cX0_advanceTo 1 = .ok (.iload_n 1, 1) := by decide +kernel
theorem dX0_advanceTo_2 : decode cX0_advanceTo 2 = .ok (.invokevirtual 115, 3) := by decide +kernel
theorem dX0_advanceTo_5 : decode cX0_advanceTo 5 = .ok (.astore_n 3, 1) := by decide +kernel
theorem dX0_advanceTo_6 : decode cX0_advanceTo 6 = .ok (.aload_n 3, 1) := by decide +kernel
theorem dX0_advanceTo_7 : decode cX0_advanceTo 7 = .ok (.ifnull 14, 3) := by decide +kernel
theorem dX0_advanceTo_10 : decode cX0_advanceTo 10 = .ok (.iload_n 2, 1) := by decide +kernel
theorem dX0_advanceTo_11 : decode cX0_advanceTo 11 = .ok (.iconst 1, 1) := by decide +kernel
theorem dX0_advanceTo_12 : decode cX0_advanceTo 12 = .ok (.sipush 999, 3) := by decide +kernel
theorem dX0_advanceTo_15 : decode cX0_advanceTo 15 = .ok (.invokestatic 80, 3) := by decide +kernel
theorem dX0_advanceTo_18 : decode cX0_advanceTo 18 = .ok (.ifCond .ne 6, 3) := by decide +kernel
theorem dX0_advanceTo_21 : decode cX0_advanceTo 21 = .ok (.ldc 84, 2) := by decide +kernel
theorem dX0_advanceTo_23 : decode cX0_advanceTo 23 = .ok (.ireturn, 1) := by decide +kernel
theorem dX0_advanceTo_24 : decode cX0_advanceTo 24 = .ok (.aload_n 0, 1) := by decide +kernel
theorem dX0_advanceTo_25 : decode cX0_advanceTo 25 = .ok (.getfield 76, 3) := by decide +kernel
theorem dX0_advanceTo_28 : decode cX0_advanceTo 28 = .ok (.ifCond .ne 18, 3) := by decide +kernel
theorem dX0_advanceTo_31 : decode cX0_advanceTo 31 = .ok (.aload_n 3, 1) := by decide +kernel
theorem dX0_advanceTo_32 : decode cX0_advanceTo 32 = .ok (.invokevirtual 149, 3) := by decide +kernel
theorem dX0_advanceTo_35 : decode cX0_advanceTo 35 = .ok (.ifCond .ne 11, 3) := by decide +kernel
theorem dX0_advanceTo_38 : decode cX0_advanceTo 38 = .ok (.aload_n 3, 1) := by decide +kernel
theorem dX0_advanceTo_39 : decode cX0_advanceTo 39 = .ok (.invokevirtual 139, 3) := by decide +kernel
theorem dX0_advanceTo_42 : decode cX0_advanceTo 42 = .ok (.iload_n 2, 1) := by decide +kernel
theorem dX0_advanceTo_43 : decode cX0_advanceTo 43 = .ok (.if_icmp .ge 6, 3) := by decide +kernel
theorem dX0_advanceTo_46 : decode cX0_advanceTo 46 = .ok (.ldc 85, 2) := by decide +kernel
theorem dX0_advanceTo_48 : decode cX0_advanceTo 48 = .ok (.ireturn, 1) := by decide +kernel
theorem dX0_advanceTo_49 : decode cX0_advanceTo 49 = .ok (.aload_n 3, 1) := by decide +kernel
theorem dX0_advanceTo_50 : decode cX0_advanceTo 50 = .ok (.dup, 1) := by decide +kernel
theorem dX0_advanceTo_51 : decode cX0_advanceTo 51 = .ok (.getfield 153, 3) := by decide +kernel
theorem dX0_advanceTo_54 : decode cX0_advanceTo 54 = .ok (.iload_n 2, 1) := by decide +kernel
theorem dX0_advanceTo_55 : decode cX0_advanceTo 55 = .ok (.iadd, 1) := by decide +kernel
theorem dX0_advanceTo_56 : decode cX0_advanceTo 56 = .ok (.putfield 153, 3) := by decide +kernel
theorem dX0_advanceTo_59 : decode cX0_advanceTo 59 = .ok (.aload_n 0, 1) := by decide +kernel
theorem dX0_advanceTo_60 : decode cX0_advanceTo 60 = .ok (.getfield 46, 3) := by decide +kernel
theorem dX0_advanceTo_63 : decode cX0_advanceTo 63 = .ok (.dup, 1) := by decide +kernel
theorem dX0_advanceTo_64 : decode cX0_advanceTo 64 = .ok (.getfield 156, 3) := by decide +kernel
theorem dX0_advanceTo_67 : decode cX0_advanceTo 67 = .ok (.iload_n 2, 1) := by decide +kernel
theorem dX0_advanceTo_68 : decode cX0_advanceTo 68 = .ok (.iadd, 1) := by decide +kernel
theorem dX0_advanceTo_69 : decode cX0_advanceTo 69 = .ok (.putfield 156, 3) := by decide +kernel
theorem dX0_advanceTo_72 : decode cX0_advanceTo 72 = .ok (.aload_n 0, 1) := by decide +kernel
theorem dX0_advanceTo_73 : decode cX0_advanceTo 73 = .ok (.getfield 46, 3) := by decide +kernel
theorem dX0_advanceTo_76 : decode cX0_advanceTo 76 = .ok (.iload_n 2, 1) := by decide +kernel
theorem dX0_advanceTo_77 : decode cX0_advanceTo 77 = .ok (.invokevirtual 101, 3) := by decide +kernel
theorem dX0_advanceTo_80 : decode cX0_advanceTo 80 = .ok (.aload_n 0, 1) := by decide +kernel
theorem dX0_advanceTo_81 : decode cX0_advanceTo 81 = .ok (.getfield 39, 3) := by decide +kernel
theorem dX0_advanceTo_84 : decode cX0_advanceTo 84 = .ok (.iload_n 1, 1) := by decide +kernel
theorem dX0_advanceTo_85 : decode cX0_advanceTo 85 = .ok (.iconst 2, 1) := by decide +kernel
theorem dX0_advanceTo_86 : decode cX0_advanceTo 86 = .ok (.iload_n 2, 1) := by decide +kernel
theorem dX0_advanceTo_87 : decode cX0_advanceTo 87 = .ok (.invokevirtual 132, 3) := by decide +kernel
theorem dX0_advanceTo_90 : decode cX0_advanceTo 90 = .ok (.aload_n 0, 1) := by decide +kernel
theorem dX0_advanceTo_91 : decode cX0_advanceTo 91 = .ok (.getfield 46, 3) := by decide +kernel
theorem dX0_advanceTo_94 : decode cX0_advanceTo 94 = .ok (.getfield 159, 3) := by decide +kernel
theorem dX0_advanceTo_97 : decode cX0_advanceTo 97 = .ok (.ireturn, 1) := by decide +kernel
theorem dX0_fineOne_0 : decode cX0_fineOne 0 = .ok (.aload_n 0, 1) := by decide +kernel
theorem dX0_fineOne_1 : decode cX0_fineOne 1 = .ok (.iload_n 1, 1) := by decide +kernel
theorem dX0_fineOne_2 : decode cX0_fineOne 2 = .ok (.invokevirtual 115, 3) := by decide +kernel
theorem dX0_fineOne_5 : decode cX0_fineOne 5 = .ok (.astore_n 3, 1) := by decide +kernel
theorem dX0_fineOne_6 : decode cX0_fineOne 6 = .ok (.aload_n 3, 1) := by decide +kernel
theorem dX0_fineOne_7 : decode cX0_fineOne 7 = .ok (.ifnull 14, 3) := by decide +kernel
theorem dX0_fineOne_10 : decode cX0_fineOne 10 = .ok (.iload_n 2, 1) := by decide +kernel
theorem dX0_fineOne_11 : decode cX0_fineOne 11 = .ok (.iconst 1, 1) := by decide +kernel
theorem dX0_fineOne_12 : decode cX0_fineOne 12 = .ok (.sipush 999, 3) := by decide +kernel
theorem dX0_fineOne_15 : decode cX0_fineOne 15 = .ok (.invokestatic 80, 3) := by decide +kernel
theorem dX0_fineOne_18 : decode cX0_fineOne 18 = .ok (.ifCond .ne 6, 3) := by decide +kernel
theorem dX0_fineOne_21 : decode cX0_fineOne 21 = .ok (.ldc 84, 2) := by decide +kernel
theorem dX0_fineOne_23 : decode cX0_fineOne 23 = .ok (.ireturn, 1) := by decide +kernel
theorem dX0_fineOne_24 : decode cX0_fineOne 24 = .ok (.aload_n 3, 1) := by decide +kernel
theorem dX0_fineOne_25 : decode cX0_fineOne 25 = .ok (.invokevirtual 149, 3) := by decide +kernel
theorem dX0_fineOne_28 : decode cX0_fineOne 28 = .ok (.ifCond .ne 11, 3) := by decide +kernel
theorem dX0_fineOne_31 : decode cX0_fineOne 31 = .ok (.aload_n 3, 1) := by decide +kernel
theorem dX0_fineOne_32 : decode cX0_fineOne 32 = .ok (.iload_n 2, 1) := by decide +kernel
theorem dX0_fineOne_33 : decode cX0_fineOne 33 = .ok (.invokevirtual 162, 3) := by decide +kernel
theorem dX0_fineOne_36 : decode cX0_fineOne 36 = .ok (.ifCond .ne 6, 3) := by decide +kernel
theorem dX0_fineOne_39 : decode cX0_fineOne 39 = .ok (.ldc 85, 2) := by decide +kernel
theorem dX0_fineOne_41 : decode cX0_fineOne 41 = .ok (.ireturn, 1) := by decide +kernel
theorem dX0_fineOne_42 : decode cX0_fineOne 42 = .ok (.aload_n 0, 1) := by decide +kernel
theorem dX0_fineOne_43 : decode cX0_fineOne 43 = .ok (.iload_n 1, 1) := by decide +kernel
theorem dX0_fineOne_44 : decode cX0_fineOne 44 = .ok (.aload_n 3, 1) := by decide +kernel
theorem dX0_fineOne_45 : decode cX0_fineOne 45 = .ok (.iload_n 2, 1) := by decide +kernel
theorem dX0_fineOne_46 : decode cX0_fineOne 46 = .ok (.invokevirtual 166, 3) := by decide +kernel
theorem dX0_fineOne_49 : decode cX0_fineOne 49 = .ok (.sipush 5000, 3) := by decide +kernel
theorem dX0_fineOne_52 : decode cX0_fineOne 52 = .ok (.aload_n 3, 1) := by decide +kernel
theorem dX0_fineOne_53 : decode cX0_fineOne 53 = .ok (.invokevirtual 139, 3) := by decide +kernel
theorem dX0_fineOne_56 : decode cX0_fineOne 56 = .ok (.iadd, 1) := by decide +kernel
theorem dX0_fineOne_57 : decode cX0_fineOne 57 = .ok (.ireturn, 1) := by decide +kernel
theorem dX0_chargeFine_0 : decode cX0_chargeFine 0 = .ok (.aload_n 2, 1) := by decide +kernel
theorem dX0_chargeFine_1 : decode cX0_chargeFine 1 = .ok (.dup, 1) := by decide +kernel
theorem dX0_chargeFine_2 : decode cX0_chargeFine 2 = .ok (.getfield 170, 3) := by decide +kernel
theorem dX0_chargeFine_5 : decode cX0_chargeFine 5 = .ok (.iload_n 3, 1) := by decide +kernel
theorem dX0_chargeFine_6 : decode cX0_chargeFine 6 = .ok (.iadd, 1) := by decide +kernel
theorem dX0_chargeFine_7 : decode cX0_chargeFine 7 = .ok (.putfield 170, 3) := by decide +kernel
theorem dX0_chargeFine_10 : decode cX0_chargeFine 10 = .ok (.aload_n 0, 1) := by decide +kernel
theorem dX0_chargeFine_11 : decode cX0_chargeFine 11 = .ok (.getfield 46, 3) := by decide +kernel
theorem dX0_chargeFine_14 : decode cX0_chargeFine 14 = .ok (.dup, 1) := by decide +kernel
theorem dX0_chargeFine_15 : decode cX0_chargeFine 15 = .ok (.getfield 173, 3) := by decide +kernel
theorem dX0_chargeFine_18 : decode cX0_chargeFine 18 = .ok (.iload_n 3, 1) := by decide +kernel
theorem dX0_chargeFine_19 : decode cX0_chargeFine 19 = .ok (.iadd, 1) := by decide +kernel
theorem dX0_chargeFine_20 : decode cX0_chargeFine 20 = .ok (.putfield 173, 3) := by decide +kernel
theorem dX0_chargeFine_23 : decode cX0_chargeFine 23 = .ok (.aload_n 0, 1) := by decide +kernel
theorem dX0_chargeFine_24 : decode cX0_chargeFine 24 = .ok (.getfield 39, 3) := by decide +kernel
theorem dX0_chargeFine_27 : decode cX0_chargeFine 27 = .ok (.iload_n 1, 1) := by decide +kernel
theorem dX0_chargeFine_28 : decode cX0_chargeFine 28 = .ok (.iconst 1, 1) := by decide +kernel
theorem dX0_chargeFine_29 : decode cX0_chargeFine 29 = .ok (.iload_n 3, 1) := by decide +kernel
theorem dX0_chargeFine_30 : decode cX0_chargeFine 30 = .ok (.invokevirtual 132, 3) := by decide +kernel
theorem dX0_chargeFine_33 : decode cX0_chargeFine 33 = .ok (.return_, 1) := by decide +kernel
theorem dX0_fineAll_0 : decode cX0_fineAll 0 = .ok (.iload_n 1, 1) := by decide +kernel
theorem dX0_fineAll_1 : decode cX0_fineAll 1 = .ok (.iconst 0, 1) := by decide +kernel
theorem dX0_fineAll_2 : decode cX0_fineAll 2 = .ok (.iconst 1, 1) := by decide +kernel
theorem dX0_fineAll_3 : decode cX0_fineAll 3 = .ok (.invokestatic 80, 3) := by decide +kernel
theorem dX0_fineAll_6 : decode cX0_fineAll 6 = .ok (.ifCond .eq 14, 3) := by decide +kernel
theorem dX0_fineAll_9 : decode cX0_fineAll 9 = .ok (.iload_n 2, 1) := by decide +kernel
theorem dX0_fineAll_10 : decode cX0_fineAll 10 = .ok (.iconst 1, 1) := by decide +kernel
theorem dX0_fineAll_11 : decode cX0_fineAll 11 = .ok (.sipush 999, 3) := by decide +kernel
theorem dX0_fineAll_14 : decode cX0_fineAll 14 = .ok (.invokestatic 80, 3) := by decide +kernel
theorem dX0_fineAll_17 : decode cX0_fineAll 17 = .ok (.ifCond .ne 6, 3) := by decide +kernel
theorem dX0_fineAll_20 : decode cX0_fineAll 20 = .ok (.ldc 84, 2) := by decide +kernel
theorem dX0_fineAll_22 : decode cX0_fineAll 22 = .ok (.ireturn, 1) := by decide +kernel
theorem dX0_fineAll_23 : decode cX0_fineAll 23 = .ok (.aload_n 0, 1) := by decide +kernel
theorem dX0_fineAll_24 : decode cX0_fineAll 24 = .ok (.iload_n 1, 1) := by decide +kernel
theorem dX0_fineAll_25 : decode cX0_fineAll 25 = .ok (.invokevirtual 174, 3) := by decide +kernel
theorem dX0_fineAll_28 : decode cX0_fineAll 28 = .ok (.istore_n 3, 1) := by decide +kernel
theorem dX0_fineAll_29 : decode cX0_fineAll 29 = .ok (.iload_n 3, 1) := by decide +kernel
theorem dX0_fineAll_30 : decode cX0_fineAll 30 = .ok (.ifCond .gt 6, 3) := by decide +kernel
theorem dX0_fineAll_33 : decode cX0_fineAll 33 = .ok (.ldc 85, 2) := by decide +kernel
theorem dX0_fineAll_35 : decode cX0_fineAll 35 = .ok (.ireturn, 1) := by decide +kernel
theorem dX0_fineAll_36 : decode cX0_fineAll 36 = .ok (.iload_n 2, 1) := by decide +kernel
theorem dX0_fineAll_37 : decode cX0_fineAll 37 = .ok (.iload_n 3, 1) := by decide +kernel
theorem dX0_fineAll_38 : decode cX0_fineAll 38 = .ok (.idiv, 1) := by decide +kernel
theorem dX0_fineAll_39 : decode cX0_fineAll 39 = .ok (.istore 4, 2) := by decide +kernel
theorem dX0_fineAll_41 : decode cX0_fineAll 41 = .ok (.iload_n 2, 1) := by decide +kernel
theorem dX0_fineAll_42 : decode cX0_fineAll 42 = .ok (.iload_n 3, 1) := by decide +kernel
theorem dX0_fineAll_43 : decode cX0_fineAll 43 = .ok (.irem, 1) := by decide +kernel
theorem dX0_fineAll_44 : decode cX0_fineAll 44 = .ok (.istore 5, 2) := by decide +kernel
theorem dX0_fineAll_46 : decode cX0_fineAll 46 = .ok (.aload_n 0, 1) := by decide +kernel
theorem dX0_fineAll_47 : decode cX0_fineAll 47 = .ok (.iload_n 1, 1) := by decide +kernel
theorem dX0_fineAll_48 : decode cX0_fineAll 48 = .ok (.iload 4, 2) := by decide +kernel
theorem dX0_fineAll_50 : decode cX0_fineAll 50 = .ok (.iload 5, 2) := by decide +kernel
theorem dX0_fineAll_52 : decode cX0_fineAll 52 = .ok (.invokevirtual 177, 3) := by decide +kernel
theorem dX0_fineAll_55 : decode cX0_fineAll 55 = .ok (.ifCond .ne 6, 3) := by decide +kernel
theorem dX0_fineAll_58 : decode cX0_fineAll 58 = .ok (.ldc 85, 2) := by decide +kernel
theorem dX0_fineAll_60 : decode cX0_fineAll 60 = .ok (.ireturn, 1) := by decide +kernel
theorem dX0_fineAll_61 : decode cX0_fineAll 61 = .ok (.iconst 0, 1) := by decide +kernel
theorem dX0_fineAll_62 : decode cX0_fineAll 62 = .ok (.istore 6, 2) := by decide +kernel
theorem dX0_fineAll_64 : decode cX0_fineAll 64 = .ok (.iload 6, 2) := by decide +kernel
theorem dX0_fineAll_66 : decode cX0_fineAll 66 = .ok (.aload_n 0, 1) := by decide +kernel
theorem dX0_fineAll_67 : decode cX0_fineAll 67 = .ok (.getfield 63, 3) := by decide +kernel
theorem dX0_fineAll_70 : decode cX0_fineAll 70 = .ok (.if_icmp .ge 63, 3) := by decide +kernel
theorem dX0_fineAll_73 : decode cX0_fineAll 73 = .ok (.iload 6, 2) := by decide +kernel
theorem dX0_fineAll_75 : decode cX0_fineAll 75 = .ok (.aload_n 0, 1) := by decide +kernel
theorem dX0_fineAll_76 : decode cX0_fineAll 76 = .ok (.getfield 11, 3) := by decide +kernel
theorem dX0_fineAll_79 : decode cX0_fineAll 79 = .ok (.arraylength, 1) := by decide +kernel
theorem dX0_fineAll_80 : decode cX0_fineAll 80 = .ok (.if_icmp .ge 53, 3) := by decide +kernel
theorem dX0_fineAll_83 : decode cX0_fineAll 83 = .ok (.aload_n 0, 1) := by decide +kernel
theorem dX0_fineAll_84 : decode cX0_fineAll 84 = .ok (.getfield 11, 3) := by decide +kernel
theorem dX0_fineAll_87 : decode cX0_fineAll 87 = .ok (.iload 6, 2) := by decide +kernel
theorem dX0_fineAll_89 : decode cX0_fineAll 89 = .ok (.aaload, 1) := by decide +kernel
theorem dX0_fineAll_90 : decode cX0_fineAll 90 = .ok (.iload_n 1, 1) := by decide +kernel
theorem dX0_fineAll_91 : decode cX0_fineAll 91 = .ok (.invokevirtual 180, 3) := by decide +kernel
theorem dX0_fineAll_94 : decode cX0_fineAll 94 = .ok (.ifCond .eq 33, 3) := by decide +kernel
theorem dX0_fineAll_97 : decode cX0_fineAll 97 = .ok (.aload_n 0, 1) := by decide +kernel
theorem dX0_fineAll_98 : decode cX0_fineAll 98 = .ok (.iload 6, 2) := by decide +kernel
theorem dX0_fineAll_100 : decode cX0_fineAll 100 = .ok (.aload_n 0, 1) := by decide +kernel
theorem dX0_fineAll_101 : decode cX0_fineAll 101 = .ok (.getfield 11, 3) := by decide +kernel
theorem dX0_fineAll_104 : decode cX0_fineAll 104 = .ok (.iload 6, 2) := by decide +kernel
theorem dX0_fineAll_106 : decode cX0_fineAll 106 = .ok (.aaload, 1) := by decide +kernel
theorem dX0_fineAll_107 : decode cX0_fineAll 107 = .ok (.iload 5, 2) := by decide +kernel
theorem dX0_fineAll_109 : decode cX0_fineAll 109 = .ok (.ifCond .le 10, 3) := by decide +kernel
theorem dX0_fineAll_112 : decode cX0_fineAll 112 = .ok (.iload 4, 2) := by decide +kernel
theorem dX0_fineAll_114 : decode cX0_fineAll 114 = .ok (.iconst 1, 1) := by decide +kernel
theorem dX0_fineAll_115 : decode cX0_fineAll 115 = .ok (.iadd, 1) := by decide +kernel
theorem dX0_fineAll_116 : decode cX0_fineAll 116 = .ok (.goto 5, 3) := by decide +kernel
theorem dX0_fineAll_119 : decode cX0_fineAll 119 = .ok (.iload 4, 2) := by decide +kernel
theorem dX0_fineAll_121 : decode cX0_fineAll 121 = .ok (.invokevirtual 166, 3) := by decide +kernel
theorem dX0_fineAll_124 : decode cX0_fineAll 124 = .ok (.iinc 5 (-1), 3) := by decide +kernel
theorem dX0_fineAll_127 : decode cX0_fineAll 127 = .ok (.iinc 6 1, 3) := by decide +kernel
theorem dX0_fineAll_130 : decode cX0_fineAll 130 = .ok (.goto (-66), 3) := by decide +kernel
theorem dX0_fineAll_133 : decode cX0_fineAll 133 = .ok (.iload_n 3, 1) := by decide +kernel
theorem dX0_fineAll_134 : decode cX0_fineAll 134 = .ok (.ireturn, 1) := by decide +kernel
theorem dX0_couldAllBeFined_0 : decode cX0_couldAllBeFined 0 = .ok (.iload_n 3, 1) := by decide +kernel
theorem dX0_couldAllBeFined_1 : decode cX0_couldAllBeFined 1 = .ok (.istore 4, 2) := by decide +kernel
theorem dX0_couldAllBeFined_3 : decode cX0_couldAllBeFined 3 = .ok (.iconst 0, 1) := by decide +kernel
theorem dX0_couldAllBeFined_4 : decode cX0_couldAllBeFined 4 = .ok (.istore 5, 2) := by decide +kernel
theorem dX0_couldAllBeFined_6 : decode cX0_couldAllBeFined 6 = .ok (.iload 5, 2) := by decide +kernel
theorem dX0_couldAllBeFined_8 : decode cX0_couldAllBeFined 8 = .ok (.aload_n 0, 1) := by decide +kernel
theorem dX0_couldAllBeFined_9 : decode cX0_couldAllBeFined 9 = .ok (.getfield 63, 3) := by decide +kernel
theorem dX0_couldAllBeFined_12 : decode cX0_couldAllBeFined 12 = .ok (.if_icmp .ge 63, 3) := by decide +kernel
theorem dX0_couldAllBeFined_15 : decode cX0_couldAllBeFined 15 = .ok (.iload 5, 2) := by decide +kernel
theorem dX0_couldAllBeFined_17 : decode cX0_couldAllBeFined 17 = .ok (.aload_n 0, 1) := by decide +kernel
theorem dX0_couldAllBeFined_18 : decode cX0_couldAllBeFined 18 = .ok (.getfield 11, 3) := by decide +kernel
theorem dX0_couldAllBeFined_21 : decode cX0_couldAllBeFined 21 = .ok (.arraylength, 1) := by decide +kernel
theorem dX0_couldAllBeFined_22 : decode cX0_couldAllBeFined 22 = .ok (.if_icmp .ge 53, 3) := by decide +kernel
theorem dX0_couldAllBeFined_25 : decode cX0_couldAllBeFined 25 = .ok (.aload_n 0, 1) := by decide +kernel
theorem dX0_couldAllBeFined_26 : decode cX0_couldAllBeFined 26 = .ok (.getfield 11, 3) := by decide +kernel
theorem dX0_couldAllBeFined_29 : decode cX0_couldAllBeFined 29 = .ok (.iload 5, 2) := by decide +kernel
theorem dX0_couldAllBeFined_31 : decode cX0_couldAllBeFined 31 = .ok (.aaload, 1) := by decide +kernel
theorem dX0_couldAllBeFined_32 : decode cX0_couldAllBeFined 32 = .ok (.iload_n 1, 1) := by decide +kernel
theorem dX0_couldAllBeFined_33 : decode cX0_couldAllBeFined 33 = .ok (.invokevirtual 180, 3) := by decide +kernel
theorem dX0_couldAllBeFined_36 : decode cX0_couldAllBeFined 36 = .ok (.ifCond .eq 33, 3) := by decide +kernel
theorem dX0_couldAllBeFined_39 : decode cX0_couldAllBeFined 39 = .ok (.aload_n 0, 1) := by decide +kernel
theorem dX0_couldAllBeFined_40 : decode cX0_couldAllBeFined 40 = .ok (.getfield 11, 3) := by decide +kernel
theorem dX0_couldAllBeFined_43 : decode cX0_couldAllBeFined 43 = .ok (.iload 5, 2) := by decide +kernel
theorem dX0_couldAllBeFined_45 : decode cX0_couldAllBeFined 45 = .ok (.aaload, 1) := by decide +kernel
theorem dX0_couldAllBeFined_46 : decode cX0_couldAllBeFined 46 = .ok (.iload 4, 2) := by decide +kernel
theorem dX0_couldAllBeFined_48 : decode cX0_couldAllBeFined 48 = .ok (.ifCond .le 9, 3) := by decide +kernel
theorem dX0_couldAllBeFined_51 : decode cX0_couldAllBeFined 51 = .ok (.iload_n 2, 1) := by decide +kernel
theorem dX0_couldAllBeFined_52 : decode cX0_couldAllBeFined 52 = .ok (.iconst 1, 1) := by decide +kernel
theorem dX0_couldAllBeFined_53 : decode cX0_couldAllBeFined 53 = .ok (.iadd, 1) := by decide +kernel
theorem dX0_couldAllBeFined_54 : decode cX0_couldAllBeFined 54 = .ok (.goto 4, 3) := by decide +kernel
theorem dX0_couldAllBeFined_57 : decode cX0_couldAllBeFined 57 = .ok (.iload_n 2, 1) := by decide +kernel
theorem dX0_couldAllBeFined_58 : decode cX0_couldAllBeFined 58 = .ok (.invokevirtual 162, 3) := by decide +kernel
theorem dX0_couldAllBeFined_61 : decode cX0_couldAllBeFined 61 = .ok (.ifCond .ne 5, 3) := by decide +kernel
theorem dX0_couldAllBeFined_64 : decode cX0_couldAllBeFined 64 = .ok (.iconst 0, 1) := by decide +kernel
theorem dX0_couldAllBeFined_65 : decode cX0_couldAllBeFined 65 = .ok (.ireturn, 1) := by decide +kernel
theorem dX0_couldAllBeFined_66 : decode cX0_couldAllBeFined 66 = .ok (.iinc 4 (-1), 3) := by decide +kernel
theorem dX0_couldAllBeFined_69 : decode cX0_couldAllBeFined 69 = .ok (.iinc 5 1, 3) := by decide +kernel
theorem dX0_couldAllBeFined_72 : decode cX0_couldAllBeFined 72 = .ok (.goto (-66), 3) := by decide +kernel
theorem dX0_couldAllBeFined_75 : decode cX0_couldAllBeFined 75 = .ok (.iconst 1, 1) := by decide +kernel
theorem dX0_couldAllBeFined_76 : decode cX0_couldAllBeFined 76 = .ok (.ireturn, 1) := by decide +kernel
theorem dX0_sizeOfWatch_0 : decode cX0_sizeOfWatch 0 = .ok (.iconst 0, 1) := by decide +kernel
theorem dX0_sizeOfWatch_1 : decode cX0_sizeOfWatch 1 = .ok (.istore_n 2, 1) := by decide +kernel
theorem dX0_sizeOfWatch_2 : decode cX0_sizeOfWatch 2 = .ok (.iconst 0, 1) := by decide +kernel
theorem dX0_sizeOfWatch_3 : decode cX0_sizeOfWatch 3 = .ok (.istore_n 3, 1) := by decide +kernel
theorem dX0_sizeOfWatch_4 : decode cX0_sizeOfWatch 4 = .ok (.iload_n 3, 1) := by decide +kernel
theorem dX0_sizeOfWatch_5 : decode cX0_sizeOfWatch 5 = .ok (.aload_n 0, 1) := by decide +kernel
theorem dX0_sizeOfWatch_6 : decode cX0_sizeOfWatch 6 = .ok (.getfield 63, 3) := by decide +kernel
theorem dX0_sizeOfWatch_9 : decode cX0_sizeOfWatch 9 = .ok (.if_icmp .ge 34, 3) := by decide +kernel
theorem dX0_sizeOfWatch_12 : decode cX0_sizeOfWatch 12 = .ok (.iload_n 3, 1) := by decide +kernel
theorem dX0_sizeOfWatch_13 : decode cX0_sizeOfWatch 13 = .ok (.aload_n 0, 1) := by decide +kernel
theorem dX0_sizeOfWatch_14 : decode cX0_sizeOfWatch 14 = .ok (.getfield 11, 3) := by decide +kernel
theorem dX0_sizeOfWatch_17 : decode cX0_sizeOfWatch 17 = .ok (.arraylength, 1) := by decide +kernel
theorem dX0_sizeOfWatch_18 : decode cX0_sizeOfWatch 18 = .ok (.if_icmp .ge 25, 3) := by decide +kernel
theorem dX0_sizeOfWatch_21 : decode cX0_sizeOfWatch 21 = .ok (.aload_n 0, 1) := by decide +kernel
theorem dX0_sizeOfWatch_22 : decode cX0_sizeOfWatch 22 = .ok (.getfield 11, 3) := by decide +kernel
theorem dX0_sizeOfWatch_25 : decode cX0_sizeOfWatch 25 = .ok (.iload_n 3, 1) := by decide +kernel
theorem dX0_sizeOfWatch_26 : decode cX0_sizeOfWatch 26 = .ok (.aaload, 1) := by decide +kernel
theorem dX0_sizeOfWatch_27 : decode cX0_sizeOfWatch 27 = .ok (.iload_n 1, 1) := by decide +kernel
theorem dX0_sizeOfWatch_28 : decode cX0_sizeOfWatch 28 = .ok (.invokevirtual 180, 3) := by decide +kernel
theorem dX0_sizeOfWatch_31 : decode cX0_sizeOfWatch 31 = .ok (.ifCond .eq 6, 3) := by decide +kernel
theorem dX0_sizeOfWatch_34 : decode cX0_sizeOfWatch 34 = .ok (.iinc 2 1, 3) := by decide +kernel
theorem dX0_sizeOfWatch_37 : decode cX0_sizeOfWatch 37 = .ok (.iinc 3 1, 3) := by decide +kernel
theorem dX0_sizeOfWatch_40 : decode cX0_sizeOfWatch 40 = .ok (.goto (-36), 3) := by decide +kernel
theorem dX0_sizeOfWatch_43 : decode cX0_sizeOfWatch 43 = .ok (.iload_n 2, 1) := by decide +kernel
theorem dX0_sizeOfWatch_44 : decode cX0_sizeOfWatch 44 = .ok (.ireturn, 1) := by decide +kernel
theorem dX0_letAshore_0 : decode cX0_letAshore 0 = .ok (.iload_n 1, 1) := by decide +kernel
theorem dX0_letAshore_1 : decode cX0_letAshore 1 = .ok (.iconst 0, 1) := by decide +kernel
theorem dX0_letAshore_2 : decode cX0_letAshore 2 = .ok (.iconst 1, 1) := by decide +kernel
theorem dX0_letAshore_3 : decode cX0_letAshore 3 = .ok (.invokestatic 80, 3) := by decide +kernel
theorem dX0_letAshore_6 : decode cX0_letAshore 6 = .ok (.ifCond .ne 6, 3) := by decide +kernel
theorem dX0_letAshore_9 : decode cX0_letAshore 9 = .ok (.ldc 84, 2) := by decide +kernel
theorem dX0_letAshore_11 : decode cX0_letAshore 11 = .ok (.ireturn, 1) := by decide +kernel
theorem dX0_letAshore_12 : decode cX0_letAshore 12 = .ok (.aload_n 0, 1) := by decide +kernel
theorem dX0_letAshore_13 : decode cX0_letAshore 13 = .ok (.getfield 76, 3) := by decide +kernel
theorem dX0_letAshore_16 : decode cX0_letAshore 16 = .ok (.ifCond .ne 11, 3) := by decide +kernel
theorem dX0_letAshore_19 : decode cX0_letAshore 19 = .ok (.aload_n 0, 1) := by decide +kernel
theorem dX0_letAshore_20 : decode cX0_letAshore 20 = .ok (.iconst 1, 1) := by decide +kernel
theorem dX0_letAshore_21 : decode cX0_letAshore 21 = .ok (.invokevirtual 183, 3) := by decide +kernel
theorem dX0_letAshore_24 : decode cX0_letAshore 24 = .ok (.ifCond .eq 6, 3) := by decide +kernel
theorem dX0_letAshore_27 : decode cX0_letAshore 27 = .ok (.ldc 85, 2) := by decide +kernel
theorem dX0_letAshore_29 : decode cX0_letAshore 29 = .ok (.ireturn, 1) := by decide +kernel
theorem dX0_letAshore_30 : decode cX0_letAshore 30 = .ok (.iconst 0, 1) := by decide +kernel
theorem dX0_letAshore_31 : decode cX0_letAshore 31 = .ok (.istore_n 2, 1) := by decide +kernel
theorem dX0_letAshore_32 : decode cX0_letAshore 32 = .ok (.iconst 0, 1) := by decide +kernel
theorem dX0_letAshore_33 : decode cX0_letAshore 33 = .ok (.istore_n 3, 1) := by decide +kernel
theorem dX0_letAshore_34 : decode cX0_letAshore 34 = .ok (.iload_n 3, 1) := by decide +kernel
theorem dX0_letAshore_35 : decode cX0_letAshore 35 = .ok (.aload_n 0, 1) := by decide +kernel
theorem dX0_letAshore_36 : decode cX0_letAshore 36 = .ok (.getfield 63, 3) := by decide +kernel
theorem dX0_letAshore_39 : decode cX0_letAshore 39 = .ok (.if_icmp .ge 44, 3) := by decide +kernel
theorem dX0_letAshore_42 : decode cX0_letAshore 42 = .ok (.iload_n 3, 1) := by decide +kernel
theorem dX0_letAshore_43 : decode cX0_letAshore 43 = .ok (.aload_n 0, 1) := by decide +kernel
theorem dX0_letAshore_44 : decode cX0_letAshore 44 = .ok (.getfield 11, 3) := by decide +kernel
theorem dX0_letAshore_47 : decode cX0_letAshore 47 = .ok (.arraylength, 1) := by decide +kernel
theorem dX0_letAshore_48 : decode cX0_letAshore 48 = .ok (.if_icmp .ge 35, 3) := by decide +kernel
theorem dX0_letAshore_51 : decode cX0_letAshore 51 = .ok (.aload_n 0, 1) := by decide +kernel
theorem dX0_letAshore_52 : decode cX0_letAshore 52 = .ok (.getfield 11, 3) := by decide +kernel
theorem dX0_letAshore_55 : decode cX0_letAshore 55 = .ok (.iload_n 3, 1) := by decide +kernel
theorem dX0_letAshore_56 : decode cX0_letAshore 56 = .ok (.aaload, 1) := by decide +kernel
theorem dX0_letAshore_57 : decode cX0_letAshore 57 = .ok (.iload_n 1, 1) := by decide +kernel
theorem dX0_letAshore_58 : decode cX0_letAshore 58 = .ok (.invokevirtual 180, 3) := by decide +kernel
theorem dX0_letAshore_61 : decode cX0_letAshore 61 = .ok (.ifCond .eq 16, 3) := by decide +kernel
theorem dX0_letAshore_64 : decode cX0_letAshore 64 = .ok (.aload_n 0, 1) := by decide +kernel
theorem dX0_letAshore_65 : decode cX0_letAshore 65 = .ok (.getfield 11, 3) := by decide +kernel
theorem dX0_letAshore_68 : decode cX0_letAshore 68 = .ok (.iload_n 3, 1) := by decide +kernel
theorem dX0_letAshore_69 : decode cX0_letAshore 69 = .ok (.aaload, 1) := by decide +kernel
theorem dX0_letAshore_70 : decode cX0_letAshore 70 = .ok (.iconst 1, 1) := by decide +kernel
theorem dX0_letAshore_71 : decode cX0_letAshore 71 = .ok (.putfield 136, 3) := by decide +kernel
theorem dX0_letAshore_74 : decode cX0_letAshore 74 = .ok (.iinc 2 1, 3) := by decide +kernel
theorem dX0_letAshore_77 : decode cX0_letAshore 77 = .ok (.iinc 3 1, 3) := by decide +kernel
theorem dX0_letAshore_80 : decode cX0_letAshore 80 = .ok (.goto (-46), 3) := by decide +kernel
theorem dX0_letAshore_83 : decode cX0_letAshore 83 = .ok (.iload_n 2, 1) := by decide +kernel
theorem dX0_letAshore_84 : decode cX0_letAshore 84 = .ok (.ifCond .ne 8, 3) := by decide +kernel
theorem dX0_letAshore_87 : decode cX0_letAshore 87 = .ok (.ldc 85, 2) := by decide +kernel
theorem dX0_letAshore_89 : decode cX0_letAshore 89 = .ok (.goto 4, 3) := by decide +kernel
theorem dX0_letAshore_92 : decode cX0_letAshore 92 = .ok (.iload_n 2, 1) := by decide +kernel
theorem dX0_letAshore_93 : decode cX0_letAshore 93 = .ok (.ireturn, 1) := by decide +kernel
theorem dX0_comeBack_0 : decode cX0_comeBack 0 = .ok (.aload_n 0, 1) := by decide +kernel
theorem dX0_comeBack_1 : decode cX0_comeBack 1 = .ok (.iload_n 1, 1) := by decide +kernel
theorem dX0_comeBack_2 : decode cX0_comeBack 2 = .ok (.invokevirtual 115, 3) := by decide +kernel
theorem dX0_comeBack_5 : decode cX0_comeBack 5 = .ok (.astore_n 3, 1) := by decide +kernel
theorem dX0_comeBack_6 : decode cX0_comeBack 6 = .ok (.aload_n 3, 1) := by decide +kernel
theorem dX0_comeBack_7 : decode cX0_comeBack 7 = .ok (.ifnull 13, 3) := by decide +kernel
theorem dX0_comeBack_10 : decode cX0_comeBack 10 = .ok (.iload_n 2, 1) := by decide +kernel
theorem dX0_comeBack_11 : decode cX0_comeBack 11 = .ok (.iconst 0, 1) := by decide +kernel
theorem dX0_comeBack_12 : decode cX0_comeBack 12 = .ok (.bipush 99, 2) := by decide +kernel
theorem dX0_comeBack_14 : decode cX0_comeBack 14 = .ok (.invokestatic 80, 3) := by decide +kernel
theorem dX0_comeBack_17 : decode cX0_comeBack 17 = .ok (.ifCond .ne 6, 3) := by decide +kernel
theorem dX0_comeBack_20 : decode cX0_comeBack 20 = .ok (.ldc 84, 2) := by decide +kernel
theorem dX0_comeBack_22 : decode cX0_comeBack 22 = .ok (.ireturn, 1) := by decide +kernel
theorem dX0_comeBack_23 : decode cX0_comeBack 23 = .ok (.iload_n 2, 1) := by decide +kernel
theorem dX0_comeBack_24 : decode cX0_comeBack 24 = .ok (.aload_n 0, 1) := by decide +kernel
theorem dX0_comeBack_25 : decode cX0_comeBack 25 = .ok (.iconst 2, 1) := by decide +kernel
theorem dX0_comeBack_26 : decode cX0_comeBack 26 = .ok (.invokevirtual 105, 3) := by decide +kernel
theorem dX0_comeBack_29 : decode cX0_comeBack 29 = .ok (.imul, 1) := by decide +kernel
theorem dX0_comeBack_30 : decode cX0_comeBack 30 = .ok (.istore 4, 2) := by decide +kernel
theorem dX0_comeBack_32 : decode cX0_comeBack 32 = .ok (.aload_n 3, 1) := by decide +kernel
theorem dX0_comeBack_33 : decode cX0_comeBack 33 = .ok (.getfield 136, 3) := by decide +kernel
theorem dX0_comeBack_36 : decode cX0_comeBack 36 = .ok (.iconst 1, 1) := by decide +kernel
theorem dX0_comeBack_37 : decode cX0_comeBack 37 = .ok (.if_icmp .ne 12, 3) := by decide +kernel
theorem dX0_comeBack_40 : decode cX0_comeBack 40 = .ok (.aload_n 3, 1) := by decide +kernel
theorem dX0_comeBack_41 : decode cX0_comeBack 41 = .ok (.iload 4, 2) := by decide +kernel
theorem dX0_comeBack_43 : decode cX0_comeBack 43 = .ok (.invokevirtual 162, 3) := by decide +kernel
theorem dX0_comeBack_46 : decode cX0_comeBack 46 = .ok (.ifCond .ne 6, 3) := by decide +kernel
theorem dX0_comeBack_49 : decode cX0_comeBack 49 = .ok (.ldc 85, 2) := by decide +kernel
theorem dX0_comeBack_51 : decode cX0_comeBack 51 = .ok (.ireturn, 1) := by decide +kernel
theorem dX0_comeBack_52 : decode cX0_comeBack 52 = .ok (.aload_n 3, 1) := by decide +kernel
theorem dX0_comeBack_53 : decode cX0_comeBack 53 = .ok (.iconst 0, 1) := by decide +kernel
theorem dX0_comeBack_54 : decode cX0_comeBack 54 = .ok (.putfield 136, 3) := by decide +kernel
theorem dX0_comeBack_57 : decode cX0_comeBack 57 = .ok (.aload_n 0, 1) := by decide +kernel
theorem dX0_comeBack_58 : decode cX0_comeBack 58 = .ok (.iload_n 1, 1) := by decide +kernel
theorem dX0_comeBack_59 : decode cX0_comeBack 59 = .ok (.aload_n 3, 1) := by decide +kernel
theorem dX0_comeBack_60 : decode cX0_comeBack 60 = .ok (.iload 4, 2) := by decide +kernel
theorem dX0_comeBack_62 : decode cX0_comeBack 62 = .ok (.invokevirtual 166, 3) := by decide +kernel
theorem dX0_comeBack_65 : decode cX0_comeBack 65 = .ok (.iload 4, 2) := by decide +kernel
theorem dX0_comeBack_67 : decode cX0_comeBack 67 = .ok (.ireturn, 1) := by decide +kernel
theorem dX0_putToSea_0 : decode cX0_putToSea 0 = .ok (.aload_n 0, 1) := by decide +kernel
theorem dX0_putToSea_1 : decode cX0_putToSea 1 = .ok (.getfield 76, 3) := by decide +kernel
theorem dX0_putToSea_4 : decode cX0_putToSea 4 = .ok (.ifCond .eq 6, 3) := by decide +kernel
theorem dX0_putToSea_7 : decode cX0_putToSea 7 = .ok (.ldc 85, 2) := by decide +kernel
theorem dX0_putToSea_9 : decode cX0_putToSea 9 = .ok (.ireturn, 1) := by decide +kernel
theorem dX0_putToSea_10 : decode cX0_putToSea 10 = .ok (.iconst 0, 1) := by decide +kernel
theorem dX0_putToSea_11 : decode cX0_putToSea 11 = .ok (.istore_n 1, 1) := by decide +kernel
theorem dX0_putToSea_12 : decode cX0_putToSea 12 = .ok (.iconst 0, 1) := by decide +kernel
theorem dX0_putToSea_13 : decode cX0_putToSea 13 = .ok (.istore_n 2, 1) := by decide +kernel
theorem dX0_putToSea_14 : decode cX0_putToSea 14 = .ok (.iload_n 2, 1) := by decide +kernel
theorem dX0_putToSea_15 : decode cX0_putToSea 15 = .ok (.aload_n 0, 1) := by decide +kernel
theorem dX0_putToSea_16 : decode cX0_putToSea 16 = .ok (.getfield 63, 3) := by decide +kernel
theorem dX0_putToSea_19 : decode cX0_putToSea 19 = .ok (.if_icmp .ge 64, 3) := by decide +kernel
theorem dX0_putToSea_22 : decode cX0_putToSea 22 = .ok (.iload_n 2, 1) := by decide +kernel
theorem dX0_putToSea_23 : decode cX0_putToSea 23 = .ok (.aload_n 0, 1) := by decide +kernel
theorem dX0_putToSea_24 : decode cX0_putToSea 24 = .ok (.getfield 11, 3) := by decide +kernel
theorem dX0_putToSea_27 : decode cX0_putToSea 27 = .ok (.arraylength, 1) := by decide +kernel
theorem dX0_putToSea_28 : decode cX0_putToSea 28 = .ok (.if_icmp .ge 55, 3) := by decide +kernel
theorem dX0_putToSea_31 : decode cX0_putToSea 31 = .ok (.aload_n 0, 1) := by decide +kernel
theorem dX0_putToSea_32 : decode cX0_putToSea 32 = .ok (.getfield 11, 3) := by decide +kernel
theorem dX0_putToSea_35 : decode cX0_putToSea 35 = .ok (.iload_n 2, 1) := by decide +kernel
theorem dX0_putToSea_36 : decode cX0_putToSea 36 = .ok (.aaload, 1) := by decide +kernel
theorem dX0_putToSea_37 : decode cX0_putToSea 37 = .ok (.getfield 136, 3) := by decide +kernel
theorem dX0_putToSea_40 : decode cX0_putToSea 40 = .ok (.iconst 1, 1) := by decide +kernel
theorem dX0_putToSea_41 : decode cX0_putToSea 41 = .ok (.if_icmp .ne 36, 3) := by decide +kernel
theorem dX0_putToSea_44 : decode cX0_putToSea 44 = .ok (.aload_n 0, 1) := by decide +kernel
theorem dX0_putToSea_45 : decode cX0_putToSea 45 = .ok (.getfield 46, 3) := by decide +kernel
theorem dX0_putToSea_48 : decode cX0_putToSea 48 = .ok (.dup, 1) := by decide +kernel
theorem dX0_putToSea_49 : decode cX0_putToSea 49 = .ok (.getfield 186, 3) := by decide +kernel
theorem dX0_putToSea_52 : decode cX0_putToSea 52 = .ok (.aload_n 0, 1) := by decide +kernel
theorem dX0_putToSea_53 : decode cX0_putToSea 53 = .ok (.getfield 11, 3) := by decide +kernel
theorem dX0_putToSea_56 : decode cX0_putToSea 56 = .ok (.iload_n 2, 1) := by decide +kernel
theorem dX0_putToSea_57 : decode cX0_putToSea 57 = .ok (.aaload, 1) := by decide +kernel
theorem dX0_putToSea_58 : decode cX0_putToSea 58 = .ok (.invokevirtual 139, 3) := by decide +kernel
theorem dX0_putToSea_61 : decode cX0_putToSea 61 = .ok (.iadd, 1) := by decide +kernel
theorem dX0_putToSea_62 : decode cX0_putToSea 62 = .ok (.putfield 186, 3) := by decide +kernel
theorem dX0_putToSea_65 : decode cX0_putToSea 65 = .ok (.aload_n 0, 1) := by decide +kernel
theorem dX0_putToSea_66 : decode cX0_putToSea 66 = .ok (.getfield 11, 3) := by decide +kernel
theorem dX0_putToSea_69 : decode cX0_putToSea 69 = .ok (.iload_n 2, 1) := by decide +kernel
theorem dX0_putToSea_70 : decode cX0_putToSea 70 = .ok (.aaload, 1) := by decide +kernel
theorem dX0_putToSea_71 : decode cX0_putToSea 71 = .ok (.invokevirtual 189, 3) := by decide +kernel
theorem dX0_putToSea_74 : decode cX0_putToSea 74 = .ok (.iinc 1 1, 3) := by decide +kernel
theorem dX0_putToSea_77 : decode cX0_putToSea 77 = .ok (.iinc 2 1, 3) := by decide +kernel
theorem dX0_putToSea_80 : decode cX0_putToSea 80 = .ok (.goto (-66), 3) := by decide +kernel
theorem dX0_putToSea_83 : decode cX0_putToSea 83 = .ok (.aload_n 0, 1) := by decide +kernel
theorem dX0_putToSea_84 : decode cX0_putToSea 84 = .ok (.iconst 1, 1) := by decide +kernel
theorem dX0_putToSea_85 : decode cX0_putToSea 85 = .ok (.putfield 76, 3) := by decide +kernel
theorem dX0_putToSea_88 : decode cX0_putToSea 88 = .ok (.iload_n 1, 1) := by decide +kernel
theorem dX0_putToSea_89 : decode cX0_putToSea 89 = .ok (.ireturn, 1) := by decide +kernel
theorem dX0_comeIntoPort_0 : decode cX0_comeIntoPort 0 = .ok (.aload_n 0, 1) := by decide +kernel
theorem dX0_comeIntoPort_1 : decode cX0_comeIntoPort 1 = .ok (.getfield 76, 3) := by decide +kernel
theorem dX0_comeIntoPort_4 : decode cX0_comeIntoPort 4 = .ok (.ifCond .ne 6, 3) := by decide +kernel
theorem dX0_comeIntoPort_7 : decode cX0_comeIntoPort 7 = .ok (.ldc 85, 2) := by decide +kernel
theorem dX0_comeIntoPort_9 : decode cX0_comeIntoPort 9 = .ok (.ireturn, 1) := by decide +kernel
theorem dX0_comeIntoPort_10 : decode cX0_comeIntoPort 10 = .ok (.aload_n 0, 1) := by decide +kernel
theorem dX0_comeIntoPort_11 : decode cX0_comeIntoPort 11 = .ok (.iconst 0, 1) := by decide +kernel
theorem dX0_comeIntoPort_12 : decode cX0_comeIntoPort 12 = .ok (.putfield 76, 3) := by decide +kernel
theorem dX0_comeIntoPort_15 : decode cX0_comeIntoPort 15 = .ok (.aload_n 0, 1) := by decide +kernel
theorem dX0_comeIntoPort_16 : decode cX0_comeIntoPort 16 = .ok (.dup, 1) := by decide +kernel
theorem dX0_comeIntoPort_17 : decode cX0_comeIntoPort 17 = .ok (.getfield 73, 3) := by decide +kernel
theorem dX0_comeIntoPort_20 : decode cX0_comeIntoPort 20 = .ok (.iconst 1, 1) := by decide +kernel
theorem dX0_comeIntoPort_21 : decode cX0_comeIntoPort 21 = .ok (.iadd, 1) := by decide +kernel
theorem dX0_comeIntoPort_22 : decode cX0_comeIntoPort 22 = .ok (.putfield 73, 3) := by decide +kernel
theorem dX0_comeIntoPort_25 : decode cX0_comeIntoPort 25 = .ok (.aload_n 0, 1) := by decide +kernel
theorem dX0_comeIntoPort_26 : decode cX0_comeIntoPort 26 = .ok (.getfield 73, 3) := by decide +kernel
theorem dX0_comeIntoPort_29 : decode cX0_comeIntoPort 29 = .ok (.ireturn, 1) := by decide +kernel
theorem dX0_passDays_0 : decode cX0_passDays 0 = .ok (.iload_n 1, 1) := by decide +kernel
theorem dX0_passDays_1 : decode cX0_passDays 1 = .ok (.iconst 1, 1) := by decide +kernel
theorem dX0_passDays_2 : decode cX0_passDays 2 = .ok (.bipush 99, 2) := by decide +kernel
theorem dX0_passDays_4 : decode cX0_passDays 4 = .ok (.invokestatic 80, 3) := by decide +kernel
theorem dX0_passDays_7 : decode cX0_passDays 7 = .ok (.ifCond .ne 6, 3) := by decide +kernel
theorem dX0_passDays_10 : decode cX0_passDays 10 = .ok (.ldc 84, 2) := by decide +kernel
theorem dX0_passDays_12 : decode cX0_passDays 12 = .ok (.ireturn, 1) := by decide +kernel
theorem dX0_passDays_13 : decode cX0_passDays 13 = .ok (.aload_n 0, 1) := by decide +kernel
theorem dX0_passDays_14 : decode cX0_passDays 14 = .ok (.getfield 70, 3) := by decide +kernel
theorem dX0_passDays_17 : decode cX0_passDays 17 = .ok (.iload_n 1, 1) := by decide +kernel
theorem dX0_passDays_18 : decode cX0_passDays 18 = .ok (.iadd, 1) := by decide +kernel
theorem dX0_passDays_19 : decode cX0_passDays 19 = .ok (.sipush 999, 3) := by decide +kernel
theorem dX0_passDays_22 : decode cX0_passDays 22 = .ok (.if_icmp .le 6, 3) := by decide +kernel
theorem dX0_passDays_25 : decode cX0_passDays 25 = .ok (.ldc 86, 2) := by decide +kernel
theorem dX0_passDays_27 : decode cX0_passDays 27 = .ok (.ireturn, 1) := by decide +kernel
theorem dX0_passDays_28 : decode cX0_passDays 28 = .ok (.iconst 0, 1) := by decide +kernel
theorem dX0_passDays_29 : decode cX0_passDays 29 = .ok (.istore_n 2, 1) := by decide +kernel
theorem dX0_passDays_30 : decode cX0_passDays 30 = .ok (.iload_n 2, 1) := by decide +kernel
theorem dX0_passDays_31 : decode cX0_passDays 31 = .ok (.aload_n 0, 1) := by decide +kernel
theorem dX0_passDays_32 : decode cX0_passDays 32 = .ok (.getfield 63, 3) := by decide +kernel
theorem dX0_passDays_35 : decode cX0_passDays 35 = .ok (.if_icmp .ge 44, 3) := by decide +kernel
theorem dX0_passDays_38 : decode cX0_passDays 38 = .ok (.iload_n 2, 1) := by decide +kernel
theorem dX0_passDays_39 : decode cX0_passDays 39 = .ok (.aload_n 0, 1) := by decide +kernel
theorem dX0_passDays_40 : decode cX0_passDays 40 = .ok (.getfield 11, 3) := by decide +kernel
theorem dX0_passDays_43 : decode cX0_passDays 43 = .ok (.arraylength, 1) := by decide +kernel
theorem dX0_passDays_44 : decode cX0_passDays 44 = .ok (.if_icmp .ge 35, 3) := by decide +kernel
theorem dX0_passDays_47 : decode cX0_passDays 47 = .ok (.aload_n 0, 1) := by decide +kernel
theorem dX0_passDays_48 : decode cX0_passDays 48 = .ok (.getfield 11, 3) := by decide +kernel
theorem dX0_passDays_51 : decode cX0_passDays 51 = .ok (.iload_n 2, 1) := by decide +kernel
theorem dX0_passDays_52 : decode cX0_passDays 52 = .ok (.aaload, 1) := by decide +kernel
theorem dX0_passDays_53 : decode cX0_passDays 53 = .ok (.invokevirtual 149, 3) := by decide +kernel
theorem dX0_passDays_56 : decode cX0_passDays 56 = .ok (.ifCond .ne 17, 3) := by decide +kernel
theorem dX0_passDays_59 : decode cX0_passDays 59 = .ok (.aload_n 0, 1) := by decide +kernel
theorem dX0_passDays_60 : decode cX0_passDays 60 = .ok (.getfield 11, 3) := by decide +kernel
theorem dX0_passDays_63 : decode cX0_passDays 63 = .ok (.iload_n 2, 1) := by decide +kernel
theorem dX0_passDays_64 : decode cX0_passDays 64 = .ok (.aaload, 1) := by decide +kernel
theorem dX0_passDays_65 : decode cX0_passDays 65 = .ok (.iload_n 1, 1) := by decide +kernel
theorem dX0_passDays_66 : decode cX0_passDays 66 = .ok (.aload_n 0, 1) := by decide +kernel
theorem dX0_passDays_67 : decode cX0_passDays 67 = .ok (.getfield 76, 3) := by decide +kernel
theorem dX0_passDays_70 : decode cX0_passDays 70 = .ok (.invokevirtual 192, 3) := by decide +kernel
theorem dX0_passDays_73 : decode cX0_passDays 73 = .ok (.iinc 2 1, 3) := by decide +kernel
theorem dX0_passDays_76 : decode cX0_passDays 76 = .ok (.goto (-46), 3) := by decide +kernel
theorem dX0_passDays_79 : decode cX0_passDays 79 = .ok (.aload_n 0, 1) := by decide +kernel
theorem dX0_passDays_80 : decode cX0_passDays 80 = .ok (.dup, 1) := by decide +kernel
theorem dX0_passDays_81 : decode cX0_passDays 81 = .ok (.getfield 70, 3) := by decide +kernel
theorem dX0_passDays_84 : decode cX0_passDays 84 = .ok (.iload_n 1, 1) := by decide +kernel
theorem dX0_passDays_85 : decode cX0_passDays 85 = .ok (.iadd, 1) := by decide +kernel
theorem dX0_passDays_86 : decode cX0_passDays 86 = .ok (.putfield 70, 3) := by decide +kernel
theorem dX0_passDays_89 : decode cX0_passDays 89 = .ok (.aload_n 0, 1) := by decide +kernel
theorem dX0_passDays_90 : decode cX0_passDays 90 = .ok (.getfield 70, 3) := by decide +kernel
theorem dX0_passDays_93 : decode cX0_passDays 93 = .ok (.ireturn, 1) := by decide +kernel
theorem dX0_sendAway_0 : decode cX0_sendAway 0 = .ok (.aload_n 0, 1) := by decide +kernel
theorem dX0_sendAway_1 : decode cX0_sendAway 1 = .ok (.iload_n 1, 1) := by decide +kernel
theorem dX0_sendAway_2 : decode cX0_sendAway 2 = .ok (.invokevirtual 115, 3) := by decide +kernel
theorem dX0_sendAway_5 : decode cX0_sendAway 5 = .ok (.astore_n 2, 1) := by decide +kernel
theorem dX0_sendAway_6 : decode cX0_sendAway 6 = .ok (.aload_n 2, 1) := by decide +kernel
theorem dX0_sendAway_7 : decode cX0_sendAway 7 = .ok (.ifnonnull 6, 3) := by decide +kernel
theorem dX0_sendAway_10 : decode cX0_sendAway 10 = .ok (.ldc 84, 2) := by decide +kernel
theorem dX0_sendAway_12 : decode cX0_sendAway 12 = .ok (.ireturn, 1) := by decide +kernel
theorem dX0_sendAway_13 : decode cX0_sendAway 13 = .ok (.aload_n 2, 1) := by decide +kernel
theorem dX0_sendAway_14 : decode cX0_sendAway 14 = .ok (.invokevirtual 139, 3) := by decide +kernel
theorem dX0_sendAway_17 : decode cX0_sendAway 17 = .ok (.istore_n 3, 1) := by decide +kernel
theorem dX0_sendAway_18 : decode cX0_sendAway 18 = .ok (.aload_n 0, 1) := by decide +kernel
theorem dX0_sendAway_19 : decode cX0_sendAway 19 = .ok (.getfield 76, 3) := by decide +kernel
theorem dX0_sendAway_22 : decode cX0_sendAway 22 = .ok (.ifCond .ne 14, 3) := by decide +kernel
theorem dX0_sendAway_25 : decode cX0_sendAway 25 = .ok (.aload_n 2, 1) := by decide +kernel
theorem dX0_sendAway_26 : decode cX0_sendAway 26 = .ok (.invokevirtual 149, 3) := by decide +kernel
theorem dX0_sendAway_29 : decode cX0_sendAway 29 = .ok (.ifCond .ne 7, 3) := by decide +kernel
theorem dX0_sendAway_32 : decode cX0_sendAway 32 = .ok (.iload_n 3, 1) := by decide +kernel
theorem dX0_sendAway_33 : decode cX0_sendAway 33 = .ok (.ifCond .ge 6, 3) := by decide +kernel
theorem dX0_sendAway_36 : decode cX0_sendAway 36 = .ok (.ldc 85, 2) := by decide +kernel
theorem dX0_sendAway_38 : decode cX0_sendAway 38 = .ok (.ireturn, 1) := by decide +kernel
theorem dX0_sendAway_39 : decode cX0_sendAway 39 = .ok (.aload_n 0, 1) := by decide +kernel
theorem dX0_sendAway_40 : decode cX0_sendAway 40 = .ok (.iload_n 1, 1) := by decide +kernel
theorem dX0_sendAway_41 : decode cX0_sendAway 41 = .ok (.aload_n 2, 1) := by decide +kernel
theorem dX0_sendAway_42 : decode cX0_sendAway 42 = .ok (.iload_n 3, 1) := by decide +kernel
theorem dX0_sendAway_43 : decode cX0_sendAway 43 = .ok (.invokevirtual 196, 3) := by decide +kernel
theorem dX0_sendAway_46 : decode cX0_sendAway 46 = .ok (.aload_n 2, 1) := by decide +kernel
theorem dX0_sendAway_47 : decode cX0_sendAway 47 = .ok (.invokevirtual 189, 3) := by decide +kernel
theorem dX0_sendAway_50 : decode cX0_sendAway 50 = .ok (.iload_n 3, 1) := by decide +kernel
theorem dX0_sendAway_51 : decode cX0_sendAway 51 = .ok (.ireturn, 1) := by decide +kernel
theorem dX0_payTo_0 : decode cX0_payTo 0 = .ok (.aload_n 2, 1) := by decide +kernel
theorem dX0_payTo_1 : decode cX0_payTo 1 = .ok (.dup, 1) := by decide +kernel
theorem dX0_payTo_2 : decode cX0_payTo 2 = .ok (.getfield 199, 3) := by decide +kernel
theorem dX0_payTo_5 : decode cX0_payTo 5 = .ok (.iload_n 3, 1) := by decide +kernel
theorem dX0_payTo_6 : decode cX0_payTo 6 = .ok (.iadd, 1) := by decide +kernel
theorem dX0_payTo_7 : decode cX0_payTo 7 = .ok (.putfield 199, 3) := by decide +kernel
theorem dX0_payTo_10 : decode cX0_payTo 10 = .ok (.aload_n 0, 1) := by decide +kernel
theorem dX0_payTo_11 : decode cX0_payTo 11 = .ok (.getfield 46, 3) := by decide +kernel
theorem dX0_payTo_14 : decode cX0_payTo 14 = .ok (.dup, 1) := by decide +kernel
theorem dX0_payTo_15 : decode cX0_payTo 15 = .ok (.getfield 202, 3) := by decide +kernel
theorem dX0_payTo_18 : decode cX0_payTo 18 = .ok (.iload_n 3, 1) := by decide +kernel
theorem dX0_payTo_19 : decode cX0_payTo 19 = .ok (.iadd, 1) := by decide +kernel
theorem dX0_payTo_20 : decode cX0_payTo 20 = .ok (.putfield 202, 3) := by decide +kernel
theorem dX0_payTo_23 : decode cX0_payTo 23 = .ok (.aload_n 0, 1) := by decide +kernel
theorem dX0_payTo_24 : decode cX0_payTo 24 = .ok (.getfield 46, 3) := by decide +kernel
theorem dX0_payTo_27 : decode cX0_payTo 27 = .ok (.iload_n 3, 1) := by decide +kernel
theorem dX0_payTo_28 : decode cX0_payTo 28 = .ok (.invokevirtual 101, 3) := by decide +kernel
theorem dX0_payTo_31 : decode cX0_payTo 31 = .ok (.aload_n 0, 1) := by decide +kernel
theorem dX0_payTo_32 : decode cX0_payTo 32 = .ok (.getfield 39, 3) := by decide +kernel
theorem dX0_payTo_35 : decode cX0_payTo 35 = .ok (.iload_n 1, 1) := by decide +kernel
theorem dX0_payTo_36 : decode cX0_payTo 36 = .ok (.iconst 3, 1) := by decide +kernel
theorem dX0_payTo_37 : decode cX0_payTo 37 = .ok (.iload_n 3, 1) := by decide +kernel
theorem dX0_payTo_38 : decode cX0_payTo 38 = .ok (.invokevirtual 132, 3) := by decide +kernel
theorem dX0_payTo_41 : decode cX0_payTo 41 = .ok (.return_, 1) := by decide +kernel
theorem dX0_endVoyage_0 : decode cX0_endVoyage 0 = .ok (.aload_n 0, 1) := by decide +kernel
theorem dX0_endVoyage_1 : decode cX0_endVoyage 1 = .ok (.getfield 76, 3) := by decide +kernel
theorem dX0_endVoyage_4 : decode cX0_endVoyage 4 = .ok (.ifCond .ne 10, 3) := by decide +kernel
theorem dX0_endVoyage_7 : decode cX0_endVoyage 7 = .ok (.aload_n 0, 1) := by decide +kernel
theorem dX0_endVoyage_8 : decode cX0_endVoyage 8 = .ok (.getfield 70, 3) := by decide +kernel
theorem dX0_endVoyage_11 : decode cX0_endVoyage 11 = .ok (.ifCond .ne 6, 3) := by decide +kernel
theorem dX0_endVoyage_14 : decode cX0_endVoyage 14 = .ok (.ldc 85, 2) := by decide +kernel
theorem dX0_endVoyage_16 : decode cX0_endVoyage 16 = .ok (.ireturn, 1) := by decide +kernel
theorem dX0_endVoyage_17 : decode cX0_endVoyage 17 = .ok (.iconst 0, 1) := by decide +kernel
theorem dX0_endVoyage_18 : decode cX0_endVoyage 18 = .ok (.istore_n 1, 1) := by decide +kernel
theorem dX0_endVoyage_19 : decode cX0_endVoyage 19 = .ok (.iconst 0, 1) := by decide +kernel
theorem dX0_endVoyage_20 : decode cX0_endVoyage 20 = .ok (.istore_n 2, 1) := by decide +kernel
theorem dX0_endVoyage_21 : decode cX0_endVoyage 21 = .ok (.iload_n 2, 1) := by decide +kernel
theorem dX0_endVoyage_22 : decode cX0_endVoyage 22 = .ok (.aload_n 0, 1) := by decide +kernel
theorem dX0_endVoyage_23 : decode cX0_endVoyage 23 = .ok (.getfield 63, 3) := by decide +kernel
theorem dX0_endVoyage_26 : decode cX0_endVoyage 26 = .ok (.if_icmp .ge 67, 3) := by decide +kernel
theorem dX0_endVoyage_29 : decode cX0_endVoyage 29 = .ok (.iload_n 2, 1) := by decide +kernel
theorem dX0_endVoyage_30 : decode cX0_endVoyage 30 = .ok (.aload_n 0, 1) := by decide +kernel
theorem dX0_endVoyage_31 : decode cX0_endVoyage 31 = .ok (.getfield 11, 3) := by decide +kernel
theorem dX0_endVoyage_34 : decode cX0_endVoyage 34 = .ok (.arraylength, 1) := by decide +kernel
theorem dX0_endVoyage_35 : decode cX0_endVoyage 35 = .ok (.if_icmp .ge 58, 3) := by decide +kernel
theorem dX0_endVoyage_38 : decode cX0_endVoyage 38 = .ok (.aload_n 0, 1) := by decide +kernel
theorem dX0_endVoyage_39 : decode cX0_endVoyage 39 = .ok (.getfield 11, 3) := by decide +kernel
theorem dX0_endVoyage_42 : decode cX0_endVoyage 42 = .ok (.iload_n 2, 1) := by decide +kernel
theorem dX0_endVoyage_43 : decode cX0_endVoyage 43 = .ok (.aaload, 1) := by decide +kernel
theorem dX0_endVoyage_44 : decode cX0_endVoyage 44 = .ok (.invokevirtual 139, 3) := by decide +kernel
theorem dX0_endVoyage_47 : decode cX0_endVoyage 47 = .ok (.istore_n 3, 1) := by decide +kernel
theorem dX0_endVoyage_48 : decode cX0_endVoyage 48 = .ok (.iload_n 3, 1) := by decide +kernel
theorem dX0_endVoyage_49 : decode cX0_endVoyage 49 = .ok (.ifCond .le 19, 3) := by decide +kernel
theorem dX0_endVoyage_52 : decode cX0_endVoyage 52 = .ok (.aload_n 0, 1) := by decide +kernel
theorem dX0_endVoyage_53 : decode cX0_endVoyage 53 = .ok (.iload_n 2, 1) := by decide +kernel
theorem dX0_endVoyage_54 : decode cX0_endVoyage 54 = .ok (.aload_n 0, 1) := by decide +kernel
theorem dX0_endVoyage_55 : decode cX0_endVoyage 55 = .ok (.getfield 11, 3) := by decide +kernel
theorem dX0_endVoyage_58 : decode cX0_endVoyage 58 = .ok (.iload_n 2, 1) := by decide +kernel
theorem dX0_endVoyage_59 : decode cX0_endVoyage 59 = .ok (.aaload, 1) := by decide +kernel
theorem dX0_endVoyage_60 : decode cX0_endVoyage 60 = .ok (.iload_n 3, 1) := by decide +kernel
theorem dX0_endVoyage_61 : decode cX0_endVoyage 61 = .ok (.invokevirtual 196, 3) := by decide +kernel
theorem dX0_endVoyage_64 : decode cX0_endVoyage 64 = .ok (.iload_n 1, 1) := by decide +kernel
theorem dX0_endVoyage_65 : decode cX0_endVoyage 65 = .ok (.iload_n 3, 1) := by decide +kernel
theorem dX0_endVoyage_66 : decode cX0_endVoyage 66 = .ok (.iadd, 1) := by decide +kernel
theorem dX0_endVoyage_67 : decode cX0_endVoyage 67 = .ok (.istore_n 1, 1) := by decide +kernel
theorem dX0_endVoyage_68 : decode cX0_endVoyage 68 = .ok (.aload_n 0, 1) := by decide +kernel
theorem dX0_endVoyage_69 : decode cX0_endVoyage 69 = .ok (.getfield 11, 3) := by decide +kernel
theorem dX0_endVoyage_72 : decode cX0_endVoyage 72 = .ok (.iload_n 2, 1) := by decide +kernel
theorem dX0_endVoyage_73 : decode cX0_endVoyage 73 = .ok (.aaload, 1) := by decide +kernel
theorem dX0_endVoyage_74 : decode cX0_endVoyage 74 = .ok (.iload_n 3, 1) := by decide +kernel
theorem dX0_endVoyage_75 : decode cX0_endVoyage 75 = .ok (.ifCond .ge 8, 3) := by decide +kernel
theorem dX0_endVoyage_78 : decode cX0_endVoyage 78 = .ok (.iload_n 3, 1) := by decide +kernel
theorem dX0_endVoyage_79 : decode cX0_endVoyage 79 = .ok (.ineg, 1) := by decide +kernel
theorem dX0_endVoyage_80 : decode cX0_endVoyage 80 = .ok (.goto 4, 3) := by decide +kernel
theorem dX0_endVoyage_83 : decode cX0_endVoyage 83 = .ok (.iconst 0, 1) := by decide +kernel
theorem dX0_endVoyage_84 : decode cX0_endVoyage 84 = .ok (.invokevirtual 203, 3) := by decide +kernel
theorem dX0_endVoyage_87 : decode cX0_endVoyage 87 = .ok (.iinc 2 1, 3) := by decide +kernel
theorem dX0_endVoyage_90 : decode cX0_endVoyage 90 = .ok (.goto (-69), 3) := by decide +kernel
theorem dX0_endVoyage_93 : decode cX0_endVoyage 93 = .ok (.aload_n 0, 1) := by decide +kernel
theorem dX0_endVoyage_94 : decode cX0_endVoyage 94 = .ok (.dup, 1) := by decide +kernel
theorem dX0_endVoyage_95 : decode cX0_endVoyage 95 = .ok (.getfield 67, 3) := by decide +kernel
theorem dX0_endVoyage_98 : decode cX0_endVoyage 98 = .ok (.iconst 1, 1) := by decide +kernel
theorem dX0_endVoyage_99 : decode cX0_endVoyage 99 = .ok (.iadd, 1) := by decide +kernel
theorem dX0_endVoyage_100 : decode cX0_endVoyage 100 = .ok (.putfield 67, 3) := by decide +kernel
theorem dX0_endVoyage_103 : decode cX0_endVoyage 103 = .ok (.aload_n 0, 1) := by decide +kernel
theorem dX0_endVoyage_104 : decode cX0_endVoyage 104 = .ok (.iconst 0, 1) := by decide +kernel
theorem dX0_endVoyage_105 : decode cX0_endVoyage 105 = .ok (.putfield 70, 3) := by decide +kernel
theorem dX0_endVoyage_108 : decode cX0_endVoyage 108 = .ok (.iload_n 1, 1) := by decide +kernel
theorem dX0_endVoyage_109 : decode cX0_endVoyage 109 = .ok (.ireturn, 1) := by decide +kernel
theorem dX0_changeSetting_0 : decode cX0_changeSetting 0 = .ok (.iload_n 1, 1) := by decide +kernel
theorem dX0_changeSetting_1 : decode cX0_changeSetting 1 = .ok (.ifCond .lt 33, 3) := by decide +kernel
theorem dX0_changeSetting_4 : decode cX0_changeSetting 4 = .ok (.iload_n 1, 1) := by decide +kernel
theorem dX0_changeSetting_5 : decode cX0_changeSetting 5 = .ok (.aload_n 0, 1) := by decide +kernel
theorem dX0_changeSetting_6 : decode cX0_changeSetting 6 = .ok (.getfield 29, 3) := by decide +kernel
theorem dX0_changeSetting_9 : decode cX0_changeSetting 9 = .ok (.arraylength, 1) := by decide +kernel
theorem dX0_changeSetting_10 : decode cX0_changeSetting 10 = .ok (.if_icmp .ge 24, 3) := by decide +kernel
theorem dX0_changeSetting_13 : decode cX0_changeSetting 13 = .ok (.iload_n 1, 1) := by decide +kernel
theorem dX0_changeSetting_14 : decode cX0_changeSetting 14 = .ok (.getstatic 206, 3) := by decide +kernel
theorem dX0_changeSetting_17 : decode cX0_changeSetting 17 = .ok (.arraylength, 1) := by decide +kernel
theorem dX0_changeSetting_18 : decode cX0_changeSetting 18 = .ok (.if_icmp .ge 16, 3) := by decide +kernel
theorem dX0_changeSetting_21 : decode cX0_changeSetting 21 = .ok (.iload_n 2, 1) := by decide +kernel
theorem dX0_changeSetting_22 : decode cX0_changeSetting 22 = .ok (.iconst 0, 1) := by decide +kernel
theorem dX0_changeSetting_23 : decode cX0_changeSetting 23 = .ok (.getstatic 206, 3) := by decide +kernel
theorem dX0_changeSetting_26 : decode cX0_changeSetting 26 = .ok (.iload_n 1, 1) := by decide +kernel
theorem dX0_changeSetting_27 : decode cX0_changeSetting 27 = .ok (.iaload, 1) := by decide +kernel
theorem dX0_changeSetting_28 : decode cX0_changeSetting 28 = .ok (.invokestatic 80, 3) := by decide +kernel
theorem dX0_changeSetting_31 : decode cX0_changeSetting 31 = .ok (.ifCond .ne 6, 3) := by decide +kernel
theorem dX0_changeSetting_34 : decode cX0_changeSetting 34 = .ok (.ldc 84, 2) := by decide +kernel
theorem dX0_changeSetting_36 : decode cX0_changeSetting 36 = .ok (.ireturn, 1) := by decide +kernel
theorem dX0_changeSetting_37 : decode cX0_changeSetting 37 = .ok (.aload_n 0, 1) := by decide +kernel
theorem dX0_changeSetting_38 : decode cX0_changeSetting 38 = .ok (.getfield 29, 3) := by decide +kernel
theorem dX0_changeSetting_41 : decode cX0_changeSetting 41 = .ok (.iload_n 1, 1) := by decide +kernel
theorem dX0_changeSetting_42 : decode cX0_changeSetting 42 = .ok (.iaload, 1) := by decide +kernel
theorem dX0_changeSetting_43 : decode cX0_changeSetting 43 = .ok (.istore_n 3, 1) := by decide +kernel
theorem dX0_changeSetting_44 : decode cX0_changeSetting 44 = .ok (.aload_n 0, 1) := by decide +kernel
theorem dX0_changeSetting_45 : decode cX0_changeSetting 45 = .ok (.getfield 29, 3) := by decide +kernel
theorem dX0_changeSetting_48 : decode cX0_changeSetting 48 = .ok (.iload_n 1, 1) := by decide +kernel
theorem dX0_changeSetting_49 : decode cX0_changeSetting 49 = .ok (.iload_n 2, 1) := by decide +kernel
theorem dX0_changeSetting_50 : decode cX0_changeSetting 50 = .ok (.iastore, 1) := by decide +kernel
theorem dX0_changeSetting_51 : decode cX0_changeSetting 51 = .ok (.iload_n 3, 1) := by decide +kernel
theorem dX0_changeSetting_52 : decode cX0_changeSetting 52 = .ok (.ireturn, 1) := by decide +kernel
theorem dX0_daysUntilClear_0 : decode cX0_daysUntilClear 0 = .ok (.aload_n 0, 1) := by decide +kernel
theorem dX0_daysUntilClear_1 : decode cX0_daysUntilClear 1 = .ok (.iload_n 1, 1) := by decide +kernel
theorem dX0_daysUntilClear_2 : decode cX0_daysUntilClear 2 = .ok (.invokevirtual 115, 3) := by decide +kernel
theorem dX0_daysUntilClear_5 : decode cX0_daysUntilClear 5 = .ok (.astore_n 2, 1) := by decide +kernel
theorem dX0_daysUntilClear_6 : decode cX0_daysUntilClear 6 = .ok (.aload_n 2, 1) := by decide +kernel
theorem dX0_daysUntilClear_7 : decode cX0_daysUntilClear 7 = .ok (.ifnonnull 6, 3) := by decide +kernel
theorem dX0_daysUntilClear_10 : decode cX0_daysUntilClear 10 = .ok (.ldc 84, 2) := by decide +kernel
theorem dX0_daysUntilClear_12 : decode cX0_daysUntilClear 12 = .ok (.ireturn, 1) := by decide +kernel
theorem dX0_daysUntilClear_13 : decode cX0_daysUntilClear 13 = .ok (.aload_n 2, 1) := by decide +kernel
theorem dX0_daysUntilClear_14 : decode cX0_daysUntilClear 14 = .ok (.invokevirtual 149, 3) := by decide +kernel
theorem dX0_daysUntilClear_17 : decode cX0_daysUntilClear 17 = .ok (.ifCond .eq 6, 3) := by decide +kernel
theorem dX0_daysUntilClear_20 : decode cX0_daysUntilClear 20 = .ok (.ldc 85, 2) := by decide +kernel
theorem dX0_daysUntilClear_22 : decode cX0_daysUntilClear 22 = .ok (.ireturn, 1) := by decide +kernel
theorem dX0_daysUntilClear_23 : decode cX0_daysUntilClear 23 = .ok (.aload_n 2, 1) := by decide +kernel
theorem dX0_daysUntilClear_24 : decode cX0_daysUntilClear 24 = .ok (.getfield 209, 3) := by decide +kernel
theorem dX0_daysUntilClear_27 : decode cX0_daysUntilClear 27 = .ok (.aload_n 2, 1) := by decide +kernel
theorem dX0_daysUntilClear_28 : decode cX0_daysUntilClear 28 = .ok (.invokevirtual 212, 3) := by decide +kernel
theorem dX0_daysUntilClear_31 : decode cX0_daysUntilClear 31 = .ok (.iadd, 1) := by decide +kernel
theorem dX0_daysUntilClear_32 : decode cX0_daysUntilClear 32 = .ok (.istore_n 3, 1) := by decide +kernel
theorem dX0_daysUntilClear_33 : decode cX0_daysUntilClear 33 = .ok (.iconst 0, 1) := by decide +kernel
theorem dX0_daysUntilClear_34 : decode cX0_daysUntilClear 34 = .ok (.istore 4, 2) := by decide +kernel
theorem dX0_daysUntilClear_36 : decode cX0_daysUntilClear 36 = .ok (.iload 4, 2) := by decide +kernel
theorem dX0_daysUntilClear_38 : decode cX0_daysUntilClear 38 = .ok (.sipush 400, 3) := by decide +kernel
theorem dX0_daysUntilClear_41 : decode cX0_daysUntilClear 41 = .ok (.if_icmp .gt 26, 3) := by decide +kernel
theorem dX0_daysUntilClear_44 : decode cX0_daysUntilClear 44 = .ok (.aload_n 2, 1) := by decide +kernel
theorem dX0_daysUntilClear_45 : decode cX0_daysUntilClear 45 = .ok (.iload 4, 2) := by decide +kernel
theorem dX0_daysUntilClear_47 : decode cX0_daysUntilClear 47 = .ok (.aload_n 0, 1) := by decide +kernel
theorem dX0_daysUntilClear_48 : decode cX0_daysUntilClear 48 = .ok (.getfield 76, 3) := by decide +kernel
theorem dX0_daysUntilClear_51 : decode cX0_daysUntilClear 51 = .ok (.invokevirtual 214, 3) := by decide +kernel
theorem dX0_daysUntilClear_54 : decode cX0_daysUntilClear 54 = .ok (.iload_n 3, 1) := by decide +kernel
theorem dX0_daysUntilClear_55 : decode cX0_daysUntilClear 55 = .ok (.if_icmp .lt 6, 3) := by decide +kernel
theorem dX0_daysUntilClear_58 : decode cX0_daysUntilClear 58 = .ok (.iload 4, 2) := by decide +kernel
theorem dX0_daysUntilClear_60 : decode cX0_daysUntilClear 60 = .ok (.ireturn, 1) := by decide +kernel
theorem dX0_daysUntilClear_61 : decode cX0_daysUntilClear 61 = .ok (.iinc 4 1, 3) := by decide +kernel
theorem dX0_daysUntilClear_64 : decode cX0_daysUntilClear 64 = .ok (.goto (-28), 3) := by decide +kernel
theorem dX0_daysUntilClear_67 : decode cX0_daysUntilClear 67 = .ok (.ldc 218, 2) := by decide +kernel
theorem dX0_daysUntilClear_69 : decode cX0_daysUntilClear 69 = .ok (.ireturn, 1) := by decide +kernel
theorem dX0_tellPayingOff_0 : decode cX0_tellPayingOff 0 = .ok (.iload_n 1, 1) := by decide +kernel
theorem dX0_tellPayingOff_1 : decode cX0_tellPayingOff 1 = .ok (.tableswitch 58 0 3 #[31, 36, 48, 53], 31) := by decide +kernel
theorem dX0_tellPayingOff_32 : decode cX0_tellPayingOff 32 = .ok (.aload_n 0, 1) := by decide +kernel
theorem dX0_tellPayingOff_33 : decode cX0_tellPayingOff 33 = .ok (.invokevirtual 219, 3) := by decide +kernel
theorem dX0_tellPayingOff_36 : decode cX0_tellPayingOff 36 = .ok (.ireturn, 1) := by decide +kernel
theorem dX0_tellPayingOff_37 : decode cX0_tellPayingOff 37 = .ok (.aload_n 0, 1) := by decide +kernel
theorem dX0_tellPayingOff_38 : decode cX0_tellPayingOff 38 = .ok (.getfield 46, 3) := by decide +kernel
theorem dX0_tellPayingOff_41 : decode cX0_tellPayingOff 41 = .ok (.aload_n 0, 1) := by decide +kernel
theorem dX0_tellPayingOff_42 : decode cX0_tellPayingOff 42 = .ok (.invokevirtual 219, 3) := by decide +kernel
theorem dX0_tellPayingOff_45 : decode cX0_tellPayingOff 45 = .ok (.invokevirtual 222, 3) := by decide +kernel
theorem dX0_tellPayingOff_48 : decode cX0_tellPayingOff 48 = .ok (.ireturn, 1) := by decide +kernel
theorem dX0_tellPayingOff_49 : decode cX0_tellPayingOff 49 = .ok (.aload_n 0, 1) := by decide +kernel
theorem dX0_tellPayingOff_50 : decode cX0_tellPayingOff 50 = .ok (.invokevirtual 225, 3) := by decide +kernel
theorem dX0_tellPayingOff_53 : decode cX0_tellPayingOff 53 = .ok (.ireturn, 1) := by decide +kernel
theorem dX0_tellPayingOff_54 : decode cX0_tellPayingOff 54 = .ok (.aload_n 0, 1) := by decide +kernel
theorem dX0_tellPayingOff_55 : decode cX0_tellPayingOff 55 = .ok (.invokevirtual 228, 3) := by decide +kernel
theorem dX0_tellPayingOff_58 : decode cX0_tellPayingOff 58 = .ok (.ireturn, 1) := by decide +kernel
theorem dX0_tellPayingOff_59 : decode cX0_tellPayingOff 59 = .ok (.ldc 84, 2) := by decide +kernel
theorem dX0_tellPayingOff_61 : decode cX0_tellPayingOff 61 = .ok (.ireturn, 1) := by decide +kernel
theorem dX0_wouldBePaid_0 : decode cX0_wouldBePaid 0 = .ok (.iconst 0, 1) := by decide +kernel
theorem dX0_wouldBePaid_1 : decode cX0_wouldBePaid 1 = .ok (.istore_n 1, 1) := by decide +kernel
theorem dX0_wouldBePaid_2 : decode cX0_wouldBePaid 2 = .ok (.iconst 0, 1) := by decide +kernel
theorem dX0_wouldBePaid_3 : decode cX0_wouldBePaid 3 = .ok (.istore_n 2, 1) := by decide +kernel
theorem dX0_wouldBePaid_4 : decode cX0_wouldBePaid 4 = .ok (.iload_n 2, 1) := by decide +kernel
theorem dX0_wouldBePaid_5 : decode cX0_wouldBePaid 5 = .ok (.aload_n 0, 1) := by decide +kernel
theorem dX0_wouldBePaid_6 : decode cX0_wouldBePaid 6 = .ok (.getfield 63, 3) := by decide +kernel
theorem dX0_wouldBePaid_9 : decode cX0_wouldBePaid 9 = .ok (.if_icmp .ge 34, 3) := by decide +kernel
theorem dX0_wouldBePaid_12 : decode cX0_wouldBePaid 12 = .ok (.iload_n 2, 1) := by decide +kernel
theorem dX0_wouldBePaid_13 : decode cX0_wouldBePaid 13 = .ok (.aload_n 0, 1) := by decide +kernel
theorem dX0_wouldBePaid_14 : decode cX0_wouldBePaid 14 = .ok (.getfield 11, 3) := by decide +kernel
theorem dX0_wouldBePaid_17 : decode cX0_wouldBePaid 17 = .ok (.arraylength, 1) := by decide +kernel
theorem dX0_wouldBePaid_18 : decode cX0_wouldBePaid 18 = .ok (.if_icmp .ge 25, 3) := by decide +kernel
theorem dX0_wouldBePaid_21 : decode cX0_wouldBePaid 21 = .ok (.iload_n 1, 1) := by decide +kernel
theorem dX0_wouldBePaid_22 : decode cX0_wouldBePaid 22 = .ok (.iconst 0, 1) := by decide +kernel
theorem dX0_wouldBePaid_23 : decode cX0_wouldBePaid 23 = .ok (.aload_n 0, 1) := by decide +kernel
theorem dX0_wouldBePaid_24 : decode cX0_wouldBePaid 24 = .ok (.getfield 11, 3) := by decide +kernel
theorem dX0_wouldBePaid_27 : decode cX0_wouldBePaid 27 = .ok (.iload_n 2, 1) := by decide +kernel
theorem dX0_wouldBePaid_28 : decode cX0_wouldBePaid 28 = .ok (.aaload, 1) := by decide +kernel
theorem dX0_wouldBePaid_29 : decode cX0_wouldBePaid 29 = .ok (.invokevirtual 139, 3) := by decide +kernel
theorem dX0_wouldBePaid_32 : decode cX0_wouldBePaid 32 = .ok (.invokestatic 231, 3) := by decide +kernel
theorem dX0_wouldBePaid_35 : decode cX0_wouldBePaid 35 = .ok (.iadd, 1) := by decide +kernel
theorem dX0_wouldBePaid_36 : decode cX0_wouldBePaid 36 = .ok (.istore_n 1, 1) := by decide +kernel
theorem dX0_wouldBePaid_37 : decode cX0_wouldBePaid 37 = .ok (.iinc 2 1, 3) := by decide +kernel
theorem dX0_wouldBePaid_40 : decode cX0_wouldBePaid 40 = .ok (.goto (-36), 3) := by decide +kernel
theorem dX0_wouldBePaid_43 : decode cX0_wouldBePaid 43 = .ok (.iload_n 1, 1) := by decide +kernel
theorem dX0_wouldBePaid_44 : decode cX0_wouldBePaid 44 = .ok (.ireturn, 1) := by decide +kernel
theorem dX0_debtsTogether_0 : decode cX0_debtsTogether 0 = .ok (.iconst 0, 1) := by decide +kernel
theorem dX0_debtsTogether_1 : decode cX0_debtsTogether 1 = .ok (.istore_n 1, 1) := by decide +kernel
theorem dX0_debtsTogether_2 : decode cX0_debtsTogether 2 = .ok (.iconst 0, 1) := by decide +kernel
theorem dX0_debtsTogether_3 : decode cX0_debtsTogether 3 = .ok (.istore_n 2, 1) := by decide +kernel
theorem dX0_debtsTogether_4 : decode cX0_debtsTogether 4 = .ok (.iload_n 2, 1) := by decide +kernel
theorem dX0_debtsTogether_5 : decode cX0_debtsTogether 5 = .ok (.aload_n 0, 1) := by decide +kernel
theorem dX0_debtsTogether_6 : decode cX0_debtsTogether 6 = .ok (.getfield 63, 3) := by decide +kernel
theorem dX0_debtsTogether_9 : decode cX0_debtsTogether 9 = .ok (.if_icmp .ge 35, 3) := by decide +kernel
theorem dX0_debtsTogether_12 : decode cX0_debtsTogether 12 = .ok (.iload_n 2, 1) := by decide +kernel
theorem dX0_debtsTogether_13 : decode cX0_debtsTogether 13 = .ok (.aload_n 0, 1) := by decide +kernel
theorem dX0_debtsTogether_14 : decode cX0_debtsTogether 14 = .ok (.getfield 11, 3) := by decide +kernel
theorem dX0_debtsTogether_17 : decode cX0_debtsTogether 17 = .ok (.arraylength, 1) := by decide +kernel
theorem dX0_debtsTogether_18 : decode cX0_debtsTogether 18 = .ok (.if_icmp .ge 26, 3) := by decide +kernel
theorem dX0_debtsTogether_21 : decode cX0_debtsTogether 21 = .ok (.iload_n 1, 1) := by decide +kernel
theorem dX0_debtsTogether_22 : decode cX0_debtsTogether 22 = .ok (.iconst 0, 1) := by decide +kernel
theorem dX0_debtsTogether_23 : decode cX0_debtsTogether 23 = .ok (.aload_n 0, 1) := by decide +kernel
theorem dX0_debtsTogether_24 : decode cX0_debtsTogether 24 = .ok (.getfield 11, 3) := by decide +kernel
theorem dX0_debtsTogether_27 : decode cX0_debtsTogether 27 = .ok (.iload_n 2, 1) := by decide +kernel
theorem dX0_debtsTogether_28 : decode cX0_debtsTogether 28 = .ok (.aaload, 1) := by decide +kernel
theorem dX0_debtsTogether_29 : decode cX0_debtsTogether 29 = .ok (.invokevirtual 139, 3) := by decide +kernel
theorem dX0_debtsTogether_32 : decode cX0_debtsTogether 32 = .ok (.ineg, 1) := by decide +kernel
theorem dX0_debtsTogether_33 : decode cX0_debtsTogether 33 = .ok (.invokestatic 231, 3) := by decide +kernel
theorem dX0_debtsTogether_36 : decode cX0_debtsTogether 36 = .ok (.iadd, 1) := by decide +kernel
theorem dX0_debtsTogether_37 : decode cX0_debtsTogether 37 = .ok (.istore_n 1, 1) := by decide +kernel
theorem dX0_debtsTogether_38 : decode cX0_debtsTogether 38 = .ok (.iinc 2 1, 3) := by decide +kernel
theorem dX0_debtsTogether_41 : decode cX0_debtsTogether 41 = .ok (.goto (-37), 3) := by decide +kernel
theorem dX0_debtsTogether_44 : decode cX0_debtsTogether 44 = .ok (.iload_n 1, 1) := by decide +kernel
theorem dX0_debtsTogether_45 : decode cX0_debtsTogether 45 = .ok (.ireturn, 1) := by decide +kernel
theorem dX0_setOfDebtors_0 : decode cX0_setOfDebtors 0 = .ok (.iconst 0, 1) := by decide +kernel
theorem dX0_setOfDebtors_1 : decode cX0_setOfDebtors 1 = .ok (.istore_n 1, 1) := by decide +kernel
theorem dX0_setOfDebtors_2 : decode cX0_setOfDebtors 2 = .ok (.iconst 0, 1) := by decide +kernel
theorem dX0_setOfDebtors_3 : decode cX0_setOfDebtors 3 = .ok (.istore_n 2, 1) := by decide +kernel
theorem dX0_setOfDebtors_4 : decode cX0_setOfDebtors 4 = .ok (.iload_n 2, 1) := by decide +kernel
theorem dX0_setOfDebtors_5 : decode cX0_setOfDebtors 5 = .ok (.aload_n 0, 1) := by decide +kernel
theorem dX0_setOfDebtors_6 : decode cX0_setOfDebtors 6 = .ok (.getfield 63, 3) := by decide +kernel
theorem dX0_setOfDebtors_9 : decode cX0_setOfDebtors 9 = .ok (.if_icmp .ge 36, 3) := by decide +kernel
theorem dX0_setOfDebtors_12 : decode cX0_setOfDebtors 12 = .ok (.iload_n 2, 1) := by decide +kernel
theorem dX0_setOfDebtors_13 : decode cX0_setOfDebtors 13 = .ok (.aload_n 0, 1) := by decide +kernel
theorem dX0_setOfDebtors_14 : decode cX0_setOfDebtors 14 = .ok (.getfield 11, 3) := by decide +kernel
theorem dX0_setOfDebtors_17 : decode cX0_setOfDebtors 17 = .ok (.arraylength, 1) := by decide +kernel
theorem dX0_setOfDebtors_18 : decode cX0_setOfDebtors 18 = .ok (.if_icmp .ge 27, 3) := by decide +kernel
theorem dX0_setOfDebtors_21 : decode cX0_setOfDebtors 21 = .ok (.aload_n 0, 1) := by decide +kernel
theorem dX0_setOfDebtors_22 : decode cX0_setOfDebtors 22 = .ok (.getfield 11, 3) := by decide +kernel
theorem dX0_setOfDebtors_25 : decode cX0_setOfDebtors 25 = .ok (.iload_n 2, 1) := by decide +kernel
theorem dX0_setOfDebtors_26 : decode cX0_setOfDebtors 26 = .ok (.aaload, 1) := by decide +kernel
theorem dX0_setOfDebtors_27 : decode cX0_setOfDebtors 27 = .ok (.invokevirtual 139, 3) := by decide +kernel
theorem dX0_setOfDebtors_30 : decode cX0_setOfDebtors 30 = .ok (.ifCond .ge 9, 3) := by decide +kernel
theorem dX0_setOfDebtors_33 : decode cX0_setOfDebtors 33 = .ok (.iload_n 1, 1) := by decide +kernel
theorem dX0_setOfDebtors_34 : decode cX0_setOfDebtors 34 = .ok (.iconst 1, 1) := by decide +kernel
theorem dX0_setOfDebtors_35 : decode cX0_setOfDebtors 35 = .ok (.iload_n 2, 1) := by decide +kernel
theorem dX0_setOfDebtors_36 : decode cX0_setOfDebtors 36 = .ok (.ishl, 1) := by decide +kernel
theorem dX0_setOfDebtors_37 : decode cX0_setOfDebtors 37 = .ok (.ior, 1) := by decide +kernel
theorem dX0_setOfDebtors_38 : decode cX0_setOfDebtors 38 = .ok (.istore_n 1, 1) := by decide +kernel
theorem dX0_setOfDebtors_39 : decode cX0_setOfDebtors 39 = .ok (.iinc 2 1, 3) := by decide +kernel
theorem dX0_setOfDebtors_42 : decode cX0_setOfDebtors 42 = .ok (.goto (-38), 3) := by decide +kernel
theorem dX0_setOfDebtors_45 : decode cX0_setOfDebtors 45 = .ok (.iload_n 1, 1) := by decide +kernel
theorem dX0_setOfDebtors_46 : decode cX0_setOfDebtors 46 = .ok (.ireturn, 1) := by decide +kernel
theorem dX0_setOf_0 : decode cX0_setOf 0 = .ok (.iconst 0, 1) := by decide +kernel
theorem dX0_setOf_1 : decode cX0_setOf 1 = .ok (.istore_n 2, 1) := by decide +kernel
theorem dX0_setOf_2 : decode cX0_setOf 2 = .ok (.iconst 0, 1) := by decide +kernel
theorem dX0_setOf_3 : decode cX0_setOf 3 = .ok (.istore_n 3, 1) := by decide +kernel
theorem dX0_setOf_4 : decode cX0_setOf 4 = .ok (.iload_n 3, 1) := by decide +kernel
theorem dX0_setOf_5 : decode cX0_setOf 5 = .ok (.aload_n 0, 1) := by decide +kernel
theorem dX0_setOf_6 : decode cX0_setOf 6 = .ok (.getfield 63, 3) := by decide +kernel
theorem dX0_setOf_9 : decode cX0_setOf 9 = .ok (.if_icmp .ge 37, 3) := by decide +kernel
theorem dX0_setOf_12 : decode cX0_setOf 12 = .ok (.iload_n 3, 1) := by decide +kernel
theorem dX0_setOf_13 : decode cX0_setOf 13 = .ok (.aload_n 0, 1) := by decide +kernel
theorem dX0_setOf_14 : decode cX0_setOf 14 = .ok (.getfield 11, 3) := by decide +kernel
theorem dX0_setOf_17 : decode cX0_setOf 17 = .ok (.arraylength, 1) := by decide +kernel
theorem dX0_setOf_18 : decode cX0_setOf 18 = .ok (.if_icmp .ge 28, 3) := by decide +kernel
theorem dX0_setOf_21 : decode cX0_setOf 21 = .ok (.aload_n 0, 1) := by decide +kernel
theorem dX0_setOf_22 : decode cX0_setOf 22 = .ok (.getfield 11, 3) := by decide +kernel
theorem dX0_setOf_25 : decode cX0_setOf 25 = .ok (.iload_n 3, 1) := by decide +kernel
theorem dX0_setOf_26 : decode cX0_setOf 26 = .ok (.aaload, 1) := by decide +kernel
theorem dX0_setOf_27 : decode cX0_setOf 27 = .ok (.getfield 136, 3) := by decide +kernel
theorem dX0_setOf_30 : decode cX0_setOf 30 = .ok (.iload_n 1, 1) := by decide +kernel
theorem dX0_setOf_31 : decode cX0_setOf 31 = .ok (.if_icmp .ne 9, 3) := by decide +kernel
theorem dX0_setOf_34 : decode cX0_setOf 34 = .ok (.iload_n 2, 1) := by decide +kernel
theorem dX0_setOf_35 : decode cX0_setOf 35 = .ok (.iconst 1, 1) := by decide +kernel
theorem dX0_setOf_36 : decode cX0_setOf 36 = .ok (.iload_n 3, 1) := by decide +kernel
theorem dX0_setOf_37 : decode cX0_setOf 37 = .ok (.ishl, 1) := by decide +kernel
theorem dX0_setOf_38 : decode cX0_setOf 38 = .ok (.ior, 1) := by decide +kernel
theorem dX0_setOf_39 : decode cX0_setOf 39 = .ok (.istore_n 2, 1) := by decide +kernel
theorem dX0_setOf_40 : decode cX0_setOf 40 = .ok (.iinc 3 1, 3) := by decide +kernel
theorem dX0_setOf_43 : decode cX0_setOf 43 = .ok (.goto (-39), 3) := by decide +kernel
theorem dX0_setOf_46 : decode cX0_setOf 46 = .ok (.iload_n 2, 1) := by decide +kernel
theorem dX0_setOf_47 : decode cX0_setOf 47 = .ok (.ireturn, 1) := by decide +kernel
theorem dX0_sailorByBalance_0 : decode cX0_sailorByBalance 0 = .ok (.iload_n 1, 1) := by decide +kernel
theorem dX0_sailorByBalance_1 : decode cX0_sailorByBalance 1 = .ok (.ifCond .ge 6, 3) := by decide +kernel
theorem dX0_sailorByBalance_4 : decode cX0_sailorByBalance 4 = .ok (.ldc 84, 2) := by decide +kernel
theorem dX0_sailorByBalance_6 : decode cX0_sailorByBalance 6 = .ok (.ireturn, 1) := by decide +kernel
theorem dX0_sailorByBalance_7 : decode cX0_sailorByBalance 7 = .ok (.iconst 0, 1) := by decide +kernel
theorem dX0_sailorByBalance_8 : decode cX0_sailorByBalance 8 = .ok (.istore_n 2, 1) := by decide +kernel
theorem dX0_sailorByBalance_9 : decode cX0_sailorByBalance 9 = .ok (.iload_n 2, 1) := by decide +kernel
theorem dX0_sailorByBalance_10 : decode cX0_sailorByBalance 10 = .ok (.aload_n 0, 1) := by decide +kernel
theorem dX0_sailorByBalance_11 : decode cX0_sailorByBalance 11 = .ok (.getfield 63, 3) := by decide +kernel
theorem dX0_sailorByBalance_14 : decode cX0_sailorByBalance 14 = .ok (.if_icmp .ge 50, 3) := by decide +kernel
theorem dX0_sailorByBalance_17 : decode cX0_sailorByBalance 17 = .ok (.iload_n 2, 1) := by decide +kernel
theorem dX0_sailorByBalance_18 : decode cX0_sailorByBalance 18 = .ok (.aload_n 0, 1) := by decide +kernel
theorem dX0_sailorByBalance_19 : decode cX0_sailorByBalance 19 = .ok (.getfield 11, 3) := by decide +kernel
theorem dX0_sailorByBalance_22 : decode cX0_sailorByBalance 22 = .ok (.arraylength, 1) := by decide +kernel
theorem dX0_sailorByBalance_23 : decode cX0_sailorByBalance 23 = .ok (.if_icmp .ge 41, 3) := by decide +kernel
theorem dX0_sailorByBalance_26 : decode cX0_sailorByBalance 26 = .ok (.aload_n 0, 1) := by decide +kernel
theorem dX0_sailorByBalance_27 : decode cX0_sailorByBalance 27 = .ok (.getfield 11, 3) := by decide +kernel
theorem dX0_sailorByBalance_30 : decode cX0_sailorByBalance 30 = .ok (.iload_n 2, 1) := by decide +kernel
theorem dX0_sailorByBalance_31 : decode cX0_sailorByBalance 31 = .ok (.aaload, 1) := by decide +kernel
theorem dX0_sailorByBalance_32 : decode cX0_sailorByBalance 32 = .ok (.invokevirtual 149, 3) := by decide +kernel
theorem dX0_sailorByBalance_35 : decode cX0_sailorByBalance 35 = .ok (.ifCond .ne 23, 3) := by decide +kernel
theorem dX0_sailorByBalance_38 : decode cX0_sailorByBalance 38 = .ok (.aload_n 0, 1) := by decide +kernel
theorem dX0_sailorByBalance_39 : decode cX0_sailorByBalance 39 = .ok (.iload_n 2, 1) := by decide +kernel
theorem dX0_sailorByBalance_40 : decode cX0_sailorByBalance 40 = .ok (.aload_n 0, 1) := by decide +kernel
theorem dX0_sailorByBalance_41 : decode cX0_sailorByBalance 41 = .ok (.getfield 11, 3) := by decide +kernel
theorem dX0_sailorByBalance_44 : decode cX0_sailorByBalance 44 = .ok (.iload_n 2, 1) := by decide +kernel
theorem dX0_sailorByBalance_45 : decode cX0_sailorByBalance 45 = .ok (.aaload, 1) := by decide +kernel
theorem dX0_sailorByBalance_46 : decode cX0_sailorByBalance 46 = .ok (.invokevirtual 139, 3) := by decide +kernel
theorem dX0_sailorByBalance_49 : decode cX0_sailorByBalance 49 = .ok (.invokevirtual 234, 3) := by decide +kernel
theorem dX0_sailorByBalance_52 : decode cX0_sailorByBalance 52 = .ok (.iload_n 1, 1) := by decide +kernel
theorem dX0_sailorByBalance_53 : decode cX0_sailorByBalance 53 = .ok (.if_icmp .ne 5, 3) := by decide +kernel
theorem dX0_sailorByBalance_56 : decode cX0_sailorByBalance 56 = .ok (.iload_n 2, 1) := by decide +kernel
theorem dX0_sailorByBalance_57 : decode cX0_sailorByBalance 57 = .ok (.ireturn, 1) := by decide +kernel
theorem dX0_sailorByBalance_58 : decode cX0_sailorByBalance 58 = .ok (.iinc 2 1, 3) := by decide +kernel
theorem dX0_sailorByBalance_61 : decode cX0_sailorByBalance 61 = .ok (.goto (-52), 3) := by decide +kernel
theorem dX0_sailorByBalance_64 : decode cX0_sailorByBalance 64 = .ok (.ldc 218, 2) := by decide +kernel
theorem dX0_sailorByBalance_66 : decode cX0_sailorByBalance 66 = .ok (.ireturn, 1) := by decide +kernel
theorem dX0_poorerThan_0 : decode cX0_poorerThan 0 = .ok (.iconst 0, 1) := by decide +kernel
theorem dX0_poorerThan_1 : decode cX0_poorerThan 1 = .ok (.istore_n 3, 1) := by decide +kernel
theorem dX0_poorerThan_2 : decode cX0_poorerThan 2 = .ok (.iconst 0, 1) := by decide +kernel
theorem dX0_poorerThan_3 : decode cX0_poorerThan 3 = .ok (.istore 4, 2) := by decide +kernel
theorem dX0_poorerThan_5 : decode cX0_poorerThan 5 = .ok (.iload 4, 2) := by decide +kernel
theorem dX0_poorerThan_7 : decode cX0_poorerThan 7 = .ok (.aload_n 0, 1) := by decide +kernel
theorem dX0_poorerThan_8 : decode cX0_poorerThan 8 = .ok (.getfield 63, 3) := by decide +kernel
theorem dX0_poorerThan_11 : decode cX0_poorerThan 11 = .ok (.if_icmp .ge 65, 3) := by decide +kernel
theorem dX0_poorerThan_14 : decode cX0_poorerThan 14 = .ok (.iload 4, 2) := by decide +kernel
theorem dX0_poorerThan_16 : decode cX0_poorerThan 16 = .ok (.aload_n 0, 1) := by decide +kernel
theorem dX0_poorerThan_17 : decode cX0_poorerThan 17 = .ok (.getfield 11, 3) := by decide +kernel
theorem dX0_poorerThan_20 : decode cX0_poorerThan 20 = .ok (.arraylength, 1) := by decide +kernel
theorem dX0_poorerThan_21 : decode cX0_poorerThan 21 = .ok (.if_icmp .ge 55, 3) := by decide +kernel
theorem dX0_poorerThan_24 : decode cX0_poorerThan 24 = .ok (.aload_n 0, 1) := by decide +kernel
theorem dX0_poorerThan_25 : decode cX0_poorerThan 25 = .ok (.getfield 11, 3) := by decide +kernel
theorem dX0_poorerThan_28 : decode cX0_poorerThan 28 = .ok (.iload 4, 2) := by decide +kernel
theorem dX0_poorerThan_30 : decode cX0_poorerThan 30 = .ok (.aaload, 1) := by decide +kernel
theorem dX0_poorerThan_31 : decode cX0_poorerThan 31 = .ok (.invokevirtual 139, 3) := by decide +kernel
theorem dX0_poorerThan_34 : decode cX0_poorerThan 34 = .ok (.istore 5, 2) := by decide +kernel
theorem dX0_poorerThan_36 : decode cX0_poorerThan 36 = .ok (.aload_n 0, 1) := by decide +kernel
theorem dX0_poorerThan_37 : decode cX0_poorerThan 37 = .ok (.getfield 11, 3) := by decide +kernel
theorem dX0_poorerThan_40 : decode cX0_poorerThan 40 = .ok (.iload 4, 2) := by decide +kernel
theorem dX0_poorerThan_42 : decode cX0_poorerThan 42 = .ok (.aaload, 1) := by decide +kernel
theorem dX0_poorerThan_43 : decode cX0_poorerThan 43 = .ok (.invokevirtual 149, 3) := by decide +kernel
theorem dX0_poorerThan_46 : decode cX0_poorerThan 46 = .ok (.ifCond .ne 24, 3) := by decide +kernel
theorem dX0_poorerThan_49 : decode cX0_poorerThan 49 = .ok (.iload 5, 2) := by decide +kernel
theorem dX0_poorerThan_51 : decode cX0_poorerThan 51 = .ok (.iload_n 2, 1) := by decide +kernel
theorem dX0_poorerThan_52 : decode cX0_poorerThan 52 = .ok (.if_icmp .lt 15, 3) := by decide +kernel
theorem dX0_poorerThan_55 : decode cX0_poorerThan 55 = .ok (.iload 5, 2) := by decide +kernel
theorem dX0_poorerThan_57 : decode cX0_poorerThan 57 = .ok (.iload_n 2, 1) := by decide +kernel
theorem dX0_poorerThan_58 : decode cX0_poorerThan 58 = .ok (.if_icmp .ne 12, 3) := by decide +kernel
theorem dX0_poorerThan_61 : decode cX0_poorerThan 61 = .ok (.iload 4, 2) := by decide +kernel
theorem dX0_poorerThan_63 : decode cX0_poorerThan 63 = .ok (.iload_n 1, 1) := by decide +kernel
theorem dX0_poorerThan_64 : decode cX0_poorerThan 64 = .ok (.if_icmp .ge 6, 3) := by decide +kernel
theorem dX0_poorerThan_67 : decode cX0_poorerThan 67 = .ok (.iinc 3 1, 3) := by decide +kernel
theorem dX0_poorerThan_70 : decode cX0_poorerThan 70 = .ok (.iinc 4 1, 3) := by decide +kernel
theorem dX0_poorerThan_73 : decode cX0_poorerThan 73 = .ok (.goto (-68), 3) := by decide +kernel
theorem dX0_poorerThan_76 : decode cX0_poorerThan 76 = .ok (.iload_n 3, 1) := by decide +kernel
theorem dX0_poorerThan_77 : decode cX0_poorerThan 77 = .ok (.ireturn, 1) := by decide +kernel
theorem dX0_chargedShare_0 : decode cX0_chargedShare 0 = .ok (.iconst 0, 1) := by decide +kernel
theorem dX0_chargedShare_1 : decode cX0_chargedShare 1 = .ok (.istore_n 1, 1) := by decide +kernel
theorem dX0_chargedShare_2 : decode cX0_chargedShare 2 = .ok (.iconst 0, 1) := by decide +kernel
theorem dX0_chargedShare_3 : decode cX0_chargedShare 3 = .ok (.istore_n 2, 1) := by decide +kernel
theorem dX0_chargedShare_4 : decode cX0_chargedShare 4 = .ok (.iconst 0, 1) := by decide +kernel
theorem dX0_chargedShare_5 : decode cX0_chargedShare 5 = .ok (.istore_n 3, 1) := by decide +kernel
theorem dX0_chargedShare_6 : decode cX0_chargedShare 6 = .ok (.iload_n 3, 1) := by decide +kernel
theorem dX0_chargedShare_7 : decode cX0_chargedShare 7 = .ok (.aload_n 0, 1) := by decide +kernel
theorem dX0_chargedShare_8 : decode cX0_chargedShare 8 = .ok (.getfield 63, 3) := by decide +kernel
theorem dX0_chargedShare_11 : decode cX0_chargedShare 11 = .ok (.if_icmp .ge 42, 3) := by decide +kernel
theorem dX0_chargedShare_14 : decode cX0_chargedShare 14 = .ok (.iload_n 3, 1) := by decide +kernel
theorem dX0_chargedShare_15 : decode cX0_chargedShare 15 = .ok (.aload_n 0, 1) := by decide +kernel
theorem dX0_chargedShare_16 : decode cX0_chargedShare 16 = .ok (.getfield 11, 3) := by decide +kernel
theorem dX0_chargedShare_19 : decode cX0_chargedShare 19 = .ok (.arraylength, 1) := by decide +kernel
theorem dX0_chargedShare_20 : decode cX0_chargedShare 20 = .ok (.if_icmp .ge 33, 3) := by decide +kernel
theorem dX0_chargedShare_23 : decode cX0_chargedShare 23 = .ok (.iload_n 1, 1) := by decide +kernel
theorem dX0_chargedShare_24 : decode cX0_chargedShare 24 = .ok (.aload_n 0, 1) := by decide +kernel
theorem dX0_chargedShare_25 : decode cX0_chargedShare 25 = .ok (.getfield 11, 3) := by decide +kernel
theorem dX0_chargedShare_28 : decode cX0_chargedShare 28 = .ok (.iload_n 3, 1) := by decide +kernel
theorem dX0_chargedShare_29 : decode cX0_chargedShare 29 = .ok (.aaload, 1) := by decide +kernel
theorem dX0_chargedShare_30 : decode cX0_chargedShare 30 = .ok (.invokevirtual 237, 3) := by decide +kernel
theorem dX0_chargedShare_33 : decode cX0_chargedShare 33 = .ok (.iadd, 1) := by decide +kernel
theorem dX0_chargedShare_34 : decode cX0_chargedShare 34 = .ok (.istore_n 1, 1) := by decide +kernel
theorem dX0_chargedShare_35 : decode cX0_chargedShare 35 = .ok (.iload_n 2, 1) := by decide +kernel
theorem dX0_chargedShare_36 : decode cX0_chargedShare 36 = .ok (.aload_n 0, 1) := by decide +kernel
theorem dX0_chargedShare_37 : decode cX0_chargedShare 37 = .ok (.getfield 11, 3) := by decide +kernel
theorem dX0_chargedShare_40 : decode cX0_chargedShare 40 = .ok (.iload_n 3, 1) := by decide +kernel
theorem dX0_chargedShare_41 : decode cX0_chargedShare 41 = .ok (.aaload, 1) := by decide +kernel
theorem dX0_chargedShare_42 : decode cX0_chargedShare 42 = .ok (.invokevirtual 212, 3) := by decide +kernel
theorem dX0_chargedShare_45 : decode cX0_chargedShare 45 = .ok (.iadd, 1) := by decide +kernel
theorem dX0_chargedShare_46 : decode cX0_chargedShare 46 = .ok (.istore_n 2, 1) := by decide +kernel
theorem dX0_chargedShare_47 : decode cX0_chargedShare 47 = .ok (.iinc 3 1, 3) := by decide +kernel
theorem dX0_chargedShare_50 : decode cX0_chargedShare 50 = .ok (.goto (-44), 3) := by decide +kernel
theorem dX0_chargedShare_53 : decode cX0_chargedShare 53 = .ok (.iload_n 1, 1) := by decide +kernel
theorem dX0_chargedShare_54 : decode cX0_chargedShare 54 = .ok (.ifCond .gt 8, 3) := by decide +kernel
theorem dX0_chargedShare_57 : decode cX0_chargedShare 57 = .ok (.ldc 218, 2) := by decide +kernel
theorem dX0_chargedShare_59 : decode cX0_chargedShare 59 = .ok (.goto 11, 3) := by decide +kernel
theorem dX0_chargedShare_62 : decode cX0_chargedShare 62 = .ok (.iload_n 2, 1) := by decide +kernel
theorem dX0_chargedShare_63 : decode cX0_chargedShare 63 = .ok (.i2f, 1) := by decide +kernel
theorem dX0_chargedShare_64 : decode cX0_chargedShare 64 = .ok (.iload_n 1, 1) := by decide +kernel
theorem dX0_chargedShare_65 : decode cX0_chargedShare 65 = .ok (.i2f, 1) := by decide +kernel
theorem dX0_chargedShare_66 : decode cX0_chargedShare 66 = .ok (.fdiv, 1) := by decide +kernel
theorem dX0_chargedShare_67 : decode cX0_chargedShare 67 = .ok (.invokestatic 240, 3) := by decide +kernel
theorem dX0_chargedShare_70 : decode cX0_chargedShare 70 = .ok (.ireturn, 1) := by decide +kernel
theorem dX0_tell_0 : decode cX0_tell 0 = .ok (.iload_n 1, 1) := by decide +kernel
theorem dX0_tell_1 : decode cX0_tell 1 = .ok (.tableswitch 184 0 22 #[107, 112, 125, 130, 135, 140, 146, 152, 184, 184, 184, 184, 184, 184, 184, 184, 158, 184, 184, 184, 166, 172, 178], 107) := by decide +kernel
theorem dX0_tell_108 : decode cX0_tell 108 = .ok (.aload_n 0, 1) := by decide +kernel
theorem dX0_tell_109 : decode cX0_tell 109 = .ok (.getfield 67, 3) := by decide +kernel
theorem dX0_tell_112 : decode cX0_tell 112 = .ok (.ireturn, 1) := by decide +kernel
theorem dX0_tell_113 : decode cX0_tell 113 = .ok (.aload_n 0, 1) := by decide +kernel
theorem dX0_tell_114 : decode cX0_tell 114 = .ok (.getfield 76, 3) := by decide +kernel
theorem dX0_tell_117 : decode cX0_tell 117 = .ok (.ifCond .eq 7, 3) := by decide +kernel
theorem dX0_tell_120 : decode cX0_tell 120 = .ok (.iconst 1, 1) := by decide +kernel
theorem dX0_tell_121 : decode cX0_tell 121 = .ok (.goto 4, 3) := by decide +kernel
theorem dX0_tell_124 : decode cX0_tell 124 = .ok (.iconst 0, 1) := by decide +kernel
theorem dX0_tell_125 : decode cX0_tell 125 = .ok (.ireturn, 1) := by decide +kernel
theorem dX0_tell_126 : decode cX0_tell 126 = .ok (.aload_n 0, 1) := by decide +kernel
theorem dX0_tell_127 : decode cX0_tell 127 = .ok (.getfield 70, 3) := by decide +kernel
theorem dX0_tell_130 : decode cX0_tell 130 = .ok (.ireturn, 1) := by decide +kernel
theorem dX0_tell_131 : decode cX0_tell 131 = .ok (.aload_n 0, 1) := by decide +kernel
theorem dX0_tell_132 : decode cX0_tell 132 = .ok (.getfield 73, 3) := by decide +kernel
theorem dX0_tell_135 : decode cX0_tell 135 = .ok (.ireturn, 1) := by decide +kernel
theorem dX0_tell_136 : decode cX0_tell 136 = .ok (.aload_n 0, 1) := by decide +kernel
theorem dX0_tell_137 : decode cX0_tell 137 = .ok (.getfield 63, 3) := by decide +kernel
theorem dX0_tell_140 : decode cX0_tell 140 = .ok (.ireturn, 1) := by decide +kernel
theorem dX0_tell_141 : decode cX0_tell 141 = .ok (.aload_n 0, 1) := by decide +kernel
theorem dX0_tell_142 : decode cX0_tell 142 = .ok (.iconst 0, 1) := by decide +kernel
theorem dX0_tell_143 : decode cX0_tell 143 = .ok (.invokevirtual 183, 3) := by decide +kernel
theorem dX0_tell_146 : decode cX0_tell 146 = .ok (.ireturn, 1) := by decide +kernel
theorem dX0_tell_147 : decode cX0_tell 147 = .ok (.aload_n 0, 1) := by decide +kernel
theorem dX0_tell_148 : decode cX0_tell 148 = .ok (.iconst 1, 1) := by decide +kernel
theorem dX0_tell_149 : decode cX0_tell 149 = .ok (.invokevirtual 183, 3) := by decide +kernel
theorem dX0_tell_152 : decode cX0_tell 152 = .ok (.ireturn, 1) := by decide +kernel
theorem dX0_tell_153 : decode cX0_tell 153 = .ok (.aload_n 0, 1) := by decide +kernel
theorem dX0_tell_154 : decode cX0_tell 154 = .ok (.iconst 2, 1) := by decide +kernel
theorem dX0_tell_155 : decode cX0_tell 155 = .ok (.invokevirtual 183, 3) := by decide +kernel
theorem dX0_tell_158 : decode cX0_tell 158 = .ok (.ireturn, 1) := by decide +kernel
theorem dX0_tell_159 : decode cX0_tell 159 = .ok (.aload_n 0, 1) := by decide +kernel
theorem dX0_tell_160 : decode cX0_tell 160 = .ok (.getfield 39, 3) := by decide +kernel
theorem dX0_tell_163 : decode cX0_tell 163 = .ok (.getfield 244, 3) := by decide +kernel
theorem dX0_tell_166 : decode cX0_tell 166 = .ok (.ireturn, 1) := by decide +kernel
theorem dX0_tell_167 : decode cX0_tell 167 = .ok (.aload_n 0, 1) := by decide +kernel
theorem dX0_tell_168 : decode cX0_tell 168 = .ok (.iconst 0, 1) := by decide +kernel
theorem dX0_tell_169 : decode cX0_tell 169 = .ok (.invokevirtual 105, 3) := by decide +kernel
theorem dX0_tell_172 : decode cX0_tell 172 = .ok (.ireturn, 1) := by decide +kernel
theorem dX0_tell_173 : decode cX0_tell 173 = .ok (.aload_n 0, 1) := by decide +kernel
theorem dX0_tell_174 : decode cX0_tell 174 = .ok (.iconst 1, 1) := by decide +kernel
theorem dX0_tell_175 : decode cX0_tell 175 = .ok (.invokevirtual 105, 3) := by decide +kernel
theorem dX0_tell_178 : decode cX0_tell 178 = .ok (.ireturn, 1) := by decide +kernel
theorem dX0_tell_179 : decode cX0_tell 179 = .ok (.aload_n 0, 1) := by decide +kernel
theorem dX0_tell_180 : decode cX0_tell 180 = .ok (.iconst 2, 1) := by decide +kernel
theorem dX0_tell_181 : decode cX0_tell 181 = .ok (.invokevirtual 105, 3) := by decide +kernel
theorem dX0_tell_184 : decode cX0_tell 184 = .ok (.ireturn, 1) := by decide +kernel
theorem dX0_tell_185 : decode cX0_tell 185 = .ok (.aload_n 0, 1) := by decide +kernel
theorem dX0_tell_186 : decode cX0_tell 186 = .ok (.iload_n 1, 1) := by decide +kernel
theorem dX0_tell_187 : decode cX0_tell 187 = .ok (.invokevirtual 247, 3) := by decide +kernel
theorem dX0_tell_190 : decode cX0_tell 190 = .ok (.ireturn, 1) := by decide +kernel
theorem dX0_tellCoins_0 : decode cX0_tellCoins 0 = .ok (.iload_n 1, 1) := by decide +kernel
theorem dX0_tellCoins_1 : decode cX0_tellCoins 1 = .ok (.tableswitch 114 8 15 #[47, 55, 63, 71, 79, 87, 95, 103], 47) := by decide +kernel
theorem dX0_tellCoins_48 : decode cX0_tellCoins 48 = .ok (.aload_n 0, 1) := by decide +kernel
theorem dX0_tellCoins_49 : decode cX0_tellCoins 49 = .ok (.getfield 46, 3) := by decide +kernel
theorem dX0_tellCoins_52 : decode cX0_tellCoins 52 = .ok (.getfield 159, 3) := by decide +kernel
theorem dX0_tellCoins_55 : decode cX0_tellCoins 55 = .ok (.ireturn, 1) := by decide +kernel
theorem dX0_tellCoins_56 : decode cX0_tellCoins 56 = .ok (.aload_n 0, 1) := by decide +kernel
theorem dX0_tellCoins_57 : decode cX0_tellCoins 57 = .ok (.getfield 46, 3) := by decide +kernel
theorem dX0_tellCoins_60 : decode cX0_tellCoins 60 = .ok (.getfield 250, 3) := by decide +kernel
theorem dX0_tellCoins_63 : decode cX0_tellCoins 63 = .ok (.ireturn, 1) := by decide +kernel
theorem dX0_tellCoins_64 : decode cX0_tellCoins 64 = .ok (.aload_n 0, 1) := by decide +kernel
theorem dX0_tellCoins_65 : decode cX0_tellCoins 65 = .ok (.getfield 46, 3) := by decide +kernel
theorem dX0_tellCoins_68 : decode cX0_tellCoins 68 = .ok (.getfield 98, 3) := by decide +kernel
theorem dX0_tellCoins_71 : decode cX0_tellCoins 71 = .ok (.ireturn, 1) := by decide +kernel
theorem dX0_tellCoins_72 : decode cX0_tellCoins 72 = .ok (.aload_n 0, 1) := by decide +kernel
theorem dX0_tellCoins_73 : decode cX0_tellCoins 73 = .ok (.getfield 46, 3) := by decide +kernel
theorem dX0_tellCoins_76 : decode cX0_tellCoins 76 = .ok (.getfield 156, 3) := by decide +kernel
theorem dX0_tellCoins_79 : decode cX0_tellCoins 79 = .ok (.ireturn, 1) := by decide +kernel
theorem dX0_tellCoins_80 : decode cX0_tellCoins 80 = .ok (.aload_n 0, 1) := by decide +kernel
theorem dX0_tellCoins_81 : decode cX0_tellCoins 81 = .ok (.getfield 46, 3) := by decide +kernel
theorem dX0_tellCoins_84 : decode cX0_tellCoins 84 = .ok (.getfield 202, 3) := by decide +kernel
theorem dX0_tellCoins_87 : decode cX0_tellCoins 87 = .ok (.ireturn, 1) := by decide +kernel
theorem dX0_tellCoins_88 : decode cX0_tellCoins 88 = .ok (.aload_n 0, 1) := by decide +kernel
theorem dX0_tellCoins_89 : decode cX0_tellCoins 89 = .ok (.getfield 46, 3) := by decide +kernel
theorem dX0_tellCoins_92 : decode cX0_tellCoins 92 = .ok (.getfield 129, 3) := by decide +kernel
theorem dX0_tellCoins_95 : decode cX0_tellCoins 95 = .ok (.ireturn, 1) := by decide +kernel
theorem dX0_tellCoins_96 : decode cX0_tellCoins 96 = .ok (.aload_n 0, 1) := by decide +kernel
theorem dX0_tellCoins_97 : decode cX0_tellCoins 97 = .ok (.getfield 46, 3) := by decide +kernel
theorem dX0_tellCoins_100 : decode cX0_tellCoins 100 = .ok (.getfield 173, 3) := by decide +kernel
theorem dX0_tellCoins_103 : decode cX0_tellCoins 103 = .ok (.ireturn, 1) := by decide +kernel
theorem dX0_tellCoins_104 : decode cX0_tellCoins 104 = .ok (.ldc 253, 2) := by decide +kernel
theorem dX0_tellCoins_106 : decode cX0_tellCoins 106 = .ok (.aload_n 0, 1) := by decide +kernel
theorem dX0_tellCoins_107 : decode cX0_tellCoins 107 = .ok (.getfield 46, 3) := by decide +kernel
theorem dX0_tellCoins_110 : decode cX0_tellCoins 110 = .ok (.getfield 186, 3) := by decide +kernel
theorem dX0_tellCoins_113 : decode cX0_tellCoins 113 = .ok (.iadd, 1) := by decide +kernel
theorem dX0_tellCoins_114 : decode cX0_tellCoins 114 = .ok (.ireturn, 1) := by decide +kernel
theorem dX0_tellCoins_115 : decode cX0_tellCoins 115 = .ok (.ldc 84, 2) := by decide +kernel
theorem dX0_tellCoins_117 : decode cX0_tellCoins 117 = .ok (.ireturn, 1) := by decide +kernel
theorem dX1_init_0 : decode cX1_init 0 = .ok (.aload_n 0, 1) := by decide +kernel
theorem dX1_init_1 : decode cX1_init 1 = .ok (.invokespecial 3, 3) := by decide +kernel
theorem dX1_init_4 : decode cX1_init 4 = .ok (.aload_n 0, 1) := by decide +kernel
theorem dX1_init_5 : decode cX1_init 5 = .ok (.bipush 8, 2) := by decide +kernel
theorem dX1_init_7 : decode cX1_init 7 = .ok (.newarray .int, 2) := by decide +kernel
theorem dX1_init_9 : decode cX1_init 9 = .ok (.putfield 9, 3) := by decide +kernel
theorem dX1_init_12 : decode cX1_init 12 = .ok (.aload_n 0, 1) := by decide +kernel
theorem dX1_init_13 : decode cX1_init 13 = .ok (.bipush 8, 2) := by decide +kernel
theorem dX1_init_15 : decode cX1_init 15 = .ok (.newarray .int, 2) := by decide +kernel
theorem dX1_init_17 : decode cX1_init 17 = .ok (.putfield 15, 3) := by decide +kernel
theorem dX1_init_20 : decode cX1_init 20 = .ok (.aload_n 0, 1) := by decide +kernel
theorem dX1_init_21 : decode cX1_init 21 = .ok (.bipush 8, 2) := by decide +kernel
theorem dX1_init_23 : decode cX1_init 23 = .ok (.newarray .int, 2) := by decide +kernel
theorem dX1_init_25 : decode cX1_init 25 = .ok (.putfield 18, 3) := by decide +kernel
theorem dX1_init_28 : decode cX1_init 28 = .ok (.return_, 1) := by decide +kernel
theorem dX1_copyFrom_0 : decode cX1_copyFrom 0 = .ok (.aload_n 1, 1) := by decide +kernel
theorem dX1_copyFrom_1 : decode cX1_copyFrom 1 = .ok (.getfield 9, 3) := by decide +kernel
theorem dX1_copyFrom_4 : decode cX1_copyFrom 4 = .ok (.aload_n 0, 1) := by decide +kernel
theorem dX1_copyFrom_5 : decode cX1_copyFrom 5 = .ok (.getfield 9, 3) := by decide +kernel
theorem dX1_copyFrom_8 : decode cX1_copyFrom 8 = .ok (.invokestatic 21, 3) := by decide +kernel
theorem dX1_copyFrom_11 : decode cX1_copyFrom 11 = .ok (.aload_n 1, 1) := by decide +kernel
theorem dX1_copyFrom_12 : decode cX1_copyFrom 12 = .ok (.getfield 15, 3) := by decide +kernel
theorem dX1_copyFrom_15 : decode cX1_copyFrom 15 = .ok (.aload_n 0, 1) := by decide +kernel
theorem dX1_copyFrom_16 : decode cX1_copyFrom 16 = .ok (.getfield 15, 3) := by decide +kernel
theorem dX1_copyFrom_19 : decode cX1_copyFrom 19 = .ok (.invokestatic 21, 3) := by decide +kernel
theorem dX1_copyFrom_22 : decode cX1_copyFrom 22 = .ok (.aload_n 1, 1) := by decide +kernel
theorem dX1_copyFrom_23 : decode cX1_copyFrom 23 = .ok (.getfield 18, 3) := by decide +kernel
theorem dX1_copyFrom_26 : decode cX1_copyFrom 26 = .ok (.aload_n 0, 1) := by decide +kernel
theorem dX1_copyFrom_27 : decode cX1_copyFrom 27 = .ok (.getfield 18, 3) := by decide +kernel
theorem dX1_copyFrom_30 : decode cX1_copyFrom 30 = .ok (.invokestatic 21, 3) := by decide +kernel
theorem dX1_copyFrom_33 : decode cX1_copyFrom 33 = .ok (.aload_n 0, 1) := by decide +kernel
theorem dX1_copyFrom_34 : decode cX1_copyFrom 34 = .ok (.aload_n 1, 1) := by decide +kernel
theorem dX1_copyFrom_35 : decode cX1_copyFrom 35 = .ok (.getfield 25, 3) := by decide +kernel
theorem dX1_copyFrom_38 : decode cX1_copyFrom 38 = .ok (.putfield 25, 3) := by decide +kernel
theorem dX1_copyFrom_41 : decode cX1_copyFrom 41 = .ok (.return_, 1) := by decide +kernel
theorem dX1_enter_0 : decode cX1_enter 0 = .ok (.iload_n 3, 1) := by decide +kernel
theorem dX1_enter_1 : decode cX1_enter 1 = .ok (.ifCond .gt 4, 3) := by decide +kernel
theorem dX1_enter_4 : decode cX1_enter 4 = .ok (.return_, 1) := by decide +kernel
theorem dX1_enter_5 : decode cX1_enter 5 = .ok (.aload_n 0, 1) := by decide +kernel
theorem dX1_enter_6 : decode cX1_enter 6 = .ok (.getfield 9, 3) := by decide +kernel
theorem dX1_enter_9 : decode cX1_enter 9 = .ok (.iload_n 1, 1) := by decide +kernel
theorem dX1_enter_10 : decode cX1_enter 10 = .ok (.invokestatic 29, 3) := by decide +kernel
theorem dX1_enter_13 : decode cX1_enter 13 = .ok (.aload_n 0, 1) := by decide +kernel
theorem dX1_enter_14 : decode cX1_enter 14 = .ok (.getfield 15, 3) := by decide +kernel
theorem dX1_enter_17 : decode cX1_enter 17 = .ok (.iload_n 2, 1) := by decide +kernel
theorem dX1_enter_18 : decode cX1_enter 18 = .ok (.invokestatic 29, 3) := by decide +kernel
theorem dX1_enter_21 : decode cX1_enter 21 = .ok (.aload_n 0, 1) := by decide +kernel
theorem dX1_enter_22 : decode cX1_enter 22 = .ok (.getfield 18, 3) := by decide +kernel
theorem dX1_enter_25 : decode cX1_enter 25 = .ok (.iload_n 3, 1) := by decide +kernel
theorem dX1_enter_26 : decode cX1_enter 26 = .ok (.invokestatic 29, 3) := by decide +kernel
theorem dX1_enter_29 : decode cX1_enter 29 = .ok (.aload_n 0, 1) := by decide +kernel
theorem dX1_enter_30 : decode cX1_enter 30 = .ok (.getfield 25, 3) := by decide +kernel
theorem dX1_enter_33 : decode cX1_enter 33 = .ok (.bipush 8, 2) := by decide +kernel
theorem dX1_enter_35 : decode cX1_enter 35 = .ok (.if_icmp .ge 13, 3) := by decide +kernel
theorem dX1_enter_38 : decode cX1_enter 38 = .ok (.aload_n 0, 1) := by decide +kernel
theorem dX1_enter_39 : decode cX1_enter 39 = .ok (.dup, 1) := by decide +kernel
theorem dX1_enter_40 : decode cX1_enter 40 = .ok (.getfield 25, 3) := by decide +kernel
theorem dX1_enter_43 : decode cX1_enter 43 = .ok (.iconst 1, 1) := by decide +kernel
theorem dX1_enter_44 : decode cX1_enter 44 = .ok (.iadd, 1) := by decide +kernel
theorem dX1_enter_45 : decode cX1_enter 45 = .ok (.putfield 25, 3) := by decide +kernel
theorem dX1_enter_48 : decode cX1_enter 48 = .ok (.return_, 1) := by decide +kernel
theorem dX1_putAhead_0 : decode cX1_putAhead 0 = .ok (.aload_n 0, 1) := by decide +kernel
theorem dX1_putAhead_1 : decode cX1_putAhead 1 = .ok (.arraylength, 1) := by decide +kernel
theorem dX1_putAhead_2 : decode cX1_putAhead 2 = .ok (.iconst 1, 1) := by decide +kernel
theorem dX1_putAhead_3 : decode cX1_putAhead 3 = .ok (.isub, 1) := by decide +kernel
theorem dX1_putAhead_4 : decode cX1_putAhead 4 = .ok (.istore_n 2, 1) := by decide +kernel
theorem dX1_putAhead_5 : decode cX1_putAhead 5 = .ok (.iload_n 2, 1) := by decide +kernel
theorem dX1_putAhead_6 : decode cX1_putAhead 6 = .ok (.ifCond .le 17, 3) := by decide +kernel
theorem dX1_putAhead_9 : decode cX1_putAhead 9 = .ok (.aload_n 0, 1) := by decide +kernel
theorem dX1_putAhead_10 : decode cX1_putAhead 10 = .ok (.iload_n 2, 1) := by decide +kernel
theorem dX1_putAhead_11 : decode cX1_putAhead 11 = .ok (.aload_n 0, 1) := by decide +kernel
theorem dX1_putAhead_12 : decode cX1_putAhead 12 = .ok (.iload_n 2, 1) := by decide +kernel
theorem dX1_putAhead_13 : decode cX1_putAhead 13 = .ok (.iconst 1, 1) := by decide +kernel
theorem dX1_putAhead_14 : decode cX1_putAhead 14 = .ok (.isub, 1) := by decide +kernel
theorem dX1_putAhead_15 : decode cX1_putAhead 15 = .ok (.iaload, 1) := by decide +kernel
theorem dX1_putAhead_16 : decode cX1_putAhead 16 = .ok (.iastore, 1) := by decide +kernel
theorem dX1_putAhead_17 : decode cX1_putAhead 17 = .ok (.iinc 2 (-1), 3) := by decide +kernel
theorem dX1_putAhead_20 : decode cX1_putAhead 20 = .ok (.goto (-15), 3) := by decide +kernel
theorem dX1_putAhead_23 : decode cX1_putAhead 23 = .ok (.aload_n 0, 1) := by decide +kernel
theorem dX1_putAhead_24 : decode cX1_putAhead 24 = .ok (.arraylength, 1) := by decide +kernel
theorem dX1_putAhead_25 : decode cX1_putAhead 25 = .ok (.ifCond .le 7, 3) := by decide +kernel
theorem dX1_putAhead_28 : decode cX1_putAhead 28 = .ok (.aload_n 0, 1) := by decide +kernel
theorem dX1_putAhead_29 : decode cX1_putAhead 29 = .ok (.iconst 0, 1) := by decide +kernel
theorem dX1_putAhead_30 : decode cX1_putAhead 30 = .ok (.iload_n 1, 1) := by decide +kernel
theorem dX1_putAhead_31 : decode cX1_putAhead 31 = .ok (.iastore, 1) := by decide +kernel
theorem dX1_putAhead_32 : decode cX1_putAhead 32 = .ok (.return_, 1) := by decide +kernel
theorem dX1_tell_0 : decode cX1_tell 0 = .ok (.iload_n 1, 1) := by decide +kernel
theorem dX1_tell_1 : decode cX1_tell 1 = .ok (.ifCond .lt 12, 3) := by decide +kernel
theorem dX1_tell_4 : decode cX1_tell 4 = .ok (.iload_n 2, 1) := by decide +kernel
theorem dX1_tell_5 : decode cX1_tell 5 = .ok (.iconst 0, 1) := by decide +kernel
theorem dX1_tell_6 : decode cX1_tell 6 = .ok (.iconst 2, 1) := by decide +kernel
theorem dX1_tell_7 : decode cX1_tell 7 = .ok (.invokestatic 33, 3) := by decide +kernel
theorem dX1_tell_10 : decode cX1_tell 10 = .ok (.ifCond .ne 6, 3) := by decide +kernel
theorem dX1_tell_13 : decode cX1_tell 13 = .ok (.ldc 37, 2) := by decide +kernel
theorem dX1_tell_15 : decode cX1_tell 15 = .ok (.ireturn, 1) := by decide +kernel
theorem dX1_tell_16 : decode cX1_tell 16 = .ok (.iload_n 1, 1) := by decide +kernel
theorem dX1_tell_17 : decode cX1_tell 17 = .ok (.aload_n 0, 1) := by decide +kernel
theorem dX1_tell_18 : decode cX1_tell 18 = .ok (.getfield 25, 3) := by decide +kernel
theorem dX1_tell_21 : decode cX1_tell 21 = .ok (.if_icmp .lt 6, 3) := by decide +kernel
theorem dX1_tell_24 : decode cX1_tell 24 = .ok (.ldc 38, 2) := by decide +kernel
theorem dX1_tell_26 : decode cX1_tell 26 = .ok (.ireturn, 1) := by decide +kernel
theorem dX1_tell_27 : decode cX1_tell 27 = .ok (.iload_n 2, 1) := by decide +kernel
theorem dX1_tell_28 : decode cX1_tell 28 = .ok (.ifCond .ne 10, 3) := by decide +kernel
theorem dX1_tell_31 : decode cX1_tell 31 = .ok (.aload_n 0, 1) := by decide +kernel
theorem dX1_tell_32 : decode cX1_tell 32 = .ok (.getfield 9, 3) := by decide +kernel
theorem dX1_tell_35 : decode cX1_tell 35 = .ok (.goto 19, 3) := by decide +kernel
theorem dX1_tell_38 : decode cX1_tell 38 = .ok (.iload_n 2, 1) := by decide +kernel
theorem dX1_tell_39 : decode cX1_tell 39 = .ok (.iconst 1, 1) := by decide +kernel
theorem dX1_tell_40 : decode cX1_tell 40 = .ok (.if_icmp .ne 10, 3) := by decide +kernel
theorem dX1_tell_43 : decode cX1_tell 43 = .ok (.aload_n 0, 1) := by decide +kernel
theorem dX1_tell_44 : decode cX1_tell 44 = .ok (.getfield 15, 3) := by decide +kernel
theorem dX1_tell_47 : decode cX1_tell 47 = .ok (.goto 7, 3) := by decide +kernel
theorem dX1_tell_50 : decode cX1_tell 50 = .ok (.aload_n 0, 1) := by decide +kernel
theorem dX1_tell_51 : decode cX1_tell 51 = .ok (.getfield 18, 3) := by decide +kernel
theorem dX1_tell_54 : decode cX1_tell 54 = .ok (.iload_n 1, 1) := by decide +kernel
theorem dX1_tell_55 : decode cX1_tell 55 = .ok (.invokestatic 39, 3) := by decide +kernel
theorem dX1_tell_58 : decode cX1_tell 58 = .ok (.ireturn, 1) := by decide +kernel
theorem dX1_numberAt_0 : decode cX1_numberAt 0 = .ok (.iload_n 1, 1) := by decide +kernel
theorem dX1_numberAt_1 : decode cX1_numberAt 1 = .ok (.ifCond .lt 15, 3) := by decide +kernel
theorem dX1_numberAt_4 : decode cX1_numberAt 4 = .ok (.iload_n 1, 1) := by decide +kernel
theorem dX1_numberAt_5 : decode cX1_numberAt 5 = .ok (.aload_n 0, 1) := by decide +kernel
theorem dX1_numberAt_6 : decode cX1_numberAt 6 = .ok (.arraylength, 1) := by decide +kernel
theorem dX1_numberAt_7 : decode cX1_numberAt 7 = .ok (.if_icmp .ge 9, 3) := by decide +kernel
theorem dX1_numberAt_10 : decode cX1_numberAt 10 = .ok (.aload_n 0, 1) := by decide +kernel
theorem dX1_numberAt_11 : decode cX1_numberAt 11 = .ok (.iload_n 1, 1) := by decide +kernel
theorem dX1_numberAt_12 : decode cX1_numberAt 12 = .ok (.iaload, 1) := by decide +kernel
theorem dX1_numberAt_13 : decode cX1_numberAt 13 = .ok (.goto 5, 3) := by decide +kernel
theorem dX1_numberAt_16 : decode cX1_numberAt 16 = .ok (.ldc 38, 2) := by decide +kernel
theorem dX1_numberAt_18 : decode cX1_numberAt 18 = .ok (.ireturn, 1) := by decide +kernel
theorem dX2_init_0 : decode cX2_init 0 = .ok (.aload_n 0, 1) := by decide +kernel
theorem dX2_init_1 : decode cX2_init 1 = .ok (.invokespecial 3, 3) := by decide +kernel
theorem dX2_init_4 : decode cX2_init 4 = .ok (.aload_n 0, 1) := by decide +kernel
theorem dX2_init_5 : decode cX2_init 5 = .ok (.iconst 4, 1) := by decide +kernel
theorem dX2_init_6 : decode cX2_init 6 = .ok (.anewarray 9, 3) := by decide +kernel
theorem dX2_init_9 : decode cX2_init 9 = .ok (.putfield 11, 3) := by decide +kernel
theorem dX2_init_12 : decode cX2_init 12 = .ok (.iconst 0, 1) := by decide +kernel
theorem dX2_init_13 : decode cX2_init 13 = .ok (.istore_n 1, 1) := by decide +kernel
theorem dX2_init_14 : decode cX2_init 14 = .ok (.iload_n 1, 1) := by decide +kernel
theorem dX2_init_15 : decode cX2_init 15 = .ok (.aload_n 0, 1) := by decide +kernel
theorem dX2_init_16 : decode cX2_init 16 = .ok (.getfield 11, 3) := by decide +kernel
theorem dX2_init_19 : decode cX2_init 19 = .ok (.arraylength, 1) := by decide +kernel
theorem dX2_init_20 : decode cX2_init 20 = .ok (.if_icmp .ge 22, 3) := by decide +kernel
theorem dX2_init_23 : decode cX2_init 23 = .ok (.aload_n 0, 1) := by decide +kernel
theorem dX2_init_24 : decode cX2_init 24 = .ok (.getfield 11, 3) := by decide +kernel
theorem dX2_init_27 : decode cX2_init 27 = .ok (.iload_n 1, 1) := by decide +kernel
theorem dX2_init_28 : decode cX2_init 28 = .ok (.new 9, 3) := by decide +kernel
theorem dX2_init_31 : decode cX2_init 31 = .ok (.dup, 1) := by decide +kernel
theorem dX2_init_32 : decode cX2_init 32 = .ok (.invokespecial 17, 3) := by decide +kernel
theorem dX2_init_35 : decode cX2_init 35 = .ok (.aastore, 1) := by decide +kernel
theorem dX2_init_36 : decode cX2_init 36 = .ok (.iinc 1 1, 3) := by decide +kernel
theorem dX2_init_39 : decode cX2_init 39 = .ok (.goto (-25), 3) := by decide +kernel
theorem dX2_init_42 : decode cX2_init 42 = .ok (.return_, 1) := by decide +kernel
theorem dX2_record_0 : decode cX2_record 0 = .ok (.aload_n 0, 1) := by decide +kernel
theorem dX2_record_1 : decode cX2_record 1 = .ok (.getfield 11, 3) := by decide +kernel
theorem dX2_record_4 : decode cX2_record 4 = .ok (.arraylength, 1) := by decide +kernel
theorem dX2_record_5 : decode cX2_record 5 = .ok (.iconst 1, 1) := by decide +kernel
theorem dX2_record_6 : decode cX2_record 6 = .ok (.isub, 1) := by decide +kernel
theorem dX2_record_7 : decode cX2_record 7 = .ok (.istore_n 2, 1) := by decide +kernel
theorem dX2_record_8 : decode cX2_record 8 = .ok (.iload_n 2, 1) := by decide +kernel
theorem dX2_record_9 : decode cX2_record 9 = .ok (.ifCond .ge 4, 3) := by decide +kernel
theorem dX2_record_12 : decode cX2_record 12 = .ok (.return_, 1) := by decide +kernel
theorem dX2_record_13 : decode cX2_record 13 = .ok (.aload_n 0, 1) := by decide +kernel
theorem dX2_record_14 : decode cX2_record 14 = .ok (.getfield 11, 3) := by decide +kernel
theorem dX2_record_17 : decode cX2_record 17 = .ok (.iload_n 2, 1) := by decide +kernel
theorem dX2_record_18 : decode cX2_record 18 = .ok (.aaload, 1) := by decide +kernel
theorem dX2_record_19 : decode cX2_record 19 = .ok (.astore_n 3, 1) := by decide +kernel
theorem dX2_record_20 : decode cX2_record 20 = .ok (.iload_n 2, 1) := by decide +kernel
theorem dX2_record_21 : decode cX2_record 21 = .ok (.istore 4, 2) := by decide +kernel
theorem dX2_record_23 : decode cX2_record 23 = .ok (.iload 4, 2) := by decide +kernel
theorem dX2_record_25 : decode cX2_record 25 = .ok (.ifCond .le 25, 3) := by decide +kernel
theorem dX2_record_28 : decode cX2_record 28 = .ok (.aload_n 0, 1) := by decide +kernel
theorem dX2_record_29 : decode cX2_record 29 = .ok (.getfield 11, 3) := by decide +kernel
theorem dX2_record_32 : decode cX2_record 32 = .ok (.iload 4, 2) := by decide +kernel
theorem dX2_record_34 : decode cX2_record 34 = .ok (.aload_n 0, 1) := by decide +kernel
theorem dX2_record_35 : decode cX2_record 35 = .ok (.getfield 11, 3) := by decide +kernel
theorem dX2_record_38 : decode cX2_record 38 = .ok (.iload 4, 2) := by decide +kernel
theorem dX2_record_40 : decode cX2_record 40 = .ok (.iconst 1, 1) := by decide +kernel
theorem dX2_record_41 : decode cX2_record 41 = .ok (.isub, 1) := by decide +kernel
theorem dX2_record_42 : decode cX2_record 42 = .ok (.aaload, 1) := by decide +kernel
theorem dX2_record_43 : decode cX2_record 43 = .ok (.aastore, 1) := by decide +kernel
theorem dX2_record_44 : decode cX2_record 44 = .ok (.iinc 4 (-1), 3) := by decide +kernel
theorem dX2_record_47 : decode cX2_record 47 = .ok (.goto (-24), 3) := by decide +kernel
theorem dX2_record_50 : decode cX2_record 50 = .ok (.aload_n 0, 1) := by decide +kernel
theorem dX2_record_51 : decode cX2_record 51 = .ok (.getfield 11, 3) := by decide +kernel
theorem dX2_record_54 : decode cX2_record 54 = .ok (.iconst 0, 1) := by decide +kernel
theorem dX2_record_55 : decode cX2_record 55 = .ok (.aload_n 3, 1) := by decide +kernel
theorem dX2_record_56 : decode cX2_record 56 = .ok (.aastore, 1) := by decide +kernel
theorem dX2_record_57 : decode cX2_record 57 = .ok (.aload_n 3, 1) := by decide +kernel
theorem dX2_record_58 : decode cX2_record 58 = .ok (.aload_n 1, 1) := by decide +kernel
theorem dX2_record_59 : decode cX2_record 59 = .ok (.invokevirtual 18, 3) := by decide +kernel
theorem dX2_record_62 : decode cX2_record 62 = .ok (.aload_n 0, 1) := by decide +kernel
theorem dX2_record_63 : decode cX2_record 63 = .ok (.getfield 22, 3) := by decide +kernel
theorem dX2_record_66 : decode cX2_record 66 = .ok (.iconst 4, 1) := by decide +kernel
theorem dX2_record_67 : decode cX2_record 67 = .ok (.if_icmp .ge 13, 3) := by decide +kernel
theorem dX2_record_70 : decode cX2_record 70 = .ok (.aload_n 0, 1) := by decide +kernel
theorem dX2_record_71 : decode cX2_record 71 = .ok (.dup, 1) := by decide +kernel
theorem dX2_record_72 : decode cX2_record 72 = .ok (.getfield 22, 3) := by decide +kernel
theorem dX2_record_75 : decode cX2_record 75 = .ok (.iconst 1, 1) := by decide +kernel
theorem dX2_record_76 : decode cX2_record 76 = .ok (.iadd, 1) := by decide +kernel
theorem dX2_record_77 : decode cX2_record 77 = .ok (.putfield 22, 3) := by decide +kernel
theorem dX2_record_80 : decode cX2_record 80 = .ok (.return_, 1) := by decide +kernel
theorem dX2_restoreInto_0 : decode cX2_restoreInto 0 = .ok (.aload_n 0, 1) := by decide +kernel
theorem dX2_restoreInto_1 : decode cX2_restoreInto 1 = .ok (.getfield 11, 3) := by decide +kernel
theorem dX2_restoreInto_4 : decode cX2_restoreInto 4 = .ok (.arraylength, 1) := by decide +kernel
theorem dX2_restoreInto_5 : decode cX2_restoreInto 5 = .ok (.iconst 1, 1) := by decide +kernel
theorem dX2_restoreInto_6 : decode cX2_restoreInto 6 = .ok (.isub, 1) := by decide +kernel
theorem dX2_restoreInto_7 : decode cX2_restoreInto 7 = .ok (.istore_n 2, 1) := by decide +kernel
theorem dX2_restoreInto_8 : decode cX2_restoreInto 8 = .ok (.aload_n 0, 1) := by decide +kernel
theorem dX2_restoreInto_9 : decode cX2_restoreInto 9 = .ok (.getfield 22, 3) := by decide +kernel
theorem dX2_restoreInto_12 : decode cX2_restoreInto 12 = .ok (.ifCond .le 7, 3) := by decide +kernel
theorem dX2_restoreInto_15 : decode cX2_restoreInto 15 = .ok (.iload_n 2, 1) := by decide +kernel
theorem dX2_restoreInto_16 : decode cX2_restoreInto 16 = .ok (.ifCond .ge 6, 3) := by decide +kernel
theorem dX2_restoreInto_19 : decode cX2_restoreInto 19 = .ok (.ldc 26, 2) := by decide +kernel
theorem dX2_restoreInto_21 : decode cX2_restoreInto 21 = .ok (.ireturn, 1) := by decide +kernel
theorem dX2_restoreInto_22 : decode cX2_restoreInto 22 = .ok (.aload_n 0, 1) := by decide +kernel
theorem dX2_restoreInto_23 : decode cX2_restoreInto 23 = .ok (.getfield 11, 3) := by decide +kernel
theorem dX2_restoreInto_26 : decode cX2_restoreInto 26 = .ok (.iconst 0, 1) := by decide +kernel
theorem dX2_restoreInto_27 : decode cX2_restoreInto 27 = .ok (.aaload, 1) := by decide +kernel
theorem dX2_restoreInto_28 : decode cX2_restoreInto 28 = .ok (.astore_n 3, 1) := by decide +kernel
theorem dX2_restoreInto_29 : decode cX2_restoreInto 29 = .ok (.iconst 0, 1) := by decide +kernel
theorem dX2_restoreInto_30 : decode cX2_restoreInto 30 = .ok (.istore 4, 2) := by decide +kernel
theorem dX2_restoreInto_32 : decode cX2_restoreInto 32 = .ok (.iload 4, 2) := by decide +kernel
theorem dX2_restoreInto_34 : decode cX2_restoreInto 34 = .ok (.iload_n 2, 1) := by decide +kernel
theorem dX2_restoreInto_35 : decode cX2_restoreInto 35 = .ok (.if_icmp .ge 25, 3) := by decide +kernel
theorem dX2_restoreInto_38 : decode cX2_restoreInto 38 = .ok (.aload_n 0, 1) := by decide +kernel
theorem dX2_restoreInto_39 : decode cX2_restoreInto 39 = .ok (.getfield 11, 3) := by decide +kernel
theorem dX2_restoreInto_42 : decode cX2_restoreInto 42 = .ok (.iload 4, 2) := by decide +kernel
theorem dX2_restoreInto_44 : decode cX2_restoreInto 44 = .ok (.aload_n 0, 1) := by decide +kernel
theorem dX2_restoreInto_45 : decode cX2_restoreInto 45 = .ok (.getfield 11, 3) := by decide +kernel
theorem dX2_restoreInto_48 : decode cX2_restoreInto 48 = .ok (.iload 4, 2) := by decide +kernel
theorem dX2_restoreInto_50 : decode cX2_restoreInto 50 = .ok (.iconst 1, 1) := by decide +kernel
theorem dX2_restoreInto_51 : decode cX2_restoreInto 51 = .ok (.iadd, 1) := by decide +kernel
theorem dX2_restoreInto_52 : decode cX2_restoreInto 52 = .ok (.aaload, 1) := by decide +kernel
theorem dX2_restoreInto_53 : decode cX2_restoreInto 53 = .ok (.aastore, 1) := by decide +kernel
theorem dX2_restoreInto_54 : decode cX2_restoreInto 54 = .ok (.iinc 4 1, 3) := by decide +kernel
theorem dX2_restoreInto_57 : decode cX2_restoreInto 57 = .ok (.goto (-25), 3) := by decide +kernel
theorem dX2_restoreInto_60 : decode cX2_restoreInto 60 = .ok (.aload_n 0, 1) := by decide +kernel
theorem dX2_restoreInto_61 : decode cX2_restoreInto 61 = .ok (.getfield 11, 3) := by decide +kernel
theorem dX2_restoreInto_64 : decode cX2_restoreInto 64 = .ok (.iload_n 2, 1) := by decide +kernel
theorem dX2_restoreInto_65 : decode cX2_restoreInto 65 = .ok (.aload_n 3, 1) := by decide +kernel
theorem dX2_restoreInto_66 : decode cX2_restoreInto 66 = .ok (.aastore, 1) := by decide +kernel
theorem dX2_restoreInto_67 : decode cX2_restoreInto 67 = .ok (.aload_n 1, 1) := by decide +kernel
theorem dX2_restoreInto_68 : decode cX2_restoreInto 68 = .ok (.aload_n 3, 1) := by decide +kernel
theorem dX2_restoreInto_69 : decode cX2_restoreInto 69 = .ok (.invokevirtual 18, 3) := by decide +kernel
theorem dX2_restoreInto_72 : decode cX2_restoreInto 72 = .ok (.aload_n 0, 1) := by decide +kernel
theorem dX2_restoreInto_73 : decode cX2_restoreInto 73 = .ok (.dup, 1) := by decide +kernel
theorem dX2_restoreInto_74 : decode cX2_restoreInto 74 = .ok (.getfield 22, 3) := by decide +kernel
theorem dX2_restoreInto_77 : decode cX2_restoreInto 77 = .ok (.iconst 1, 1) := by decide +kernel
theorem dX2_restoreInto_78 : decode cX2_restoreInto 78 = .ok (.isub, 1) := by decide +kernel
theorem dX2_restoreInto_79 : decode cX2_restoreInto 79 = .ok (.putfield 22, 3) := by decide +kernel
theorem dX2_restoreInto_82 : decode cX2_restoreInto 82 = .ok (.aload_n 0, 1) := by decide +kernel
theorem dX2_restoreInto_83 : decode cX2_restoreInto 83 = .ok (.getfield 22, 3) := by decide +kernel
theorem dX2_restoreInto_86 : decode cX2_restoreInto 86 = .ok (.ireturn, 1) := by decide +kernel
theorem dX3_init_0 : decode cX3_init 0 = .ok (.aload_n 0, 1) := by decide +kernel
theorem dX3_init_1 : decode cX3_init 1 = .ok (.invokespecial 3, 3) := by decide +kernel
theorem dX3_init_4 : decode cX3_init 4 = .ok (.return_, 1) := by decide +kernel
theorem dX3_copyFrom_0 : decode cX3_copyFrom 0 = .ok (.aload_n 0, 1) := by decide +kernel
theorem dX3_copyFrom_1 : decode cX3_copyFrom 1 = .ok (.aload_n 1, 1) := by decide +kernel
theorem dX3_copyFrom_2 : decode cX3_copyFrom 2 = .ok (.getfield 9, 3) := by decide +kernel
theorem dX3_copyFrom_5 : decode cX3_copyFrom 5 = .ok (.putfield 9, 3) := by decide +kernel
theorem dX3_copyFrom_8 : decode cX3_copyFrom 8 = .ok (.aload_n 0, 1) := by decide +kernel
theorem dX3_copyFrom_9 : decode cX3_copyFrom 9 = .ok (.aload_n 1, 1) := by decide +kernel
theorem dX3_copyFrom_10 : decode cX3_copyFrom 10 = .ok (.getfield 15, 3) := by decide +kernel
theorem dX3_copyFrom_13 : decode cX3_copyFrom 13 = .ok (.putfield 15, 3) := by decide +kernel
theorem dX3_copyFrom_16 : decode cX3_copyFrom 16 = .ok (.aload_n 0, 1) := by decide +kernel
theorem dX3_copyFrom_17 : decode cX3_copyFrom 17 = .ok (.aload_n 1, 1) := by decide +kernel
theorem dX3_copyFrom_18 : decode cX3_copyFrom 18 = .ok (.getfield 18, 3) := by decide +kernel
theorem dX3_copyFrom_21 : decode cX3_copyFrom 21 = .ok (.putfield 18, 3) := by decide +kernel
theorem dX3_copyFrom_24 : decode cX3_copyFrom 24 = .ok (.aload_n 0, 1) := by decide +kernel
theorem dX3_copyFrom_25 : decode cX3_copyFrom 25 = .ok (.aload_n 1, 1) := by decide +kernel
theorem dX3_copyFrom_26 : decode cX3_copyFrom 26 = .ok (.getfield 21, 3) := by decide +kernel
theorem dX3_copyFrom_29 : decode cX3_copyFrom 29 = .ok (.putfield 21, 3) := by decide +kernel
theorem dX3_copyFrom_32 : decode cX3_copyFrom 32 = .ok (.aload_n 0, 1) := by decide +kernel
theorem dX3_copyFrom_33 : decode cX3_copyFrom 33 = .ok (.aload_n 1, 1) := by decide +kernel
theorem dX3_copyFrom_34 : decode cX3_copyFrom 34 = .ok (.getfield 24, 3) := by decide +kernel
theorem dX3_copyFrom_37 : decode cX3_copyFrom 37 = .ok (.putfield 24, 3) := by decide +kernel
theorem dX3_copyFrom_40 : decode cX3_copyFrom 40 = .ok (.return_, 1) := by decide +kernel
theorem dX3_takeIn_0 : decode cX3_takeIn 0 = .ok (.aload_n 0, 1) := by decide +kernel
theorem dX3_takeIn_1 : decode cX3_takeIn 1 = .ok (.dup, 1) := by decide +kernel
theorem dX3_takeIn_2 : decode cX3_takeIn 2 = .ok (.getfield 9, 3) := by decide +kernel
theorem dX3_takeIn_5 : decode cX3_takeIn 5 = .ok (.iload_n 1, 1) := by decide +kernel
theorem dX3_takeIn_6 : decode cX3_takeIn 6 = .ok (.iadd, 1) := by decide +kernel
theorem dX3_takeIn_7 : decode cX3_takeIn 7 = .ok (.putfield 9, 3) := by decide +kernel
theorem dX3_takeIn_10 : decode cX3_takeIn 10 = .ok (.aload_n 0, 1) := by decide +kernel
theorem dX3_takeIn_11 : decode cX3_takeIn 11 = .ok (.dup, 1) := by decide +kernel
theorem dX3_takeIn_12 : decode cX3_takeIn 12 = .ok (.getfield 18, 3) := by decide +kernel
theorem dX3_takeIn_15 : decode cX3_takeIn 15 = .ok (.iload_n 1, 1) := by decide +kernel
theorem dX3_takeIn_16 : decode cX3_takeIn 16 = .ok (.iadd, 1) := by decide +kernel
theorem dX3_takeIn_17 : decode cX3_takeIn 17 = .ok (.putfield 18, 3) := by decide +kernel
theorem dX3_takeIn_20 : decode cX3_takeIn 20 = .ok (.aload_n 0, 1) := by decide +kernel
theorem dX3_takeIn_21 : decode cX3_takeIn 21 = .ok (.iload_n 2, 1) := by decide +kernel
theorem dX3_takeIn_22 : decode cX3_takeIn 22 = .ok (.putfield 15, 3) := by decide +kernel
theorem dX3_takeIn_25 : decode cX3_takeIn 25 = .ok (.return_, 1) := by decide +kernel
theorem dX3_giveOut_0 : decode cX3_giveOut 0 = .ok (.aload_n 0, 1) := by decide +kernel
theorem dX3_giveOut_1 : decode cX3_giveOut 1 = .ok (.dup, 1) := by decide +kernel
theorem dX3_giveOut_2 : decode cX3_giveOut 2 = .ok (.getfield 9, 3) := by decide +kernel
theorem dX3_giveOut_5 : decode cX3_giveOut 5 = .ok (.iload_n 1, 1) := by decide +kernel
theorem dX3_giveOut_6 : decode cX3_giveOut 6 = .ok (.isub, 1) := by decide +kernel
theorem dX3_giveOut_7 : decode cX3_giveOut 7 = .ok (.putfield 9, 3) := by decide +kernel
theorem dX3_giveOut_10 : decode cX3_giveOut 10 = .ok (.aload_n 0, 1) := by decide +kernel
theorem dX3_giveOut_11 : decode cX3_giveOut 11 = .ok (.dup, 1) := by decide +kernel
theorem dX3_giveOut_12 : decode cX3_giveOut 12 = .ok (.getfield 21, 3) := by decide +kernel
theorem dX3_giveOut_15 : decode cX3_giveOut 15 = .ok (.iload_n 1, 1) := by decide +kernel
theorem dX3_giveOut_16 : decode cX3_giveOut 16 = .ok (.iadd, 1) := by decide +kernel
theorem dX3_giveOut_17 : decode cX3_giveOut 17 = .ok (.putfield 21, 3) := by decide +kernel
theorem dX3_giveOut_20 : decode cX3_giveOut 20 = .ok (.aload_n 0, 1) := by decide +kernel
theorem dX3_giveOut_21 : decode cX3_giveOut 21 = .ok (.dup, 1) := by decide +kernel
theorem dX3_giveOut_22 : decode cX3_giveOut 22 = .ok (.getfield 24, 3) := by decide +kernel
theorem dX3_giveOut_25 : decode cX3_giveOut 25 = .ok (.iload_n 2, 1) := by decide +kernel
theorem dX3_giveOut_26 : decode cX3_giveOut 26 = .ok (.iadd, 1) := by decide +kernel
theorem dX3_giveOut_27 : decode cX3_giveOut 27 = .ok (.putfield 24, 3) := by decide +kernel
theorem dX3_giveOut_30 : decode cX3_giveOut 30 = .ok (.return_, 1) := by decide +kernel
theorem dX3_tell_0 : decode cX3_tell 0 = .ok (.iload_n 1, 1) := by decide +kernel
theorem dX3_tell_1 : decode cX3_tell 1 = .ok (.tableswitch 60 0 4 #[35, 40, 45, 50, 55], 35) := by decide +kernel
theorem dX3_tell_36 : decode cX3_tell 36 = .ok (.aload_n 0, 1) := by decide +kernel
theorem dX3_tell_37 : decode cX3_tell 37 = .ok (.getfield 9, 3) := by decide +kernel
theorem dX3_tell_40 : decode cX3_tell 40 = .ok (.ireturn, 1) := by decide +kernel
theorem dX3_tell_41 : decode cX3_tell 41 = .ok (.aload_n 0, 1) := by decide +kernel
theorem dX3_tell_42 : decode cX3_tell 42 = .ok (.getfield 15, 3) := by decide +kernel
theorem dX3_tell_45 : decode cX3_tell 45 = .ok (.ireturn, 1) := by decide +kernel
theorem dX3_tell_46 : decode cX3_tell 46 = .ok (.aload_n 0, 1) := by decide +kernel
theorem dX3_tell_47 : decode cX3_tell 47 = .ok (.getfield 18, 3) := by decide +kernel
theorem dX3_tell_50 : decode cX3_tell 50 = .ok (.ireturn, 1) := by decide +kernel
theorem dX3_tell_51 : decode cX3_tell 51 = .ok (.aload_n 0, 1) := by decide +kernel
theorem dX3_tell_52 : decode cX3_tell 52 = .ok (.getfield 21, 3) := by decide +kernel
theorem dX3_tell_55 : decode cX3_tell 55 = .ok (.ireturn, 1) := by decide +kernel
theorem dX3_tell_56 : decode cX3_tell 56 = .ok (.aload_n 0, 1) := by decide +kernel
theorem dX3_tell_57 : decode cX3_tell 57 = .ok (.getfield 24, 3) := by decide +kernel
theorem dX3_tell_60 : decode cX3_tell 60 = .ok (.ireturn, 1) := by decide +kernel
theorem dX3_tell_61 : decode cX3_tell 61 = .ok (.ldc 27, 2) := by decide +kernel
theorem dX3_tell_63 : decode cX3_tell 63 = .ok (.ireturn, 1) := by decide +kernel
theorem dX4_init_0 : decode cX4_init 0 = .ok (.aload_n 0, 1) := by decide +kernel
theorem dX4_init_1 : decode cX4_init 1 = .ok (.invokespecial 3, 3) := by decide +kernel
theorem dX4_init_4 : decode cX4_init 4 = .ok (.aload_n 0, 1) := by decide +kernel
theorem dX4_init_5 : decode cX4_init 5 = .ok (.iconst 3, 1) := by decide +kernel
theorem dX4_init_6 : decode cX4_init 6 = .ok (.newarray .int, 2) := by decide +kernel
theorem dX4_init_8 : decode cX4_init 8 = .ok (.putfield 9, 3) := by decide +kernel
theorem dX4_init_11 : decode cX4_init 11 = .ok (.return_, 1) := by decide +kernel
theorem dX4_readFrom_0 : decode cX4_readFrom 0 = .ok (.aload_n 0, 1) := by decide +kernel
theorem dX4_readFrom_1 : decode cX4_readFrom 1 = .ok (.iload_n 2, 1) := by decide +kernel
theorem dX4_readFrom_2 : decode cX4_readFrom 2 = .ok (.putfield 15, 3) := by decide +kernel
theorem dX4_readFrom_5 : decode cX4_readFrom 5 = .ok (.aload_n 0, 1) := by decide +kernel
theorem dX4_readFrom_6 : decode cX4_readFrom 6 = .ok (.aload_n 1, 1) := by decide +kernel
theorem dX4_readFrom_7 : decode cX4_readFrom 7 = .ok (.iload_n 2, 1) := by decide +kernel
theorem dX4_readFrom_8 : decode cX4_readFrom 8 = .ok (.invokevirtual 19, 3) := by decide +kernel
theorem dX4_readFrom_11 : decode cX4_readFrom 11 = .ok (.putfield 25, 3) := by decide +kernel
theorem dX4_readFrom_14 : decode cX4_readFrom 14 = .ok (.aload_n 0, 1) := by decide +kernel
theorem dX4_readFrom_15 : decode cX4_readFrom 15 = .ok (.getfield 25, 3) := by decide +kernel
theorem dX4_readFrom_18 : decode cX4_readFrom 18 = .ok (.invokestatic 28, 3) := by decide +kernel
theorem dX4_readFrom_21 : decode cX4_readFrom 21 = .ok (.istore_n 3, 1) := by decide +kernel
theorem dX4_readFrom_22 : decode cX4_readFrom 22 = .ok (.iload_n 3, 1) := by decide +kernel
theorem dX4_readFrom_23 : decode cX4_readFrom 23 = .ok (.iconst (-1), 1) := by decide +kernel
theorem dX4_readFrom_24 : decode cX4_readFrom 24 = .ok (.if_icmp .ne 5, 3) := by decide +kernel
theorem dX4_readFrom_27 : decode cX4_readFrom 27 = .ok (.iconst 0, 1) := by decide +kernel
theorem dX4_readFrom_28 : decode cX4_readFrom 28 = .ok (.ireturn, 1) := by decide +kernel
theorem dX4_readFrom_29 : decode cX4_readFrom 29 = .ok (.aload_n 0, 1) := by decide +kernel
theorem dX4_readFrom_30 : decode cX4_readFrom 30 = .ok (.dup, 1) := by decide +kernel
theorem dX4_readFrom_31 : decode cX4_readFrom 31 = .ok (.getfield 15, 3) := by decide +kernel
theorem dX4_readFrom_34 : decode cX4_readFrom 34 = .ok (.iconst 1, 1) := by decide +kernel
theorem dX4_readFrom_35 : decode cX4_readFrom 35 = .ok (.iadd, 1) := by decide +kernel
theorem dX4_readFrom_36 : decode cX4_readFrom 36 = .ok (.putfield 15, 3) := by decide +kernel
theorem dX4_readFrom_39 : decode cX4_readFrom 39 = .ok (.iconst 0, 1) := by decide +kernel
theorem dX4_readFrom_40 : decode cX4_readFrom 40 = .ok (.istore 4, 2) := by decide +kernel
theorem dX4_readFrom_42 : decode cX4_readFrom 42 = .ok (.iload 4, 2) := by decide +kernel
theorem dX4_readFrom_44 : decode cX4_readFrom 44 = .ok (.iload_n 3, 1) := by decide +kernel
theorem dX4_readFrom_45 : decode cX4_readFrom 45 = .ok (.if_icmp .ge 59, 3) := by decide +kernel
theorem dX4_readFrom_48 : decode cX4_readFrom 48 = .ok (.iload 4, 2) := by decide +kernel
theorem dX4_readFrom_50 : decode cX4_readFrom 50 = .ok (.aload_n 0, 1) := by decide +kernel
theorem dX4_readFrom_51 : decode cX4_readFrom 51 = .ok (.getfield 9, 3) := by decide +kernel
theorem dX4_readFrom_54 : decode cX4_readFrom 54 = .ok (.arraylength, 1) := by decide +kernel
theorem dX4_readFrom_55 : decode cX4_readFrom 55 = .ok (.if_icmp .ge 49, 3) := by decide +kernel
theorem dX4_readFrom_58 : decode cX4_readFrom 58 = .ok (.iload 4, 2) := by decide +kernel
theorem dX4_readFrom_60 : decode cX4_readFrom 60 = .ok (.ifCond .le 15, 3) := by decide +kernel
theorem dX4_readFrom_63 : decode cX4_readFrom 63 = .ok (.aload_n 0, 1) := by decide +kernel
theorem dX4_readFrom_64 : decode cX4_readFrom 64 = .ok (.aload_n 1, 1) := by decide +kernel
theorem dX4_readFrom_65 : decode cX4_readFrom 65 = .ok (.bipush 44, 2) := by decide +kernel
theorem dX4_readFrom_67 : decode cX4_readFrom 67 = .ok (.invokevirtual 31, 3) := by decide +kernel
theorem dX4_readFrom_70 : decode cX4_readFrom 70 = .ok (.ifCond .ne 5, 3) := by decide +kernel
theorem dX4_readFrom_73 : decode cX4_readFrom 73 = .ok (.iconst 0, 1) := by decide +kernel
theorem dX4_readFrom_74 : decode cX4_readFrom 74 = .ok (.ireturn, 1) := by decide +kernel
theorem dX4_readFrom_75 : decode cX4_readFrom 75 = .ok (.aload_n 0, 1) := by decide +kernel
theorem dX4_readFrom_76 : decode cX4_readFrom 76 = .ok (.aload_n 1, 1) := by decide +kernel
theorem dX4_readFrom_77 : decode cX4_readFrom 77 = .ok (.invokevirtual 35, 3) := by decide +kernel
theorem dX4_readFrom_80 : decode cX4_readFrom 80 = .ok (.istore 5, 2) := by decide +kernel
theorem dX4_readFrom_82 : decode cX4_readFrom 82 = .ok (.iload 5, 2) := by decide +kernel
theorem dX4_readFrom_84 : decode cX4_readFrom 84 = .ok (.ifCond .ge 5, 3) := by decide +kernel
theorem dX4_readFrom_87 : decode cX4_readFrom 87 = .ok (.iconst 0, 1) := by decide +kernel
theorem dX4_readFrom_88 : decode cX4_readFrom 88 = .ok (.ireturn, 1) := by decide +kernel
theorem dX4_readFrom_89 : decode cX4_readFrom 89 = .ok (.aload_n 0, 1) := by decide +kernel
theorem dX4_readFrom_90 : decode cX4_readFrom 90 = .ok (.getfield 9, 3) := by decide +kernel
theorem dX4_readFrom_93 : decode cX4_readFrom 93 = .ok (.iload 4, 2) := by decide +kernel
theorem dX4_readFrom_95 : decode cX4_readFrom 95 = .ok (.iload 5, 2) := by decide +kernel
theorem dX4_readFrom_97 : decode cX4_readFrom 97 = .ok (.iastore, 1) := by decide +kernel
theorem dX4_readFrom_98 : decode cX4_readFrom 98 = .ok (.iinc 4 1, 3) := by decide +kernel
theorem dX4_readFrom_101 : decode cX4_readFrom 101 = .ok (.goto (-59), 3) := by decide +kernel
theorem dX4_readFrom_104 : decode cX4_readFrom 104 = .ok (.aload_n 0, 1) := by decide +kernel
theorem dX4_readFrom_105 : decode cX4_readFrom 105 = .ok (.aload_n 1, 1) := by decide +kernel
theorem dX4_readFrom_106 : decode cX4_readFrom 106 = .ok (.bipush 59, 2) := by decide +kernel
theorem dX4_readFrom_108 : decode cX4_readFrom 108 = .ok (.invokevirtual 31, 3) := by decide +kernel
theorem dX4_readFrom_111 : decode cX4_readFrom 111 = .ok (.ireturn, 1) := by decide +kernel
theorem dX4_numbersOf_0 : decode cX4_numbersOf 0 = .ok (.iload_n 0, 1) := by decide +kernel
theorem dX4_numbersOf_1 : decode cX4_numbersOf 1 = .ok (.tableswitch 111 97 118 #[107, 109, 111, 105, 103, 107, 111, 107, 111, 111, 111, 105, 111, 111, 103, 103, 111, 107, 111, 111, 111, 109], 103) := by decide +kernel
theorem dX4_numbersOf_104 : decode cX4_numbersOf 104 = .ok (.iconst 0, 1) := by decide +kernel
theorem dX4_numbersOf_105 : decode cX4_numbersOf 105 = .ok (.ireturn, 1) := by decide +kernel
theorem dX4_numbersOf_106 : decode cX4_numbersOf 106 = .ok (.iconst 1, 1) := by decide +kernel
theorem dX4_numbersOf_107 : decode cX4_numbersOf 107 = .ok (.ireturn, 1) := by decide +kernel
theorem dX4_numbersOf_108 : decode cX4_numbersOf 108 = .ok (.iconst 2, 1) := by decide +kernel
theorem dX4_numbersOf_109 : decode cX4_numbersOf 109 = .ok (.ireturn, 1) := by decide +kernel
theorem dX4_numbersOf_110 : decode cX4_numbersOf 110 = .ok (.iconst 3, 1) := by decide +kernel
theorem dX4_numbersOf_111 : decode cX4_numbersOf 111 = .ok (.ireturn, 1) := by decide +kernel
theorem dX4_numbersOf_112 : decode cX4_numbersOf 112 = .ok (.iconst (-1), 1) := by decide +kernel
theorem dX4_numbersOf_113 : decode cX4_numbersOf 113 = .ok (.ireturn, 1) := by decide +kernel
theorem dX4_readSign_0 : decode cX4_readSign 0 = .ok (.aload_n 1, 1) := by decide +kernel
theorem dX4_readSign_1 : decode cX4_readSign 1 = .ok (.aload_n 0, 1) := by decide +kernel
theorem dX4_readSign_2 : decode cX4_readSign 2 = .ok (.getfield 15, 3) := by decide +kernel
theorem dX4_readSign_5 : decode cX4_readSign 5 = .ok (.invokevirtual 19, 3) := by decide +kernel
theorem dX4_readSign_8 : decode cX4_readSign 8 = .ok (.iload_n 2, 1) := by decide +kernel
theorem dX4_readSign_9 : decode cX4_readSign 9 = .ok (.if_icmp .eq 5, 3) := by decide +kernel
theorem dX4_readSign_12 : decode cX4_readSign 12 = .ok (.iconst 0, 1) := by decide +kernel
theorem dX4_readSign_13 : decode cX4_readSign 13 = .ok (.ireturn, 1) := by decide +kernel
theorem dX4_readSign_14 : decode cX4_readSign 14 = .ok (.aload_n 0, 1) := by decide +kernel
theorem dX4_readSign_15 : decode cX4_readSign 15 = .ok (.dup, 1) := by decide +kernel
theorem dX4_readSign_16 : decode cX4_readSign 16 = .ok (.getfield 15, 3) := by decide +kernel
theorem dX4_readSign_19 : decode cX4_readSign 19 = .ok (.iconst 1, 1) := by decide +kernel
theorem dX4_readSign_20 : decode cX4_readSign 20 = .ok (.iadd, 1) := by decide +kernel
theorem dX4_readSign_21 : decode cX4_readSign 21 = .ok (.putfield 15, 3) := by decide +kernel
theorem dX4_readSign_24 : decode cX4_readSign 24 = .ok (.iconst 1, 1) := by decide +kernel
theorem dX4_readSign_25 : decode cX4_readSign 25 = .ok (.ireturn, 1) := by decide +kernel
theorem dX4_readNumber_0 : decode cX4_readNumber 0 = .ok (.iconst (-1), 1) := by decide +kernel
theorem dX4_readNumber_1 : decode cX4_readNumber 1 = .ok (.istore_n 2, 1) := by decide +kernel
theorem dX4_readNumber_2 : decode cX4_readNumber 2 = .ok (.iconst 0, 1) := by decide +kernel
theorem dX4_readNumber_3 : decode cX4_readNumber 3 = .ok (.istore_n 3, 1) := by decide +kernel
theorem dX4_readNumber_4 : decode cX4_readNumber 4 = .ok (.iload_n 3, 1) := by decide +kernel
theorem dX4_readNumber_5 : decode cX4_readNumber 5 = .ok (.iconst 3, 1) := by decide +kernel
theorem dX4_readNumber_6 : decode cX4_readNumber 6 = .ok (.if_icmp .ge 58, 3) := by decide +kernel
theorem dX4_readNumber_9 : decode cX4_readNumber 9 = .ok (.aload_n 1, 1) := by decide +kernel
theorem dX4_readNumber_10 : decode cX4_readNumber 10 = .ok (.aload_n 0, 1) := by decide +kernel
theorem dX4_readNumber_11 : decode cX4_readNumber 11 = .ok (.getfield 15, 3) := by decide +kernel
theorem dX4_readNumber_14 : decode cX4_readNumber 14 = .ok (.invokevirtual 19, 3) := by decide +kernel
theorem dX4_readNumber_17 : decode cX4_readNumber 17 = .ok (.bipush 48, 2) := by decide +kernel
theorem dX4_readNumber_19 : decode cX4_readNumber 19 = .ok (.bipush 57, 2) := by decide +kernel
theorem dX4_readNumber_21 : decode cX4_readNumber 21 = .ok (.invokestatic 39, 3) := by decide +kernel
theorem dX4_readNumber_24 : decode cX4_readNumber 24 = .ok (.ifCond .eq 40, 3) := by decide +kernel
theorem dX4_readNumber_27 : decode cX4_readNumber 27 = .ok (.iload_n 2, 1) := by decide +kernel
theorem dX4_readNumber_28 : decode cX4_readNumber 28 = .ok (.iconst 0, 1) := by decide +kernel
theorem dX4_readNumber_29 : decode cX4_readNumber 29 = .ok (.invokestatic 43, 3) := by decide +kernel
theorem dX4_readNumber_32 : decode cX4_readNumber 32 = .ok (.bipush 10, 2) := by decide +kernel
theorem dX4_readNumber_34 : decode cX4_readNumber 34 = .ok (.imul, 1) := by decide +kernel
theorem dX4_readNumber_35 : decode cX4_readNumber 35 = .ok (.aload_n 1, 1) := by decide +kernel
theorem dX4_readNumber_36 : decode cX4_readNumber 36 = .ok (.aload_n 0, 1) := by decide +kernel
theorem dX4_readNumber_37 : decode cX4_readNumber 37 = .ok (.getfield 15, 3) := by decide +kernel
theorem dX4_readNumber_40 : decode cX4_readNumber 40 = .ok (.invokevirtual 19, 3) := by decide +kernel
theorem dX4_readNumber_43 : decode cX4_readNumber 43 = .ok (.iadd, 1) := by decide +kernel
theorem dX4_readNumber_44 : decode cX4_readNumber 44 = .ok (.bipush 48, 2) := by decide +kernel
theorem dX4_readNumber_46 : decode cX4_readNumber 46 = .ok (.isub, 1) := by decide +kernel
theorem dX4_readNumber_47 : decode cX4_readNumber 47 = .ok (.istore_n 2, 1) := by decide +kernel
theorem dX4_readNumber_48 : decode cX4_readNumber 48 = .ok (.aload_n 0, 1) := by decide +kernel
theorem dX4_readNumber_49 : decode cX4_readNumber 49 = .ok (.dup, 1) := by decide +kernel
theorem dX4_readNumber_50 : decode cX4_readNumber 50 = .ok (.getfield 15, 3) := by decide +kernel
theorem dX4_readNumber_53 : decode cX4_readNumber 53 = .ok (.iconst 1, 1) := by decide +kernel
theorem dX4_readNumber_54 : decode cX4_readNumber 54 = .ok (.iadd, 1) := by decide +kernel
theorem dX4_readNumber_55 : decode cX4_readNumber 55 = .ok (.putfield 15, 3) := by decide +kernel
theorem dX4_readNumber_58 : decode cX4_readNumber 58 = .ok (.iinc 3 1, 3) := by decide +kernel
theorem dX4_readNumber_61 : decode cX4_readNumber 61 = .ok (.goto (-57), 3) := by decide +kernel
theorem dX4_readNumber_64 : decode cX4_readNumber 64 = .ok (.iload_n 2, 1) := by decide +kernel
theorem dX4_readNumber_65 : decode cX4_readNumber 65 = .ok (.ireturn, 1) := by decide +kernel
theorem dX4_number_0 : decode cX4_number 0 = .ok (.iload_n 1, 1) := by decide +kernel
theorem dX4_number_1 : decode cX4_number 1 = .ok (.ifCond .lt 21, 3) := by decide +kernel
theorem dX4_number_4 : decode cX4_number 4 = .ok (.iload_n 1, 1) := by decide +kernel
theorem dX4_number_5 : decode cX4_number 5 = .ok (.aload_n 0, 1) := by decide +kernel
theorem dX4_number_6 : decode cX4_number 6 = .ok (.getfield 9, 3) := by decide +kernel
theorem dX4_number_9 : decode cX4_number 9 = .ok (.arraylength, 1) := by decide +kernel
theorem dX4_number_10 : decode cX4_number 10 = .ok (.if_icmp .ge 12, 3) := by decide +kernel
theorem dX4_number_13 : decode cX4_number 13 = .ok (.aload_n 0, 1) := by decide +kernel
theorem dX4_number_14 : decode cX4_number 14 = .ok (.getfield 9, 3) := by decide +kernel
theorem dX4_number_17 : decode cX4_number 17 = .ok (.iload_n 1, 1) := by decide +kernel
theorem dX4_number_18 : decode cX4_number 18 = .ok (.iaload, 1) := by decide +kernel
theorem dX4_number_19 : decode cX4_number 19 = .ok (.goto 4, 3) := by decide +kernel
theorem dX4_number_22 : decode cX4_number 22 = .ok (.iconst 0, 1) := by decide +kernel
theorem dX4_number_23 : decode cX4_number 23 = .ok (.ireturn, 1) := by decide +kernel
theorem dX4_carryOut_0 : decode cX4_carryOut 0 = .ok (.aload_n 0, 1) := by decide +kernel
theorem dX4_carryOut_1 : decode cX4_carryOut 1 = .ok (.getfield 25, 3) := by decide +kernel
theorem dX4_carryOut_4 : decode cX4_carryOut 4 = .ok (.tableswitch 234 97 118 #[159, 119, 234, 189, 234, 174, 234, 104, 234, 234, 234, 199, 234, 234, 224, 229, 234, 209, 234, 234, 234, 139], 104) := by decide +kernel
theorem dX4_carryOut_108 : decode cX4_carryOut 108 = .ok (.aload_n 1, 1) := by decide +kernel
theorem dX4_carryOut_109 : decode cX4_carryOut 109 = .ok (.aload_n 0, 1) := by decide +kernel
theorem dX4_carryOut_110 : decode cX4_carryOut 110 = .ok (.iconst 0, 1) := by decide +kernel
theorem dX4_carryOut_111 : decode cX4_carryOut 111 = .ok (.invokevirtual 49, 3) := by decide +kernel
theorem dX4_carryOut_114 : decode cX4_carryOut 114 = .ok (.aload_n 0, 1) := by decide +kernel
theorem dX4_carryOut_115 : decode cX4_carryOut 115 = .ok (.iconst 1, 1) := by decide +kernel
theorem dX4_carryOut_116 : decode cX4_carryOut 116 = .ok (.invokevirtual 49, 3) := by decide +kernel
theorem dX4_carryOut_119 : decode cX4_carryOut 119 = .ok (.invokevirtual 52, 3) := by decide +kernel
theorem dX4_carryOut_122 : decode cX4_carryOut 122 = .ok (.ireturn, 1) := by decide +kernel
theorem dX4_carryOut_123 : decode cX4_carryOut 123 = .ok (.aload_n 1, 1) := by decide +kernel
theorem dX4_carryOut_124 : decode cX4_carryOut 124 = .ok (.aload_n 0, 1) := by decide +kernel
theorem dX4_carryOut_125 : decode cX4_carryOut 125 = .ok (.iconst 0, 1) := by decide +kernel
theorem dX4_carryOut_126 : decode cX4_carryOut 126 = .ok (.invokevirtual 49, 3) := by decide +kernel
theorem dX4_carryOut_129 : decode cX4_carryOut 129 = .ok (.aload_n 0, 1) := by decide +kernel
theorem dX4_carryOut_130 : decode cX4_carryOut 130 = .ok (.iconst 1, 1) := by decide +kernel
theorem dX4_carryOut_131 : decode cX4_carryOut 131 = .ok (.invokevirtual 49, 3) := by decide +kernel
theorem dX4_carryOut_134 : decode cX4_carryOut 134 = .ok (.aload_n 0, 1) := by decide +kernel
theorem dX4_carryOut_135 : decode cX4_carryOut 135 = .ok (.iconst 2, 1) := by decide +kernel
theorem dX4_carryOut_136 : decode cX4_carryOut 136 = .ok (.invokevirtual 49, 3) := by decide +kernel
theorem dX4_carryOut_139 : decode cX4_carryOut 139 = .ok (.invokevirtual 57, 3) := by decide +kernel
theorem dX4_carryOut_142 : decode cX4_carryOut 142 = .ok (.ireturn, 1) := by decide +kernel
theorem dX4_carryOut_143 : decode cX4_carryOut 143 = .ok (.aload_n 1, 1) := by decide +kernel
theorem dX4_carryOut_144 : decode cX4_carryOut 144 = .ok (.aload_n 0, 1) := by decide +kernel
theorem dX4_carryOut_145 : decode cX4_carryOut 145 = .ok (.iconst 0, 1) := by decide +kernel
theorem dX4_carryOut_146 : decode cX4_carryOut 146 = .ok (.invokevirtual 49, 3) := by decide +kernel
theorem dX4_carryOut_149 : decode cX4_carryOut 149 = .ok (.aload_n 0, 1) := by decide +kernel
theorem dX4_carryOut_150 : decode cX4_carryOut 150 = .ok (.iconst 1, 1) := by decide +kernel
theorem dX4_carryOut_151 : decode cX4_carryOut 151 = .ok (.invokevirtual 49, 3) := by decide +kernel
theorem dX4_carryOut_154 : decode cX4_carryOut 154 = .ok (.aload_n 0, 1) := by decide +kernel
theorem dX4_carryOut_155 : decode cX4_carryOut 155 = .ok (.iconst 2, 1) := by decide +kernel
theorem dX4_carryOut_156 : decode cX4_carryOut 156 = .ok (.invokevirtual 49, 3) := by decide +kernel
theorem dX4_carryOut_159 : decode cX4_carryOut 159 = .ok (.invokevirtual 61, 3) := by decide +kernel
theorem dX4_carryOut_162 : decode cX4_carryOut 162 = .ok (.ireturn, 1) := by decide +kernel
theorem dX4_carryOut_163 : decode cX4_carryOut 163 = .ok (.aload_n 1, 1) := by decide +kernel
theorem dX4_carryOut_164 : decode cX4_carryOut 164 = .ok (.aload_n 0, 1) := by decide +kernel
theorem dX4_carryOut_165 : decode cX4_carryOut 165 = .ok (.iconst 0, 1) := by decide +kernel
theorem dX4_carryOut_166 : decode cX4_carryOut 166 = .ok (.invokevirtual 49, 3) := by decide +kernel
theorem dX4_carryOut_169 : decode cX4_carryOut 169 = .ok (.aload_n 0, 1) := by decide +kernel
theorem dX4_carryOut_170 : decode cX4_carryOut 170 = .ok (.iconst 1, 1) := by decide +kernel
theorem dX4_carryOut_171 : decode cX4_carryOut 171 = .ok (.invokevirtual 49, 3) := by decide +kernel
theorem dX4_carryOut_174 : decode cX4_carryOut 174 = .ok (.invokevirtual 64, 3) := by decide +kernel
theorem dX4_carryOut_177 : decode cX4_carryOut 177 = .ok (.ireturn, 1) := by decide +kernel
theorem dX4_carryOut_178 : decode cX4_carryOut 178 = .ok (.aload_n 1, 1) := by decide +kernel
theorem dX4_carryOut_179 : decode cX4_carryOut 179 = .ok (.aload_n 0, 1) := by decide +kernel
theorem dX4_carryOut_180 : decode cX4_carryOut 180 = .ok (.iconst 0, 1) := by decide +kernel
theorem dX4_carryOut_181 : decode cX4_carryOut 181 = .ok (.invokevirtual 49, 3) := by decide +kernel
theorem dX4_carryOut_184 : decode cX4_carryOut 184 = .ok (.aload_n 0, 1) := by decide +kernel
theorem dX4_carryOut_185 : decode cX4_carryOut 185 = .ok (.iconst 1, 1) := by decide +kernel
theorem dX4_carryOut_186 : decode cX4_carryOut 186 = .ok (.invokevirtual 49, 3) := by decide +kernel
theorem dX4_carryOut_189 : decode cX4_carryOut 189 = .ok (.invokevirtual 67, 3) := by decide +kernel
theorem dX4_carryOut_192 : decode cX4_carryOut 192 = .ok (.ireturn, 1) := by decide +kernel
theorem dX4_carryOut_193 : decode cX4_carryOut 193 = .ok (.aload_n 1, 1) := by decide +kernel
theorem dX4_carryOut_194 : decode cX4_carryOut 194 = .ok (.aload_n 0, 1) := by decide +kernel
theorem dX4_carryOut_195 : decode cX4_carryOut 195 = .ok (.iconst 0, 1) := by decide +kernel
theorem dX4_carryOut_196 : decode cX4_carryOut 196 = .ok (.invokevirtual 49, 3) := by decide +kernel
theorem dX4_carryOut_199 : decode cX4_carryOut 199 = .ok (.invokevirtual 70, 3) := by decide +kernel
theorem dX4_carryOut_202 : decode cX4_carryOut 202 = .ok (.ireturn, 1) := by decide +kernel
theorem dX4_carryOut_203 : decode cX4_carryOut 203 = .ok (.aload_n 1, 1) := by decide +kernel
theorem dX4_carryOut_204 : decode cX4_carryOut 204 = .ok (.aload_n 0, 1) := by decide +kernel
theorem dX4_carryOut_205 : decode cX4_carryOut 205 = .ok (.iconst 0, 1) := by decide +kernel
theorem dX4_carryOut_206 : decode cX4_carryOut 206 = .ok (.invokevirtual 49, 3) := by decide +kernel
theorem dX4_carryOut_209 : decode cX4_carryOut 209 = .ok (.invokevirtual 73, 3) := by decide +kernel
theorem dX4_carryOut_212 : decode cX4_carryOut 212 = .ok (.ireturn, 1) := by decide +kernel
theorem dX4_carryOut_213 : decode cX4_carryOut 213 = .ok (.aload_n 1, 1) := by decide +kernel
theorem dX4_carryOut_214 : decode cX4_carryOut 214 = .ok (.aload_n 0, 1) := by decide +kernel
theorem dX4_carryOut_215 : decode cX4_carryOut 215 = .ok (.iconst 0, 1) := by decide +kernel
theorem dX4_carryOut_216 : decode cX4_carryOut 216 = .ok (.invokevirtual 49, 3) := by decide +kernel
theorem dX4_carryOut_219 : decode cX4_carryOut 219 = .ok (.aload_n 0, 1) := by decide +kernel
theorem dX4_carryOut_220 : decode cX4_carryOut 220 = .ok (.iconst 1, 1) := by decide +kernel
theorem dX4_carryOut_221 : decode cX4_carryOut 221 = .ok (.invokevirtual 49, 3) := by decide +kernel
theorem dX4_carryOut_224 : decode cX4_carryOut 224 = .ok (.invokevirtual 76, 3) := by decide +kernel
theorem dX4_carryOut_227 : decode cX4_carryOut 227 = .ok (.ireturn, 1) := by decide +kernel
theorem dX4_carryOut_228 : decode cX4_carryOut 228 = .ok (.aload_n 1, 1) := by decide +kernel
theorem dX4_carryOut_229 : decode cX4_carryOut 229 = .ok (.invokevirtual 79, 3) := by decide +kernel
theorem dX4_carryOut_232 : decode cX4_carryOut 232 = .ok (.ireturn, 1) := by decide +kernel
theorem dX4_carryOut_233 : decode cX4_carryOut 233 = .ok (.aload_n 1, 1) := by decide +kernel
theorem dX4_carryOut_234 : decode cX4_carryOut 234 = .ok (.invokevirtual 83, 3) := by decide +kernel
theorem dX4_carryOut_237 : decode cX4_carryOut 237 = .ok (.ireturn, 1) := by decide +kernel
theorem dX4_carryOut_238 : decode cX4_carryOut 238 = .ok (.aload_n 1, 1) := by decide +kernel
theorem dX4_carryOut_239 : decode cX4_carryOut 239 = .ok (.invokevirtual 86, 3) := by decide +kernel
theorem dX4_carryOut_242 : decode cX4_carryOut 242 = .ok (.ireturn, 1) := by decide +kernel
theorem dX5_init_0 : decode cX5_init 0 = .ok (.aload_n 0, 1) := by decide +kernel
theorem dX5_init_1 : decode cX5_init 1 = .ok (.invokespecial 3, 3) := by decide +kernel
theorem dX5_init_4 : decode cX5_init 4 = .ok (.aload_n 0, 1) := by decide +kernel
theorem dX5_init_5 : decode cX5_init 5 = .ok (.new 9, 3) := by decide +kernel
theorem dX5_init_8 : decode cX5_init 8 = .ok (.dup, 1) := by decide +kernel
theorem dX5_init_9 : decode cX5_init 9 = .ok (.invokespecial 11, 3) := by decide +kernel
theorem dX5_init_12 : decode cX5_init 12 = .ok (.putfield 12, 3) := by decide +kernel
theorem dX5_init_15 : decode cX5_init 15 = .ok (.return_, 1) := by decide +kernel
theorem dX5_runThrough_0 : decode cX5_runThrough 0 = .ok (.aload_n 0, 1) := by decide +kernel
theorem dX5_runThrough_1 : decode cX5_runThrough 1 = .ok (.iconst 0, 1) := by decide +kernel
theorem dX5_runThrough_2 : decode cX5_runThrough 2 = .ok (.putfield 18, 3) := by decide +kernel
theorem dX5_runThrough_5 : decode cX5_runThrough 5 = .ok (.aload_n 0, 1) := by decide +kernel
theorem dX5_runThrough_6 : decode cX5_runThrough 6 = .ok (.iconst 0, 1) := by decide +kernel
theorem dX5_runThrough_7 : decode cX5_runThrough 7 = .ok (.putfield 22, 3) := by decide +kernel
theorem dX5_runThrough_10 : decode cX5_runThrough 10 = .ok (.aload_n 0, 1) := by decide +kernel
theorem dX5_runThrough_11 : decode cX5_runThrough 11 = .ok (.iconst 0, 1) := by decide +kernel
theorem dX5_runThrough_12 : decode cX5_runThrough 12 = .ok (.putfield 25, 3) := by decide +kernel
theorem dX5_runThrough_15 : decode cX5_runThrough 15 = .ok (.aload_n 0, 1) := by decide +kernel
theorem dX5_runThrough_16 : decode cX5_runThrough 16 = .ok (.iconst 0, 1) := by decide +kernel
theorem dX5_runThrough_17 : decode cX5_runThrough 17 = .ok (.putfield 28, 3) := by decide +kernel
theorem dX5_runThrough_20 : decode cX5_runThrough 20 = .ok (.iconst 0, 1) := by decide +kernel
theorem dX5_runThrough_21 : decode cX5_runThrough 21 = .ok (.istore_n 3, 1) := by decide +kernel
theorem dX5_runThrough_22 : decode cX5_runThrough 22 = .ok (.iload_n 3, 1) := by decide +kernel
theorem dX5_runThrough_23 : decode cX5_runThrough 23 = .ok (.bipush 60, 2) := by decide +kernel
theorem dX5_runThrough_25 : decode cX5_runThrough 25 = .ok (.if_icmp .ge 105, 3) := by decide +kernel
theorem dX5_runThrough_28 : decode cX5_runThrough 28 = .ok (.aload_n 0, 1) := by decide +kernel
theorem dX5_runThrough_29 : decode cX5_runThrough 29 = .ok (.getfield 22, 3) := by decide +kernel
theorem dX5_runThrough_32 : decode cX5_runThrough 32 = .ok (.aload_n 1, 1) := by decide +kernel
theorem dX5_runThrough_33 : decode cX5_runThrough 33 = .ok (.getfield 31, 3) := by decide +kernel
theorem dX5_runThrough_36 : decode cX5_runThrough 36 = .ok (.if_icmp .ge 94, 3) := by decide +kernel
theorem dX5_runThrough_39 : decode cX5_runThrough 39 = .ok (.aload_n 0, 1) := by decide +kernel
theorem dX5_runThrough_40 : decode cX5_runThrough 40 = .ok (.getfield 12, 3) := by decide +kernel
theorem dX5_runThrough_43 : decode cX5_runThrough 43 = .ok (.aload_n 1, 1) := by decide +kernel
theorem dX5_runThrough_44 : decode cX5_runThrough 44 = .ok (.aload_n 0, 1) := by decide +kernel
theorem dX5_runThrough_45 : decode cX5_runThrough 45 = .ok (.getfield 22, 3) := by decide +kernel
theorem dX5_runThrough_48 : decode cX5_runThrough 48 = .ok (.invokevirtual 36, 3) := by decide +kernel
theorem dX5_runThrough_51 : decode cX5_runThrough 51 = .ok (.ifCond .ne 25, 3) := by decide +kernel
theorem dX5_runThrough_54 : decode cX5_runThrough 54 = .ok (.aload_n 0, 1) := by decide +kernel
theorem dX5_runThrough_55 : decode cX5_runThrough 55 = .ok (.iconst 1, 1) := by decide +kernel
theorem dX5_runThrough_56 : decode cX5_runThrough 56 = .ok (.putfield 25, 3) := by decide +kernel
theorem dX5_runThrough_59 : decode cX5_runThrough 59 = .ok (.aload_n 0, 1) := by decide +kernel
theorem dX5_runThrough_60 : decode cX5_runThrough 60 = .ok (.aload_n 0, 1) := by decide +kernel
theorem dX5_runThrough_61 : decode cX5_runThrough 61 = .ok (.getfield 12, 3) := by decide +kernel
theorem dX5_runThrough_64 : decode cX5_runThrough 64 = .ok (.getfield 40, 3) := by decide +kernel
theorem dX5_runThrough_67 : decode cX5_runThrough 67 = .ok (.aload_n 0, 1) := by decide +kernel
theorem dX5_runThrough_68 : decode cX5_runThrough 68 = .ok (.getfield 22, 3) := by decide +kernel
theorem dX5_runThrough_71 : decode cX5_runThrough 71 = .ok (.isub, 1) := by decide +kernel
theorem dX5_runThrough_72 : decode cX5_runThrough 72 = .ok (.putfield 28, 3) := by decide +kernel
theorem dX5_runThrough_75 : decode cX5_runThrough 75 = .ok (.return_, 1) := by decide +kernel
theorem dX5_runThrough_76 : decode cX5_runThrough 76 = .ok (.aload_n 0, 1) := by decide +kernel
theorem dX5_runThrough_77 : decode cX5_runThrough 77 = .ok (.getfield 12, 3) := by decide +kernel
theorem dX5_runThrough_80 : decode cX5_runThrough 80 = .ok (.aload_n 2, 1) := by decide +kernel
theorem dX5_runThrough_81 : decode cX5_runThrough 81 = .ok (.invokevirtual 43, 3) := by decide +kernel
theorem dX5_runThrough_84 : decode cX5_runThrough 84 = .ok (.istore 4, 2) := by decide +kernel
theorem dX5_runThrough_86 : decode cX5_runThrough 86 = .ok (.iload 4, 2) := by decide +kernel
theorem dX5_runThrough_88 : decode cX5_runThrough 88 = .ok (.ifCond .ge 15, 3) := by decide +kernel
theorem dX5_runThrough_91 : decode cX5_runThrough 91 = .ok (.aload_n 0, 1) := by decide +kernel
theorem dX5_runThrough_92 : decode cX5_runThrough 92 = .ok (.iconst 2, 1) := by decide +kernel
theorem dX5_runThrough_93 : decode cX5_runThrough 93 = .ok (.putfield 25, 3) := by decide +kernel
theorem dX5_runThrough_96 : decode cX5_runThrough 96 = .ok (.aload_n 0, 1) := by decide +kernel
theorem dX5_runThrough_97 : decode cX5_runThrough 97 = .ok (.iload 4, 2) := by decide +kernel
theorem dX5_runThrough_99 : decode cX5_runThrough 99 = .ok (.putfield 28, 3) := by decide +kernel
theorem dX5_runThrough_102 : decode cX5_runThrough 102 = .ok (.return_, 1) := by decide +kernel
theorem dX5_runThrough_103 : decode cX5_runThrough 103 = .ok (.aload_n 0, 1) := by decide +kernel
theorem dX5_runThrough_104 : decode cX5_runThrough 104 = .ok (.aload_n 0, 1) := by decide +kernel
theorem dX5_runThrough_105 : decode cX5_runThrough 105 = .ok (.getfield 12, 3) := by decide +kernel
theorem dX5_runThrough_108 : decode cX5_runThrough 108 = .ok (.getfield 40, 3) := by decide +kernel
theorem dX5_runThrough_111 : decode cX5_runThrough 111 = .ok (.putfield 22, 3) := by decide +kernel
theorem dX5_runThrough_114 : decode cX5_runThrough 114 = .ok (.aload_n 0, 1) := by decide +kernel
theorem dX5_runThrough_115 : decode cX5_runThrough 115 = .ok (.dup, 1) := by decide +kernel
theorem dX5_runThrough_116 : decode cX5_runThrough 116 = .ok (.getfield 18, 3) := by decide +kernel
theorem dX5_runThrough_119 : decode cX5_runThrough 119 = .ok (.iconst 1, 1) := by decide +kernel
theorem dX5_runThrough_120 : decode cX5_runThrough 120 = .ok (.iadd, 1) := by decide +kernel
theorem dX5_runThrough_121 : decode cX5_runThrough 121 = .ok (.putfield 18, 3) := by decide +kernel
theorem dX5_runThrough_124 : decode cX5_runThrough 124 = .ok (.iinc 3 1, 3) := by decide +kernel
theorem dX5_runThrough_127 : decode cX5_runThrough 127 = .ok (.goto (-105), 3) := by decide +kernel
theorem dX5_runThrough_130 : decode cX5_runThrough 130 = .ok (.return_, 1) := by decide +kernel
theorem dX5_isFaulty_0 : decode cX5_isFaulty 0 = .ok (.aload_n 0, 1) := by decide +kernel
theorem dX5_isFaulty_1 : decode cX5_isFaulty 1 = .ok (.getfield 25, 3) := by decide +kernel
theorem dX5_isFaulty_4 : decode cX5_isFaulty 4 = .ok (.ifCond .eq 7, 3) := by decide +kernel
theorem dX5_isFaulty_7 : decode cX5_isFaulty 7 = .ok (.iconst 1, 1) := by decide +kernel
theorem dX5_isFaulty_8 : decode cX5_isFaulty 8 = .ok (.goto 4, 3) := by decide +kernel
theorem dX5_isFaulty_11 : decode cX5_isFaulty 11 = .ok (.iconst 0, 1) := by decide +kernel
theorem dX5_isFaulty_12 : decode cX5_isFaulty 12 = .ok (.ireturn, 1) := by decide +kernel
theorem dX5_tellFault_0 : decode cX5_tellFault 0 = .ok (.aload_n 0, 1) := by decide +kernel
theorem dX5_tellFault_1 : decode cX5_tellFault 1 = .ok (.invokevirtual 47, 3) := by decide +kernel
theorem dX5_tellFault_4 : decode cX5_tellFault 4 = .ok (.ifCond .ne 6, 3) := by decide +kernel
theorem dX5_tellFault_7 : decode cX5_tellFault 7 = .ok (.ldc 51, 2) := by decide +kernel
theorem dX5_tellFault_9 : decode cX5_tellFault 9 = .ok (.ireturn, 1) := by decide +kernel
theorem dX5_tellFault_10 : decode cX5_tellFault 10 = .ok (.iload_n 1, 1) := by decide +kernel
theorem dX5_tellFault_11 : decode cX5_tellFault 11 = .ok (.ifCond .ne 10, 3) := by decide +kernel
theorem dX5_tellFault_14 : decode cX5_tellFault 14 = .ok (.aload_n 0, 1) := by decide +kernel
theorem dX5_tellFault_15 : decode cX5_tellFault 15 = .ok (.getfield 22, 3) := by decide +kernel
theorem dX5_tellFault_18 : decode cX5_tellFault 18 = .ok (.goto 19, 3) := by decide +kernel
theorem dX5_tellFault_21 : decode cX5_tellFault 21 = .ok (.iload_n 1, 1) := by decide +kernel
theorem dX5_tellFault_22 : decode cX5_tellFault 22 = .ok (.iconst 1, 1) := by decide +kernel
theorem dX5_tellFault_23 : decode cX5_tellFault 23 = .ok (.if_icmp .ne 10, 3) := by decide +kernel
theorem dX5_tellFault_26 : decode cX5_tellFault 26 = .ok (.aload_n 0, 1) := by decide +kernel
theorem dX5_tellFault_27 : decode cX5_tellFault 27 = .ok (.getfield 25, 3) := by decide +kernel
theorem dX5_tellFault_30 : decode cX5_tellFault 30 = .ok (.goto 7, 3) := by decide +kernel
theorem dX5_tellFault_33 : decode cX5_tellFault 33 = .ok (.aload_n 0, 1) := by decide +kernel
theorem dX5_tellFault_34 : decode cX5_tellFault 34 = .ok (.getfield 28, 3) := by decide +kernel
theorem dX5_tellFault_37 : decode cX5_tellFault 37 = .ok (.ireturn, 1) := by decide +kernel
theorem dX6_init_0 : decode cX6_init 0 = .ok (.aload_n 0, 1) := by decide +kernel
theorem dX6_init_1 : decode cX6_init 1 = .ok (.invokespecial 3, 3) := by decide +kernel
theorem dX6_init_4 : decode cX6_init 4 = .ok (.return_, 1) := by decide +kernel
theorem dX6_copyFrom_0 : decode cX6_copyFrom 0 = .ok (.aload_n 0, 1) := by decide +kernel
theorem dX6_copyFrom_1 : decode cX6_copyFrom 1 = .ok (.aload_n 1, 1) := by decide +kernel
theorem dX6_copyFrom_2 : decode cX6_copyFrom 2 = .ok (.getfield 9, 3) := by decide +kernel
theorem dX6_copyFrom_5 : decode cX6_copyFrom 5 = .ok (.putfield 9, 3) := by decide +kernel
theorem dX6_copyFrom_8 : decode cX6_copyFrom 8 = .ok (.aload_n 0, 1) := by decide +kernel
theorem dX6_copyFrom_9 : decode cX6_copyFrom 9 = .ok (.aload_n 1, 1) := by decide +kernel
theorem dX6_copyFrom_10 : decode cX6_copyFrom 10 = .ok (.getfield 15, 3) := by decide +kernel
theorem dX6_copyFrom_13 : decode cX6_copyFrom 13 = .ok (.putfield 15, 3) := by decide +kernel
theorem dX6_copyFrom_16 : decode cX6_copyFrom 16 = .ok (.aload_n 0, 1) := by decide +kernel
theorem dX6_copyFrom_17 : decode cX6_copyFrom 17 = .ok (.aload_n 1, 1) := by decide +kernel
theorem dX6_copyFrom_18 : decode cX6_copyFrom 18 = .ok (.getfield 18, 3) := by decide +kernel
theorem dX6_copyFrom_21 : decode cX6_copyFrom 21 = .ok (.putfield 18, 3) := by decide +kernel
theorem dX6_copyFrom_24 : decode cX6_copyFrom 24 = .ok (.aload_n 0, 1) := by decide +kernel
theorem dX6_copyFrom_25 : decode cX6_copyFrom 25 = .ok (.aload_n 1, 1) := by decide +kernel
theorem dX6_copyFrom_26 : decode cX6_copyFrom 26 = .ok (.getfield 21, 3) := by decide +kernel
theorem dX6_copyFrom_29 : decode cX6_copyFrom 29 = .ok (.putfield 21, 3) := by decide +kernel
theorem dX6_copyFrom_32 : decode cX6_copyFrom 32 = .ok (.aload_n 0, 1) := by decide +kernel
theorem dX6_copyFrom_33 : decode cX6_copyFrom 33 = .ok (.aload_n 1, 1) := by decide +kernel
theorem dX6_copyFrom_34 : decode cX6_copyFrom 34 = .ok (.getfield 24, 3) := by decide +kernel
theorem dX6_copyFrom_37 : decode cX6_copyFrom 37 = .ok (.putfield 24, 3) := by decide +kernel
theorem dX6_copyFrom_40 : decode cX6_copyFrom 40 = .ok (.aload_n 0, 1) := by decide +kernel
theorem dX6_copyFrom_41 : decode cX6_copyFrom 41 = .ok (.aload_n 1, 1) := by decide +kernel
theorem dX6_copyFrom_42 : decode cX6_copyFrom 42 = .ok (.getfield 27, 3) := by decide +kernel
theorem dX6_copyFrom_45 : decode cX6_copyFrom 45 = .ok (.putfield 27, 3) := by decide +kernel
theorem dX6_copyFrom_48 : decode cX6_copyFrom 48 = .ok (.aload_n 0, 1) := by decide +kernel
theorem dX6_copyFrom_49 : decode cX6_copyFrom 49 = .ok (.aload_n 1, 1) := by decide +kernel
theorem dX6_copyFrom_50 : decode cX6_copyFrom 50 = .ok (.getfield 30, 3) := by decide +kernel
theorem dX6_copyFrom_53 : decode cX6_copyFrom 53 = .ok (.putfield 30, 3) := by decide +kernel
theorem dX6_copyFrom_56 : decode cX6_copyFrom 56 = .ok (.aload_n 0, 1) := by decide +kernel
theorem dX6_copyFrom_57 : decode cX6_copyFrom 57 = .ok (.aload_n 1, 1) := by decide +kernel
theorem dX6_copyFrom_58 : decode cX6_copyFrom 58 = .ok (.getfield 33, 3) := by decide +kernel
theorem dX6_copyFrom_61 : decode cX6_copyFrom 61 = .ok (.putfield 33, 3) := by decide +kernel
theorem dX6_copyFrom_64 : decode cX6_copyFrom 64 = .ok (.aload_n 0, 1) := by decide +kernel
theorem dX6_copyFrom_65 : decode cX6_copyFrom 65 = .ok (.aload_n 1, 1) := by decide +kernel
theorem dX6_copyFrom_66 : decode cX6_copyFrom 66 = .ok (.getfield 36, 3) := by decide +kernel
theorem dX6_copyFrom_69 : decode cX6_copyFrom 69 = .ok (.putfield 36, 3) := by decide +kernel
theorem dX6_copyFrom_72 : decode cX6_copyFrom 72 = .ok (.aload_n 0, 1) := by decide +kernel
theorem dX6_copyFrom_73 : decode cX6_copyFrom 73 = .ok (.aload_n 1, 1) := by decide +kernel
theorem dX6_copyFrom_74 : decode cX6_copyFrom 74 = .ok (.getfield 39, 3) := by decide +kernel
theorem dX6_copyFrom_77 : decode cX6_copyFrom 77 = .ok (.putfield 39, 3) := by decide +kernel
theorem dX6_copyFrom_80 : decode cX6_copyFrom 80 = .ok (.return_, 1) := by decide +kernel
theorem dX6_comeAboard_0 : decode cX6_comeAboard 0 = .ok (.aload_n 0, 1) := by decide +kernel
theorem dX6_comeAboard_1 : decode cX6_comeAboard 1 = .ok (.iload_n 1, 1) := by decide +kernel
theorem dX6_comeAboard_2 : decode cX6_comeAboard 2 = .ok (.putfield 9, 3) := by decide +kernel
theorem dX6_comeAboard_5 : decode cX6_comeAboard 5 = .ok (.aload_n 0, 1) := by decide +kernel
theorem dX6_comeAboard_6 : decode cX6_comeAboard 6 = .ok (.iload_n 2, 1) := by decide +kernel
theorem dX6_comeAboard_7 : decode cX6_comeAboard 7 = .ok (.putfield 15, 3) := by decide +kernel
theorem dX6_comeAboard_10 : decode cX6_comeAboard 10 = .ok (.aload_n 0, 1) := by decide +kernel
theorem dX6_comeAboard_11 : decode cX6_comeAboard 11 = .ok (.iconst 0, 1) := by decide +kernel
theorem dX6_comeAboard_12 : decode cX6_comeAboard 12 = .ok (.putfield 18, 3) := by decide +kernel
theorem dX6_comeAboard_15 : decode cX6_comeAboard 15 = .ok (.aload_n 0, 1) := by decide +kernel
theorem dX6_comeAboard_16 : decode cX6_comeAboard 16 = .ok (.iconst 0, 1) := by decide +kernel
theorem dX6_comeAboard_17 : decode cX6_comeAboard 17 = .ok (.putfield 39, 3) := by decide +kernel
theorem dX6_comeAboard_20 : decode cX6_comeAboard 20 = .ok (.aload_n 0, 1) := by decide +kernel
theorem dX6_comeAboard_21 : decode cX6_comeAboard 21 = .ok (.iconst 0, 1) := by decide +kernel
theorem dX6_comeAboard_22 : decode cX6_comeAboard 22 = .ok (.invokevirtual 42, 3) := by decide +kernel
theorem dX6_comeAboard_25 : decode cX6_comeAboard 25 = .ok (.return_, 1) := by decide +kernel
theorem dX6_beginVoyage_0 : decode cX6_beginVoyage 0 = .ok (.aload_n 0, 1) := by decide +kernel
theorem dX6_beginVoyage_1 : decode cX6_beginVoyage 1 = .ok (.iconst 0, 1) := by decide +kernel
theorem dX6_beginVoyage_2 : decode cX6_beginVoyage 2 = .ok (.putfield 21, 3) := by decide +kernel
theorem dX6_beginVoyage_5 : decode cX6_beginVoyage 5 = .ok (.aload_n 0, 1) := by decide +kernel
theorem dX6_beginVoyage_6 : decode cX6_beginVoyage 6 = .ok (.iconst 0, 1) := by decide +kernel
theorem dX6_beginVoyage_7 : decode cX6_beginVoyage 7 = .ok (.putfield 24, 3) := by decide +kernel
theorem dX6_beginVoyage_10 : decode cX6_beginVoyage 10 = .ok (.aload_n 0, 1) := by decide +kernel
theorem dX6_beginVoyage_11 : decode cX6_beginVoyage 11 = .ok (.iconst 0, 1) := by decide +kernel
theorem dX6_beginVoyage_12 : decode cX6_beginVoyage 12 = .ok (.putfield 27, 3) := by decide +kernel
theorem dX6_beginVoyage_15 : decode cX6_beginVoyage 15 = .ok (.aload_n 0, 1) := by decide +kernel
theorem dX6_beginVoyage_16 : decode cX6_beginVoyage 16 = .ok (.iconst 0, 1) := by decide +kernel
theorem dX6_beginVoyage_17 : decode cX6_beginVoyage 17 = .ok (.putfield 30, 3) := by decide +kernel
theorem dX6_beginVoyage_20 : decode cX6_beginVoyage 20 = .ok (.aload_n 0, 1) := by decide +kernel
theorem dX6_beginVoyage_21 : decode cX6_beginVoyage 21 = .ok (.iconst 0, 1) := by decide +kernel
theorem dX6_beginVoyage_22 : decode cX6_beginVoyage 22 = .ok (.putfield 33, 3) := by decide +kernel
theorem dX6_beginVoyage_25 : decode cX6_beginVoyage 25 = .ok (.aload_n 0, 1) := by decide +kernel
theorem dX6_beginVoyage_26 : decode cX6_beginVoyage 26 = .ok (.iload_n 1, 1) := by decide +kernel
theorem dX6_beginVoyage_27 : decode cX6_beginVoyage 27 = .ok (.putfield 36, 3) := by decide +kernel
theorem dX6_beginVoyage_30 : decode cX6_beginVoyage 30 = .ok (.return_, 1) := by decide +kernel
theorem dX6_goAway_0 : decode cX6_goAway 0 = .ok (.aload_n 0, 1) := by decide +kernel
theorem dX6_goAway_1 : decode cX6_goAway 1 = .ok (.iconst 2, 1) := by decide +kernel
theorem dX6_goAway_2 : decode cX6_goAway 2 = .ok (.putfield 18, 3) := by decide +kernel
theorem dX6_goAway_5 : decode cX6_goAway 5 = .ok (.aload_n 0, 1) := by decide +kernel
theorem dX6_goAway_6 : decode cX6_goAway 6 = .ok (.iconst 0, 1) := by decide +kernel
theorem dX6_goAway_7 : decode cX6_goAway 7 = .ok (.invokevirtual 42, 3) := by decide +kernel
theorem dX6_goAway_10 : decode cX6_goAway 10 = .ok (.return_, 1) := by decide +kernel
theorem dX6_isGone_0 : decode cX6_isGone 0 = .ok (.aload_n 0, 1) := by decide +kernel
theorem dX6_isGone_1 : decode cX6_isGone 1 = .ok (.getfield 18, 3) := by decide +kernel
theorem dX6_isGone_4 : decode cX6_isGone 4 = .ok (.iconst 2, 1) := by decide +kernel
theorem dX6_isGone_5 : decode cX6_isGone 5 = .ok (.if_icmp .ne 7, 3) := by decide +kernel
theorem dX6_isGone_8 : decode cX6_isGone 8 = .ok (.iconst 1, 1) := by decide +kernel
theorem dX6_isGone_9 : decode cX6_isGone 9 = .ok (.goto 4, 3) := by decide +kernel
theorem dX6_isGone_12 : decode cX6_isGone 12 = .ok (.iconst 0, 1) := by decide +kernel
theorem dX6_isGone_13 : decode cX6_isGone 13 = .ok (.ireturn, 1) := by decide +kernel
theorem dX6_isOfWatch_0 : decode cX6_isOfWatch 0 = .ok (.aload_n 0, 1) := by decide +kernel
theorem dX6_isOfWatch_1 : decode cX6_isOfWatch 1 = .ok (.getfield 15, 3) := by decide +kernel
theorem dX6_isOfWatch_4 : decode cX6_isOfWatch 4 = .ok (.iload_n 1, 1) := by decide +kernel
theorem dX6_isOfWatch_5 : decode cX6_isOfWatch 5 = .ok (.if_icmp .ne 14, 3) := by decide +kernel
theorem dX6_isOfWatch_8 : decode cX6_isOfWatch 8 = .ok (.aload_n 0, 1) := by decide +kernel
theorem dX6_isOfWatch_9 : decode cX6_isOfWatch 9 = .ok (.invokevirtual 46, 3) := by decide +kernel
theorem dX6_isOfWatch_12 : decode cX6_isOfWatch 12 = .ok (.ifCond .ne 7, 3) := by decide +kernel
theorem dX6_isOfWatch_15 : decode cX6_isOfWatch 15 = .ok (.iconst 1, 1) := by decide +kernel
theorem dX6_isOfWatch_16 : decode cX6_isOfWatch 16 = .ok (.goto 4, 3) := by decide +kernel
theorem dX6_isOfWatch_19 : decode cX6_isOfWatch 19 = .ok (.iconst 0, 1) := by decide +kernel
theorem dX6_isOfWatch_20 : decode cX6_isOfWatch 20 = .ok (.ireturn, 1) := by decide +kernel
theorem dX6_passDays_0 : decode cX6_passDays 0 = .ok (.iload_n 2, 1) := by decide +kernel
theorem dX6_passDays_1 : decode cX6_passDays 1 = .ok (.ifCond .eq 16, 3) := by decide +kernel
theorem dX6_passDays_4 : decode cX6_passDays 4 = .ok (.aload_n 0, 1) := by decide +kernel
theorem dX6_passDays_5 : decode cX6_passDays 5 = .ok (.dup, 1) := by decide +kernel
theorem dX6_passDays_6 : decode cX6_passDays 6 = .ok (.getfield 21, 3) := by decide +kernel
theorem dX6_passDays_9 : decode cX6_passDays 9 = .ok (.iload_n 1, 1) := by decide +kernel
theorem dX6_passDays_10 : decode cX6_passDays 10 = .ok (.iadd, 1) := by decide +kernel
theorem dX6_passDays_11 : decode cX6_passDays 11 = .ok (.putfield 21, 3) := by decide +kernel
theorem dX6_passDays_14 : decode cX6_passDays 14 = .ok (.goto 13, 3) := by decide +kernel
theorem dX6_passDays_17 : decode cX6_passDays 17 = .ok (.aload_n 0, 1) := by decide +kernel
theorem dX6_passDays_18 : decode cX6_passDays 18 = .ok (.dup, 1) := by decide +kernel
theorem dX6_passDays_19 : decode cX6_passDays 19 = .ok (.getfield 24, 3) := by decide +kernel
theorem dX6_passDays_22 : decode cX6_passDays 22 = .ok (.iload_n 1, 1) := by decide +kernel
theorem dX6_passDays_23 : decode cX6_passDays 23 = .ok (.iadd, 1) := by decide +kernel
theorem dX6_passDays_24 : decode cX6_passDays 24 = .ok (.putfield 24, 3) := by decide +kernel
theorem dX6_passDays_27 : decode cX6_passDays 27 = .ok (.return_, 1) := by decide +kernel
theorem dX6_earned_0 : decode cX6_earned 0 = .ok (.aload_n 0, 1) := by decide +kernel
theorem dX6_earned_1 : decode cX6_earned 1 = .ok (.aload_n 0, 1) := by decide +kernel
theorem dX6_earned_2 : decode cX6_earned 2 = .ok (.getfield 21, 3) := by decide +kernel
theorem dX6_earned_5 : decode cX6_earned 5 = .ok (.aload_n 0, 1) := by decide +kernel
theorem dX6_earned_6 : decode cX6_earned 6 = .ok (.getfield 24, 3) := by decide +kernel
theorem dX6_earned_9 : decode cX6_earned 9 = .ok (.invokevirtual 50, 3) := by decide +kernel
theorem dX6_earned_12 : decode cX6_earned 12 = .ok (.ireturn, 1) := by decide +kernel
theorem dX6_earnedAfter_0 : decode cX6_earnedAfter 0 = .ok (.iload_n 2, 1) := by decide +kernel
theorem dX6_earnedAfter_1 : decode cX6_earnedAfter 1 = .ok (.ifCond .eq 20, 3) := by decide +kernel
theorem dX6_earnedAfter_4 : decode cX6_earnedAfter 4 = .ok (.aload_n 0, 1) := by decide +kernel
theorem dX6_earnedAfter_5 : decode cX6_earnedAfter 5 = .ok (.aload_n 0, 1) := by decide +kernel
theorem dX6_earnedAfter_6 : decode cX6_earnedAfter 6 = .ok (.getfield 21, 3) := by decide +kernel
theorem dX6_earnedAfter_9 : decode cX6_earnedAfter 9 = .ok (.iload_n 1, 1) := by decide +kernel
theorem dX6_earnedAfter_10 : decode cX6_earnedAfter 10 = .ok (.iadd, 1) := by decide +kernel
theorem dX6_earnedAfter_11 : decode cX6_earnedAfter 11 = .ok (.aload_n 0, 1) := by decide +kernel
theorem dX6_earnedAfter_12 : decode cX6_earnedAfter 12 = .ok (.getfield 24, 3) := by decide +kernel
theorem dX6_earnedAfter_15 : decode cX6_earnedAfter 15 = .ok (.invokevirtual 50, 3) := by decide +kernel
theorem dX6_earnedAfter_18 : decode cX6_earnedAfter 18 = .ok (.goto 17, 3) := by decide +kernel
theorem dX6_earnedAfter_21 : decode cX6_earnedAfter 21 = .ok (.aload_n 0, 1) := by decide +kernel
theorem dX6_earnedAfter_22 : decode cX6_earnedAfter 22 = .ok (.aload_n 0, 1) := by decide +kernel
theorem dX6_earnedAfter_23 : decode cX6_earnedAfter 23 = .ok (.getfield 21, 3) := by decide +kernel
theorem dX6_earnedAfter_26 : decode cX6_earnedAfter 26 = .ok (.aload_n 0, 1) := by decide +kernel
theorem dX6_earnedAfter_27 : decode cX6_earnedAfter 27 = .ok (.getfield 24, 3) := by decide +kernel
theorem dX6_earnedAfter_30 : decode cX6_earnedAfter 30 = .ok (.iload_n 1, 1) := by decide +kernel
theorem dX6_earnedAfter_31 : decode cX6_earnedAfter 31 = .ok (.iadd, 1) := by decide +kernel
theorem dX6_earnedAfter_32 : decode cX6_earnedAfter 32 = .ok (.invokevirtual 50, 3) := by decide +kernel
theorem dX6_earnedAfter_35 : decode cX6_earnedAfter 35 = .ok (.ireturn, 1) := by decide +kernel
theorem dX6_wages_0 : decode cX6_wages 0 = .ok (.aload_n 0, 1) := by decide +kernel
theorem dX6_wages_1 : decode cX6_wages 1 = .ok (.getfield 9, 3) := by decide +kernel
theorem dX6_wages_4 : decode cX6_wages 4 = .ok (.tableswitch 53 0 2 #[28, 34, 40], 28) := by decide +kernel
theorem dX6_wages_32 : decode cX6_wages 32 = .ok (.iload_n 1, 1) := by decide +kernel
theorem dX6_wages_33 : decode cX6_wages 33 = .ok (.iload_n 2, 1) := by decide +kernel
theorem dX6_wages_34 : decode cX6_wages 34 = .ok (.iadd, 1) := by decide +kernel
theorem dX6_wages_35 : decode cX6_wages 35 = .ok (.iconst 2, 1) := by decide +kernel
theorem dX6_wages_36 : decode cX6_wages 36 = .ok (.idiv, 1) := by decide +kernel
theorem dX6_wages_37 : decode cX6_wages 37 = .ok (.ireturn, 1) := by decide +kernel
theorem dX6_wages_38 : decode cX6_wages 38 = .ok (.iconst 2, 1) := by decide +kernel
theorem dX6_wages_39 : decode cX6_wages 39 = .ok (.iload_n 1, 1) := by decide +kernel
theorem dX6_wages_40 : decode cX6_wages 40 = .ok (.imul, 1) := by decide +kernel
theorem dX6_wages_41 : decode cX6_wages 41 = .ok (.iload_n 2, 1) := by decide +kernel
theorem dX6_wages_42 : decode cX6_wages 42 = .ok (.iadd, 1) := by decide +kernel
theorem dX6_wages_43 : decode cX6_wages 43 = .ok (.ireturn, 1) := by decide +kernel
theorem dX6_wages_44 : decode cX6_wages 44 = .ok (.iconst 2, 1) := by decide +kernel
theorem dX6_wages_45 : decode cX6_wages 45 = .ok (.iload_n 1, 1) := by decide +kernel
theorem dX6_wages_46 : decode cX6_wages 46 = .ok (.iload_n 2, 1) := by decide +kernel
theorem dX6_wages_47 : decode cX6_wages 47 = .ok (.iadd, 1) := by decide +kernel
theorem dX6_wages_48 : decode cX6_wages 48 = .ok (.imul, 1) := by decide +kernel
theorem dX6_wages_49 : decode cX6_wages 49 = .ok (.iload_n 1, 1) := by decide +kernel
theorem dX6_wages_50 : decode cX6_wages 50 = .ok (.iload_n 2, 1) := by decide +kernel
theorem dX6_wages_51 : decode cX6_wages 51 = .ok (.iadd, 1) := by decide +kernel
theorem dX6_wages_52 : decode cX6_wages 52 = .ok (.bipush 7, 2) := by decide +kernel
theorem dX6_wages_54 : decode cX6_wages 54 = .ok (.idiv, 1) := by decide +kernel
theorem dX6_wages_55 : decode cX6_wages 55 = .ok (.iadd, 1) := by decide +kernel
theorem dX6_wages_56 : decode cX6_wages 56 = .ok (.ireturn, 1) := by decide +kernel
theorem dX6_wages_57 : decode cX6_wages 57 = .ok (.iconst 4, 1) := by decide +kernel
theorem dX6_wages_58 : decode cX6_wages 58 = .ok (.iload_n 1, 1) := by decide +kernel
theorem dX6_wages_59 : decode cX6_wages 59 = .ok (.imul, 1) := by decide +kernel
theorem dX6_wages_60 : decode cX6_wages 60 = .ok (.iconst 2, 1) := by decide +kernel
theorem dX6_wages_61 : decode cX6_wages 61 = .ok (.iload_n 2, 1) := by decide +kernel
theorem dX6_wages_62 : decode cX6_wages 62 = .ok (.imul, 1) := by decide +kernel
theorem dX6_wages_63 : decode cX6_wages 63 = .ok (.iadd, 1) := by decide +kernel
theorem dX6_wages_64 : decode cX6_wages 64 = .ok (.ireturn, 1) := by decide +kernel
theorem dX6_charged_0 : decode cX6_charged 0 = .ok (.aload_n 0, 1) := by decide +kernel
theorem dX6_charged_1 : decode cX6_charged 1 = .ok (.getfield 27, 3) := by decide +kernel
theorem dX6_charged_4 : decode cX6_charged 4 = .ok (.aload_n 0, 1) := by decide +kernel
theorem dX6_charged_5 : decode cX6_charged 5 = .ok (.getfield 30, 3) := by decide +kernel
theorem dX6_charged_8 : decode cX6_charged 8 = .ok (.iadd, 1) := by decide +kernel
theorem dX6_charged_9 : decode cX6_charged 9 = .ok (.aload_n 0, 1) := by decide +kernel
theorem dX6_charged_10 : decode cX6_charged 10 = .ok (.getfield 33, 3) := by decide +kernel
theorem dX6_charged_13 : decode cX6_charged 13 = .ok (.iadd, 1) := by decide +kernel
theorem dX6_charged_14 : decode cX6_charged 14 = .ok (.ireturn, 1) := by decide +kernel
theorem dX6_balance_0 : decode cX6_balance 0 = .ok (.aload_n 0, 1) := by decide +kernel
theorem dX6_balance_1 : decode cX6_balance 1 = .ok (.aload_n 0, 1) := by decide +kernel
theorem dX6_balance_2 : decode cX6_balance 2 = .ok (.getfield 21, 3) := by decide +kernel
theorem dX6_balance_5 : decode cX6_balance 5 = .ok (.aload_n 0, 1) := by decide +kernel
theorem dX6_balance_6 : decode cX6_balance 6 = .ok (.getfield 24, 3) := by decide +kernel
theorem dX6_balance_9 : decode cX6_balance 9 = .ok (.invokevirtual 50, 3) := by decide +kernel
theorem dX6_balance_12 : decode cX6_balance 12 = .ok (.aload_n 0, 1) := by decide +kernel
theorem dX6_balance_13 : decode cX6_balance 13 = .ok (.getfield 36, 3) := by decide +kernel
theorem dX6_balance_16 : decode cX6_balance 16 = .ok (.isub, 1) := by decide +kernel
theorem dX6_balance_17 : decode cX6_balance 17 = .ok (.aload_n 0, 1) := by decide +kernel
theorem dX6_balance_18 : decode cX6_balance 18 = .ok (.invokevirtual 54, 3) := by decide +kernel
theorem dX6_balance_21 : decode cX6_balance 21 = .ok (.isub, 1) := by decide +kernel
theorem dX6_balance_22 : decode cX6_balance 22 = .ok (.ireturn, 1) := by decide +kernel
theorem dX6_couldBeFined_0 : decode cX6_couldBeFined 0 = .ok (.aload_n 0, 1) := by decide +kernel
theorem dX6_couldBeFined_1 : decode cX6_couldBeFined 1 = .ok (.invokevirtual 58, 3) := by decide +kernel
theorem dX6_couldBeFined_4 : decode cX6_couldBeFined 4 = .ok (.iload_n 1, 1) := by decide +kernel
theorem dX6_couldBeFined_5 : decode cX6_couldBeFined 5 = .ok (.isub, 1) := by decide +kernel
theorem dX6_couldBeFined_6 : decode cX6_couldBeFined 6 = .ok (.sipush (-4000), 3) := by decide +kernel
theorem dX6_couldBeFined_9 : decode cX6_couldBeFined 9 = .ok (.if_icmp .lt 7, 3) := by decide +kernel
theorem dX6_couldBeFined_12 : decode cX6_couldBeFined 12 = .ok (.iconst 1, 1) := by decide +kernel
theorem dX6_couldBeFined_13 : decode cX6_couldBeFined 13 = .ok (.goto 4, 3) := by decide +kernel
theorem dX6_couldBeFined_16 : decode cX6_couldBeFined 16 = .ok (.iconst 0, 1) := by decide +kernel
theorem dX6_couldBeFined_17 : decode cX6_couldBeFined 17 = .ok (.ireturn, 1) := by decide +kernel
theorem dX6_tell_0 : decode cX6_tell 0 = .ok (.iload_n 1, 1) := by decide +kernel
theorem dX6_tell_1 : decode cX6_tell 1 = .ok (.tableswitch 131 0 12 #[67, 72, 77, 82, 82, 91, 96, 101, 106, 111, 116, 121, 126], 67) := by decide +kernel
theorem dX6_tell_68 : decode cX6_tell 68 = .ok (.aload_n 0, 1) := by decide +kernel
theorem dX6_tell_69 : decode cX6_tell 69 = .ok (.getfield 9, 3) := by decide +kernel
theorem dX6_tell_72 : decode cX6_tell 72 = .ok (.ireturn, 1) := by decide +kernel
theorem dX6_tell_73 : decode cX6_tell 73 = .ok (.aload_n 0, 1) := by decide +kernel
theorem dX6_tell_74 : decode cX6_tell 74 = .ok (.getfield 15, 3) := by decide +kernel
theorem dX6_tell_77 : decode cX6_tell 77 = .ok (.ireturn, 1) := by decide +kernel
theorem dX6_tell_78 : decode cX6_tell 78 = .ok (.aload_n 0, 1) := by decide +kernel
theorem dX6_tell_79 : decode cX6_tell 79 = .ok (.getfield 18, 3) := by decide +kernel
theorem dX6_tell_82 : decode cX6_tell 82 = .ok (.ireturn, 1) := by decide +kernel
theorem dX6_tell_83 : decode cX6_tell 83 = .ok (.sipush 10000, 3) := by decide +kernel
theorem dX6_tell_86 : decode cX6_tell 86 = .ok (.aload_n 0, 1) := by decide +kernel
theorem dX6_tell_87 : decode cX6_tell 87 = .ok (.invokevirtual 58, 3) := by decide +kernel
theorem dX6_tell_90 : decode cX6_tell 90 = .ok (.iadd, 1) := by decide +kernel
theorem dX6_tell_91 : decode cX6_tell 91 = .ok (.ireturn, 1) := by decide +kernel
theorem dX6_tell_92 : decode cX6_tell 92 = .ok (.aload_n 0, 1) := by decide +kernel
theorem dX6_tell_93 : decode cX6_tell 93 = .ok (.getfield 21, 3) := by decide +kernel
theorem dX6_tell_96 : decode cX6_tell 96 = .ok (.ireturn, 1) := by decide +kernel
theorem dX6_tell_97 : decode cX6_tell 97 = .ok (.aload_n 0, 1) := by decide +kernel
theorem dX6_tell_98 : decode cX6_tell 98 = .ok (.getfield 24, 3) := by decide +kernel
theorem dX6_tell_101 : decode cX6_tell 101 = .ok (.ireturn, 1) := by decide +kernel
theorem dX6_tell_102 : decode cX6_tell 102 = .ok (.aload_n 0, 1) := by decide +kernel
theorem dX6_tell_103 : decode cX6_tell 103 = .ok (.invokevirtual 61, 3) := by decide +kernel
theorem dX6_tell_106 : decode cX6_tell 106 = .ok (.ireturn, 1) := by decide +kernel
theorem dX6_tell_107 : decode cX6_tell 107 = .ok (.aload_n 0, 1) := by decide +kernel
theorem dX6_tell_108 : decode cX6_tell 108 = .ok (.getfield 27, 3) := by decide +kernel
theorem dX6_tell_111 : decode cX6_tell 111 = .ok (.ireturn, 1) := by decide +kernel
theorem dX6_tell_112 : decode cX6_tell 112 = .ok (.aload_n 0, 1) := by decide +kernel
theorem dX6_tell_113 : decode cX6_tell 113 = .ok (.getfield 30, 3) := by decide +kernel
theorem dX6_tell_116 : decode cX6_tell 116 = .ok (.ireturn, 1) := by decide +kernel
theorem dX6_tell_117 : decode cX6_tell 117 = .ok (.aload_n 0, 1) := by decide +kernel
theorem dX6_tell_118 : decode cX6_tell 118 = .ok (.getfield 33, 3) := by decide +kernel
theorem dX6_tell_121 : decode cX6_tell 121 = .ok (.ireturn, 1) := by decide +kernel
theorem dX6_tell_122 : decode cX6_tell 122 = .ok (.aload_n 0, 1) := by decide +kernel
theorem dX6_tell_123 : decode cX6_tell 123 = .ok (.getfield 36, 3) := by decide +kernel
theorem dX6_tell_126 : decode cX6_tell 126 = .ok (.ireturn, 1) := by decide +kernel
theorem dX6_tell_127 : decode cX6_tell 127 = .ok (.aload_n 0, 1) := by decide +kernel
theorem dX6_tell_128 : decode cX6_tell 128 = .ok (.getfield 39, 3) := by decide +kernel
theorem dX6_tell_131 : decode cX6_tell 131 = .ok (.ireturn, 1) := by decide +kernel
theorem dX6_tell_132 : decode cX6_tell 132 = .ok (.ldc 64, 2) := by decide +kernel
theorem dX6_tell_134 : decode cX6_tell 134 = .ok (.ireturn, 1) := by decide +kernel
theorem dX7_init_0 : decode cX7_init 0 = .ok (.aload_n 0, 1) := by decide +kernel
theorem dX7_init_1 : decode cX7_init 1 = .ok (.invokespecial 3, 3) := by decide +kernel
theorem dX7_init_4 : decode cX7_init 4 = .ok (.aload_n 0, 1) := by decide +kernel
theorem dX7_init_5 : decode cX7_init 5 = .ok (.bipush 60, 2) := by decide +kernel
theorem dX7_init_7 : decode cX7_init 7 = .ok (.newarray .int, 2) := by decide +kernel
theorem dX7_init_9 : decode cX7_init 9 = .ok (.putfield 9, 3) := by decide +kernel
theorem dX7_init_12 : decode cX7_init 12 = .ok (.return_, 1) := by decide +kernel
theorem dX7_append_0 : decode cX7_append 0 = .ok (.iload_n 1, 1) := by decide +kernel
theorem dX7_append_1 : decode cX7_append 1 = .ok (.bipush 32, 2) := by decide +kernel
theorem dX7_append_3 : decode cX7_append 3 = .ok (.bipush 126, 2) := by decide +kernel
theorem dX7_append_5 : decode cX7_append 5 = .ok (.invokestatic 15, 3) := by decide +kernel
theorem dX7_append_8 : decode cX7_append 8 = .ok (.ifCond .ne 6, 3) := by decide +kernel
theorem dX7_append_11 : decode cX7_append 11 = .ok (.ldc 19, 2) := by decide +kernel
theorem dX7_append_13 : decode cX7_append 13 = .ok (.ireturn, 1) := by decide +kernel
theorem dX7_append_14 : decode cX7_append 14 = .ok (.aload_n 0, 1) := by decide +kernel
theorem dX7_append_15 : decode cX7_append 15 = .ok (.getfield 20, 3) := by decide +kernel
theorem dX7_append_18 : decode cX7_append 18 = .ok (.ifCond .lt 15, 3) := by decide +kernel
theorem dX7_append_21 : decode cX7_append 21 = .ok (.aload_n 0, 1) := by decide +kernel
theorem dX7_append_22 : decode cX7_append 22 = .ok (.getfield 20, 3) := by decide +kernel
theorem dX7_append_25 : decode cX7_append 25 = .ok (.aload_n 0, 1) := by decide +kernel
theorem dX7_append_26 : decode cX7_append 26 = .ok (.getfield 9, 3) := by decide +kernel
theorem dX7_append_29 : decode cX7_append 29 = .ok (.arraylength, 1) := by decide +kernel
theorem dX7_append_30 : decode cX7_append 30 = .ok (.if_icmp .lt 6, 3) := by decide +kernel
theorem dX7_append_33 : decode cX7_append 33 = .ok (.ldc 24, 2) := by decide +kernel
theorem dX7_append_35 : decode cX7_append 35 = .ok (.ireturn, 1) := by decide +kernel
theorem dX7_append_36 : decode cX7_append 36 = .ok (.aload_n 0, 1) := by decide +kernel
theorem dX7_append_37 : decode cX7_append 37 = .ok (.getfield 9, 3) := by decide +kernel
theorem dX7_append_40 : decode cX7_append 40 = .ok (.aload_n 0, 1) := by decide +kernel
theorem dX7_append_41 : decode cX7_append 41 = .ok (.getfield 20, 3) := by decide +kernel
theorem dX7_append_44 : decode cX7_append 44 = .ok (.iload_n 1, 1) := by decide +kernel
theorem dX7_append_45 : decode cX7_append 45 = .ok (.iastore, 1) := by decide +kernel
theorem dX7_append_46 : decode cX7_append 46 = .ok (.aload_n 0, 1) := by decide +kernel
theorem dX7_append_47 : decode cX7_append 47 = .ok (.dup, 1) := by decide +kernel
theorem dX7_append_48 : decode cX7_append 48 = .ok (.getfield 20, 3) := by decide +kernel
theorem dX7_append_51 : decode cX7_append 51 = .ok (.iconst 1, 1) := by decide +kernel
theorem dX7_append_52 : decode cX7_append 52 = .ok (.iadd, 1) := by decide +kernel
theorem dX7_append_53 : decode cX7_append 53 = .ok (.putfield 20, 3) := by decide +kernel
theorem dX7_append_56 : decode cX7_append 56 = .ok (.aload_n 0, 1) := by decide +kernel
theorem dX7_append_57 : decode cX7_append 57 = .ok (.getfield 20, 3) := by decide +kernel
theorem dX7_append_60 : decode cX7_append 60 = .ok (.ireturn, 1) := by decide +kernel
theorem dX7_empty_0 : decode cX7_empty 0 = .ok (.aload_n 0, 1) := by decide +kernel
theorem dX7_empty_1 : decode cX7_empty 1 = .ok (.getfield 20, 3) := by decide +kernel
theorem dX7_empty_4 : decode cX7_empty 4 = .ok (.istore_n 1, 1) := by decide +kernel
theorem dX7_empty_5 : decode cX7_empty 5 = .ok (.aload_n 0, 1) := by decide +kernel
theorem dX7_empty_6 : decode cX7_empty 6 = .ok (.iconst 0, 1) := by decide +kernel
theorem dX7_empty_7 : decode cX7_empty 7 = .ok (.putfield 20, 3) := by decide +kernel
theorem dX7_empty_10 : decode cX7_empty 10 = .ok (.iload_n 1, 1) := by decide +kernel
theorem dX7_empty_11 : decode cX7_empty 11 = .ok (.ireturn, 1) := by decide +kernel
theorem dX7_at_0 : decode cX7_at 0 = .ok (.iload_n 1, 1) := by decide +kernel
theorem dX7_at_1 : decode cX7_at 1 = .ok (.ifCond .lt 29, 3) := by decide +kernel
theorem dX7_at_4 : decode cX7_at 4 = .ok (.iload_n 1, 1) := by decide +kernel
theorem dX7_at_5 : decode cX7_at 5 = .ok (.aload_n 0, 1) := by decide +kernel
theorem dX7_at_6 : decode cX7_at 6 = .ok (.getfield 20, 3) := by decide +kernel
theorem dX7_at_9 : decode cX7_at 9 = .ok (.if_icmp .ge 21, 3) := by decide +kernel
theorem dX7_at_12 : decode cX7_at 12 = .ok (.iload_n 1, 1) := by decide +kernel
theorem dX7_at_13 : decode cX7_at 13 = .ok (.aload_n 0, 1) := by decide +kernel
theorem dX7_at_14 : decode cX7_at 14 = .ok (.getfield 9, 3) := by decide +kernel
theorem dX7_at_17 : decode cX7_at 17 = .ok (.arraylength, 1) := by decide +kernel
theorem dX7_at_18 : decode cX7_at 18 = .ok (.if_icmp .ge 12, 3) := by decide +kernel
theorem dX7_at_21 : decode cX7_at 21 = .ok (.aload_n 0, 1) := by decide +kernel
theorem dX7_at_22 : decode cX7_at 22 = .ok (.getfield 9, 3) := by decide +kernel
theorem dX7_at_25 : decode cX7_at 25 = .ok (.iload_n 1, 1) := by decide +kernel
theorem dX7_at_26 : decode cX7_at 26 = .ok (.iaload, 1) := by decide +kernel
theorem dX7_at_27 : decode cX7_at 27 = .ok (.goto 4, 3) := by decide +kernel
theorem dX7_at_30 : decode cX7_at 30 = .ok (.iconst (-1), 1) := by decide +kernel
theorem dX7_at_31 : decode cX7_at 31 = .ok (.ireturn, 1) := by decide +kernel
theorem dX8_init_0 : decode cX8_init 0 = .ok (.aload_n 0, 1) := by decide +kernel
theorem dX8_init_1 : decode cX8_init 1 = .ok (.invokespecial 3, 3) := by decide +kernel
theorem dX8_init_4 : decode cX8_init 4 = .ok (.aload_n 0, 1) := by decide +kernel
theorem dX8_init_5 : decode cX8_init 5 = .ok (.sipush 500, 3) := by decide +kernel
theorem dX8_init_8 : decode cX8_init 8 = .ok (.putfield 9, 3) := by decide +kernel
theorem dX8_init_11 : decode cX8_init 11 = .ok (.return_, 1) := by decide +kernel
theorem dX8_copyFrom_0 : decode cX8_copyFrom 0 = .ok (.aload_n 0, 1) := by decide +kernel
theorem dX8_copyFrom_1 : decode cX8_copyFrom 1 = .ok (.aload_n 1, 1) := by decide +kernel
theorem dX8_copyFrom_2 : decode cX8_copyFrom 2 = .ok (.getfield 9, 3) := by decide +kernel
theorem dX8_copyFrom_5 : decode cX8_copyFrom 5 = .ok (.putfield 9, 3) := by decide +kernel
theorem dX8_copyFrom_8 : decode cX8_copyFrom 8 = .ok (.aload_n 0, 1) := by decide +kernel
theorem dX8_copyFrom_9 : decode cX8_copyFrom 9 = .ok (.aload_n 1, 1) := by decide +kernel
theorem dX8_copyFrom_10 : decode cX8_copyFrom 10 = .ok (.getfield 15, 3) := by decide +kernel
theorem dX8_copyFrom_13 : decode cX8_copyFrom 13 = .ok (.putfield 15, 3) := by decide +kernel
theorem dX8_copyFrom_16 : decode cX8_copyFrom 16 = .ok (.aload_n 0, 1) := by decide +kernel
theorem dX8_copyFrom_17 : decode cX8_copyFrom 17 = .ok (.aload_n 1, 1) := by decide +kernel
theorem dX8_copyFrom_18 : decode cX8_copyFrom 18 = .ok (.getfield 18, 3) := by decide +kernel
theorem dX8_copyFrom_21 : decode cX8_copyFrom 21 = .ok (.putfield 18, 3) := by decide +kernel
theorem dX8_copyFrom_24 : decode cX8_copyFrom 24 = .ok (.aload_n 0, 1) := by decide +kernel
theorem dX8_copyFrom_25 : decode cX8_copyFrom 25 = .ok (.aload_n 1, 1) := by decide +kernel
theorem dX8_copyFrom_26 : decode cX8_copyFrom 26 = .ok (.getfield 21, 3) := by decide +kernel
theorem dX8_copyFrom_29 : decode cX8_copyFrom 29 = .ok (.putfield 21, 3) := by decide +kernel
theorem dX8_copyFrom_32 : decode cX8_copyFrom 32 = .ok (.aload_n 0, 1) := by decide +kernel
theorem dX8_copyFrom_33 : decode cX8_copyFrom 33 = .ok (.aload_n 1, 1) := by decide +kernel
theorem dX8_copyFrom_34 : decode cX8_copyFrom 34 = .ok (.getfield 24, 3) := by decide +kernel
theorem dX8_copyFrom_37 : decode cX8_copyFrom 37 = .ok (.putfield 24, 3) := by decide +kernel
theorem dX8_copyFrom_40 : decode cX8_copyFrom 40 = .ok (.aload_n 0, 1) := by decide +kernel
theorem dX8_copyFrom_41 : decode cX8_copyFrom 41 = .ok (.aload_n 1, 1) := by decide +kernel
theorem dX8_copyFrom_42 : decode cX8_copyFrom 42 = .ok (.getfield 27, 3) := by decide +kernel
theorem dX8_copyFrom_45 : decode cX8_copyFrom 45 = .ok (.putfield 27, 3) := by decide +kernel
theorem dX8_copyFrom_48 : decode cX8_copyFrom 48 = .ok (.aload_n 0, 1) := by decide +kernel
theorem dX8_copyFrom_49 : decode cX8_copyFrom 49 = .ok (.aload_n 1, 1) := by decide +kernel
theorem dX8_copyFrom_50 : decode cX8_copyFrom 50 = .ok (.getfield 30, 3) := by decide +kernel
theorem dX8_copyFrom_53 : decode cX8_copyFrom 53 = .ok (.putfield 30, 3) := by decide +kernel
theorem dX8_copyFrom_56 : decode cX8_copyFrom 56 = .ok (.aload_n 0, 1) := by decide +kernel
theorem dX8_copyFrom_57 : decode cX8_copyFrom 57 = .ok (.aload_n 1, 1) := by decide +kernel
theorem dX8_copyFrom_58 : decode cX8_copyFrom 58 = .ok (.getfield 33, 3) := by decide +kernel
theorem dX8_copyFrom_61 : decode cX8_copyFrom 61 = .ok (.putfield 33, 3) := by decide +kernel
theorem dX8_copyFrom_64 : decode cX8_copyFrom 64 = .ok (.return_, 1) := by decide +kernel
theorem dX8_missingFor_0 : decode cX8_missingFor 0 = .ok (.iload_n 1, 1) := by decide +kernel
theorem dX8_missingFor_1 : decode cX8_missingFor 1 = .ok (.aload_n 0, 1) := by decide +kernel
theorem dX8_missingFor_2 : decode cX8_missingFor 2 = .ok (.getfield 9, 3) := by decide +kernel
theorem dX8_missingFor_5 : decode cX8_missingFor 5 = .ok (.if_icmp .le 12, 3) := by decide +kernel
theorem dX8_missingFor_8 : decode cX8_missingFor 8 = .ok (.iload_n 1, 1) := by decide +kernel
theorem dX8_missingFor_9 : decode cX8_missingFor 9 = .ok (.aload_n 0, 1) := by decide +kernel
theorem dX8_missingFor_10 : decode cX8_missingFor 10 = .ok (.getfield 9, 3) := by decide +kernel
theorem dX8_missingFor_13 : decode cX8_missingFor 13 = .ok (.isub, 1) := by decide +kernel
theorem dX8_missingFor_14 : decode cX8_missingFor 14 = .ok (.goto 4, 3) := by decide +kernel
theorem dX8_missingFor_17 : decode cX8_missingFor 17 = .ok (.iconst 0, 1) := by decide +kernel
theorem dX8_missingFor_18 : decode cX8_missingFor 18 = .ok (.ireturn, 1) := by decide +kernel
theorem dX8_takeCash_0 : decode cX8_takeCash 0 = .ok (.aload_n 0, 1) := by decide +kernel
theorem dX8_takeCash_1 : decode cX8_takeCash 1 = .ok (.iload_n 1, 1) := by decide +kernel
theorem dX8_takeCash_2 : decode cX8_takeCash 2 = .ok (.invokevirtual 36, 3) := by decide +kernel
theorem dX8_takeCash_5 : decode cX8_takeCash 5 = .ok (.istore_n 2, 1) := by decide +kernel
theorem dX8_takeCash_6 : decode cX8_takeCash 6 = .ok (.aload_n 0, 1) := by decide +kernel
theorem dX8_takeCash_7 : decode cX8_takeCash 7 = .ok (.dup, 1) := by decide +kernel
theorem dX8_takeCash_8 : decode cX8_takeCash 8 = .ok (.getfield 15, 3) := by decide +kernel
theorem dX8_takeCash_11 : decode cX8_takeCash 11 = .ok (.iload_n 2, 1) := by decide +kernel
theorem dX8_takeCash_12 : decode cX8_takeCash 12 = .ok (.iadd, 1) := by decide +kernel
theorem dX8_takeCash_13 : decode cX8_takeCash 13 = .ok (.putfield 15, 3) := by decide +kernel
theorem dX8_takeCash_16 : decode cX8_takeCash 16 = .ok (.aload_n 0, 1) := by decide +kernel
theorem dX8_takeCash_17 : decode cX8_takeCash 17 = .ok (.dup, 1) := by decide +kernel
theorem dX8_takeCash_18 : decode cX8_takeCash 18 = .ok (.getfield 9, 3) := by decide +kernel
theorem dX8_takeCash_21 : decode cX8_takeCash 21 = .ok (.iload_n 2, 1) := by decide +kernel
theorem dX8_takeCash_22 : decode cX8_takeCash 22 = .ok (.iload_n 1, 1) := by decide +kernel
theorem dX8_takeCash_23 : decode cX8_takeCash 23 = .ok (.isub, 1) := by decide +kernel
theorem dX8_takeCash_24 : decode cX8_takeCash 24 = .ok (.iadd, 1) := by decide +kernel
theorem dX8_takeCash_25 : decode cX8_takeCash 25 = .ok (.putfield 9, 3) := by decide +kernel
theorem dX8_takeCash_28 : decode cX8_takeCash 28 = .ok (.return_, 1) := by decide +kernel
theorem dX9_init_0 : decode cX9_init 0 = .ok (.aload_n 0, 1) := by decide +kernel
theorem dX9_init_1 : decode cX9_init 1 = .ok (.invokespecial 1, 3) := by decide +kernel
theorem dX9_init_4 : decode cX9_init 4 = .ok (.aload_n 0, 1) := by decide +kernel
theorem dX9_init_5 : decode cX9_init 5 = .ok (.new 7, 3) := by decide +kernel
theorem dX9_init_8 : decode cX9_init 8 = .ok (.dup, 1) := by decide +kernel
theorem dX9_init_9 : decode cX9_init 9 = .ok (.invokespecial 9, 3) := by decide +kernel
theorem dX9_init_12 : decode cX9_init 12 = .ok (.putfield 10, 3) := by decide +kernel
theorem dX9_init_15 : decode cX9_init 15 = .ok (.aload_n 0, 1) := by decide +kernel
theorem dX9_init_16 : decode cX9_init 16 = .ok (.new 7, 3) := by decide +kernel
theorem dX9_init_19 : decode cX9_init 19 = .ok (.dup, 1) := by decide +kernel
theorem dX9_init_20 : decode cX9_init 20 = .ok (.invokespecial 9, 3) := by decide +kernel
theorem dX9_init_23 : decode cX9_init 23 = .ok (.putfield 16, 3) := by decide +kernel
theorem dX9_init_26 : decode cX9_init 26 = .ok (.aload_n 0, 1) := by decide +kernel
theorem dX9_init_27 : decode cX9_init 27 = .ok (.new 19, 3) := by decide +kernel
theorem dX9_init_30 : decode cX9_init 30 = .ok (.dup, 1) := by decide +kernel
theorem dX9_init_31 : decode cX9_init 31 = .ok (.invokespecial 21, 3) := by decide +kernel
theorem dX9_init_34 : decode cX9_init 34 = .ok (.putfield 22, 3) := by decide +kernel
theorem dX9_init_37 : decode cX9_init 37 = .ok (.aload_n 0, 1) := by decide +kernel
theorem dX9_init_38 : decode cX9_init 38 = .ok (.new 26, 3) := by decide +kernel
theorem dX9_init_41 : decode cX9_init 41 = .ok (.dup, 1) := by decide +kernel
theorem dX9_init_42 : decode cX9_init 42 = .ok (.invokespecial 28, 3) := by decide +kernel
theorem dX9_init_45 : decode cX9_init 45 = .ok (.putfield 29, 3) := by decide +kernel
theorem dX9_init_48 : decode cX9_init 48 = .ok (.aload_n 0, 1) := by decide +kernel
theorem dX9_init_49 : decode cX9_init 49 = .ok (.new 33, 3) := by decide +kernel
theorem dX9_init_52 : decode cX9_init 52 = .ok (.dup, 1) := by decide +kernel
theorem dX9_init_53 : decode cX9_init 53 = .ok (.invokespecial 35, 3) := by decide +kernel
theorem dX9_init_56 : decode cX9_init 56 = .ok (.putfield 36, 3) := by decide +kernel
theorem dX9_init_59 : decode cX9_init 59 = .ok (.return_, 1) := by decide +kernel
theorem dX9_sign_0 : decode cX9_sign 0 = .ok (.aload_n 0, 1) := by decide +kernel
theorem dX9_sign_1 : decode cX9_sign 1 = .ok (.aload_n 0, 1) := by decide +kernel
theorem dX9_sign_2 : decode cX9_sign 2 = .ok (.invokevirtual 40, 3) := by decide +kernel
theorem dX9_sign_5 : decode cX9_sign 5 = .ok (.iload_n 1, 1) := by decide +kernel
theorem dX9_sign_6 : decode cX9_sign 6 = .ok (.iload_n 2, 1) := by decide +kernel
theorem dX9_sign_7 : decode cX9_sign 7 = .ok (.invokevirtual 44, 3) := by decide +kernel
theorem dX9_sign_10 : decode cX9_sign 10 = .ok (.invokevirtual 48, 3) := by decide +kernel
theorem dX9_sign_13 : decode cX9_sign 13 = .ok (.ireturn, 1) := by decide +kernel
theorem dX9_stock_0 : decode cX9_stock 0 = .ok (.aload_n 0, 1) := by decide +kernel
theorem dX9_stock_1 : decode cX9_stock 1 = .ok (.aload_n 0, 1) := by decide +kernel
theorem dX9_stock_2 : decode cX9_stock 2 = .ok (.invokevirtual 40, 3) := by decide +kernel
theorem dX9_stock_5 : decode cX9_stock 5 = .ok (.iload_n 1, 1) := by decide +kernel
theorem dX9_stock_6 : decode cX9_stock 6 = .ok (.iload_n 2, 1) := by decide +kernel
theorem dX9_stock_7 : decode cX9_stock 7 = .ok (.iload_n 3, 1) := by decide +kernel
theorem dX9_stock_8 : decode cX9_stock 8 = .ok (.invokevirtual 52, 3) := by decide +kernel
theorem dX9_stock_11 : decode cX9_stock 11 = .ok (.invokevirtual 48, 3) := by decide +kernel
theorem dX9_stock_14 : decode cX9_stock 14 = .ok (.ireturn, 1) := by decide +kernel
theorem dX9_sell_0 : decode cX9_sell 0 = .ok (.aload_n 0, 1) := by decide +kernel
theorem dX9_sell_1 : decode cX9_sell 1 = .ok (.aload_n 0, 1) := by decide +kernel
theorem dX9_sell_2 : decode cX9_sell 2 = .ok (.invokevirtual 40, 3) := by decide +kernel
theorem dX9_sell_5 : decode cX9_sell 5 = .ok (.iload_n 1, 1) := by decide +kernel
theorem dX9_sell_6 : decode cX9_sell 6 = .ok (.iload_n 2, 1) := by decide +kernel
theorem dX9_sell_7 : decode cX9_sell 7 = .ok (.iload_n 3, 1) := by decide +kernel
theorem dX9_sell_8 : decode cX9_sell 8 = .ok (.invokevirtual 56, 3) := by decide +kernel
theorem dX9_sell_11 : decode cX9_sell 11 = .ok (.invokevirtual 48, 3) := by decide +kernel
theorem dX9_sell_14 : decode cX9_sell 14 = .ok (.ireturn, 1) := by decide +kernel
theorem dX9_advance_0 : decode cX9_advance 0 = .ok (.aload_n 0, 1) := by decide +kernel
theorem dX9_advance_1 : decode cX9_advance 1 = .ok (.aload_n 0, 1) := by decide +kernel
theorem dX9_advance_2 : decode cX9_advance 2 = .ok (.invokevirtual 40, 3) := by decide +kernel
theorem dX9_advance_5 : decode cX9_advance 5 = .ok (.iload_n 1, 1) := by decide +kernel
theorem dX9_advance_6 : decode cX9_advance 6 = .ok (.iload_n 2, 1) := by decide +kernel
theorem dX9_advance_7 : decode cX9_advance 7 = .ok (.invokevirtual 59, 3) := by decide +kernel
theorem dX9_advance_10 : decode cX9_advance 10 = .ok (.invokevirtual 48, 3) := by decide +kernel
theorem dX9_advance_13 : decode cX9_advance 13 = .ok (.ireturn, 1) := by decide +kernel
theorem dX9_fine_0 : decode cX9_fine 0 = .ok (.aload_n 0, 1) := by decide +kernel
theorem dX9_fine_1 : decode cX9_fine 1 = .ok (.aload_n 0, 1) := by decide +kernel
theorem dX9_fine_2 : decode cX9_fine 2 = .ok (.invokevirtual 40, 3) := by decide +kernel
theorem dX9_fine_5 : decode cX9_fine 5 = .ok (.iload_n 1, 1) := by decide +kernel
theorem dX9_fine_6 : decode cX9_fine 6 = .ok (.iload_n 2, 1) := by decide +kernel
theorem dX9_fine_7 : decode cX9_fine 7 = .ok (.invokevirtual 62, 3) := by decide +kernel
theorem dX9_fine_10 : decode cX9_fine 10 = .ok (.invokevirtual 48, 3) := by decide +kernel
theorem dX9_fine_13 : decode cX9_fine 13 = .ok (.ireturn, 1) := by decide +kernel
theorem dX9_fineWatch_0 : decode cX9_fineWatch 0 = .ok (.aload_n 0, 1) := by decide +kernel
theorem dX9_fineWatch_1 : decode cX9_fineWatch 1 = .ok (.aload_n 0, 1) := by decide +kernel
theorem dX9_fineWatch_2 : decode cX9_fineWatch 2 = .ok (.invokevirtual 40, 3) := by decide +kernel
theorem dX9_fineWatch_5 : decode cX9_fineWatch 5 = .ok (.iload_n 1, 1) := by decide +kernel
theorem dX9_fineWatch_6 : decode cX9_fineWatch 6 = .ok (.iload_n 2, 1) := by decide +kernel
theorem dX9_fineWatch_7 : decode cX9_fineWatch 7 = .ok (.invokevirtual 65, 3) := by decide +kernel
theorem dX9_fineWatch_10 : decode cX9_fineWatch 10 = .ok (.invokevirtual 48, 3) := by decide +kernel
theorem dX9_fineWatch_13 : decode cX9_fineWatch 13 = .ok (.ireturn, 1) := by decide +kernel
theorem dX9_leave_0 : decode cX9_leave 0 = .ok (.aload_n 0, 1) := by decide +kernel
theorem dX9_leave_1 : decode cX9_leave 1 = .ok (.aload_n 0, 1) := by decide +kernel
theorem dX9_leave_2 : decode cX9_leave 2 = .ok (.invokevirtual 40, 3) := by decide +kernel
theorem dX9_leave_5 : decode cX9_leave 5 = .ok (.iload_n 1, 1) := by decide +kernel
theorem dX9_leave_6 : decode cX9_leave 6 = .ok (.invokevirtual 68, 3) := by decide +kernel
theorem dX9_leave_9 : decode cX9_leave 9 = .ok (.invokevirtual 48, 3) := by decide +kernel
theorem dX9_leave_12 : decode cX9_leave 12 = .ok (.ireturn, 1) := by decide +kernel
theorem dX9_back_0 : decode cX9_back 0 = .ok (.aload_n 0, 1) := by decide +kernel
theorem dX9_back_1 : decode cX9_back 1 = .ok (.aload_n 0, 1) := by decide +kernel
theorem dX9_back_2 : decode cX9_back 2 = .ok (.invokevirtual 40, 3) := by decide +kernel
theorem dX9_back_5 : decode cX9_back 5 = .ok (.iload_n 1, 1) := by decide +kernel
theorem dX9_back_6 : decode cX9_back 6 = .ok (.iload_n 2, 1) := by decide +kernel
theorem dX9_back_7 : decode cX9_back 7 = .ok (.invokevirtual 71, 3) := by decide +kernel
theorem dX9_back_10 : decode cX9_back 10 = .ok (.invokevirtual 48, 3) := by decide +kernel
theorem dX9_back_13 : decode cX9_back 13 = .ok (.ireturn, 1) := by decide +kernel
theorem dX9_sail_0 : decode cX9_sail 0 = .ok (.aload_n 0, 1) := by decide +kernel
theorem dX9_sail_1 : decode cX9_sail 1 = .ok (.aload_n 0, 1) := by decide +kernel
theorem dX9_sail_2 : decode cX9_sail 2 = .ok (.invokevirtual 40, 3) := by decide +kernel
theorem dX9_sail_5 : decode cX9_sail 5 = .ok (.invokevirtual 74, 3) := by decide +kernel
theorem dX9_sail_8 : decode cX9_sail 8 = .ok (.invokevirtual 48, 3) := by decide +kernel
theorem dX9_sail_11 : decode cX9_sail 11 = .ok (.ireturn, 1) := by decide +kernel
theorem dX9_port_0 : decode cX9_port 0 = .ok (.aload_n 0, 1) := by decide +kernel
theorem dX9_port_1 : decode cX9_port 1 = .ok (.aload_n 0, 1) := by decide +kernel
theorem dX9_port_2 : decode cX9_port 2 = .ok (.invokevirtual 40, 3) := by decide +kernel
theorem dX9_port_5 : decode cX9_port 5 = .ok (.invokevirtual 78, 3) := by decide +kernel
theorem dX9_port_8 : decode cX9_port 8 = .ok (.invokevirtual 48, 3) := by decide +kernel
theorem dX9_port_11 : decode cX9_port 11 = .ok (.ireturn, 1) := by decide +kernel
theorem dX9_days_0 : decode cX9_days 0 = .ok (.aload_n 0, 1) := by decide +kernel
theorem dX9_days_1 : decode cX9_days 1 = .ok (.aload_n 0, 1) := by decide +kernel
theorem dX9_days_2 : decode cX9_days 2 = .ok (.invokevirtual 40, 3) := by decide +kernel
theorem dX9_days_5 : decode cX9_days 5 = .ok (.iload_n 1, 1) := by decide +kernel
theorem dX9_days_6 : decode cX9_days 6 = .ok (.invokevirtual 81, 3) := by decide +kernel
theorem dX9_days_9 : decode cX9_days 9 = .ok (.invokevirtual 48, 3) := by decide +kernel
theorem dX9_days_12 : decode cX9_days 12 = .ok (.ireturn, 1) := by decide +kernel
theorem dX9_dismiss_0 : decode cX9_dismiss 0 = .ok (.aload_n 0, 1) := by decide +kernel
theorem dX9_dismiss_1 : decode cX9_dismiss 1 = .ok (.aload_n 0, 1) := by decide +kernel
theorem dX9_dismiss_2 : decode cX9_dismiss 2 = .ok (.invokevirtual 40, 3) := by decide +kernel
theorem dX9_dismiss_5 : decode cX9_dismiss 5 = .ok (.iload_n 1, 1) := by decide +kernel
theorem dX9_dismiss_6 : decode cX9_dismiss 6 = .ok (.invokevirtual 84, 3) := by decide +kernel
theorem dX9_dismiss_9 : decode cX9_dismiss 9 = .ok (.invokevirtual 48, 3) := by decide +kernel
theorem dX9_dismiss_12 : decode cX9_dismiss 12 = .ok (.ireturn, 1) := by decide +kernel
theorem dX9_payOff_0 : decode cX9_payOff 0 = .ok (.aload_n 0, 1) := by decide +kernel
theorem dX9_payOff_1 : decode cX9_payOff 1 = .ok (.aload_n 0, 1) := by decide +kernel
theorem dX9_payOff_2 : decode cX9_payOff 2 = .ok (.invokevirtual 40, 3) := by decide +kernel
theorem dX9_payOff_5 : decode cX9_payOff 5 = .ok (.invokevirtual 87, 3) := by decide +kernel
theorem dX9_payOff_8 : decode cX9_payOff 8 = .ok (.invokevirtual 48, 3) := by decide +kernel
theorem dX9_payOff_11 : decode cX9_payOff 11 = .ok (.ireturn, 1) := by decide +kernel
theorem dX9_set_0 : decode cX9_set 0 = .ok (.aload_n 0, 1) := by decide +kernel
theorem dX9_set_1 : decode cX9_set 1 = .ok (.aload_n 0, 1) := by decide +kernel
theorem dX9_set_2 : decode cX9_set 2 = .ok (.invokevirtual 40, 3) := by decide +kernel
theorem dX9_set_5 : decode cX9_set 5 = .ok (.iload_n 1, 1) := by decide +kernel
theorem dX9_set_6 : decode cX9_set 6 = .ok (.iload_n 2, 1) := by decide +kernel
theorem dX9_set_7 : decode cX9_set 7 = .ok (.invokevirtual 90, 3) := by decide +kernel
theorem dX9_set_10 : decode cX9_set 10 = .ok (.invokevirtual 48, 3) := by decide +kernel
theorem dX9_set_13 : decode cX9_set 13 = .ok (.ireturn, 1) := by decide +kernel
theorem dX9_sailor_0 : decode cX9_sailor 0 = .ok (.aload_n 0, 1) := by decide +kernel
theorem dX9_sailor_1 : decode cX9_sailor 1 = .ok (.getfield 10, 3) := by decide +kernel
theorem dX9_sailor_4 : decode cX9_sailor 4 = .ok (.iload_n 1, 1) := by decide +kernel
theorem dX9_sailor_5 : decode cX9_sailor 5 = .ok (.invokevirtual 93, 3) := by decide +kernel
theorem dX9_sailor_8 : decode cX9_sailor 8 = .ok (.astore_n 3, 1) := by decide +kernel
theorem dX9_sailor_9 : decode cX9_sailor 9 = .ok (.aload_n 3, 1) := by decide +kernel
theorem dX9_sailor_10 : decode cX9_sailor 10 = .ok (.ifnonnull 8, 3) := by decide +kernel
theorem dX9_sailor_13 : decode cX9_sailor 13 = .ok (.ldc 97, 2) := by decide +kernel
theorem dX9_sailor_15 : decode cX9_sailor 15 = .ok (.goto 8, 3) := by decide +kernel
theorem dX9_sailor_18 : decode cX9_sailor 18 = .ok (.aload_n 3, 1) := by decide +kernel
theorem dX9_sailor_19 : decode cX9_sailor 19 = .ok (.iload_n 2, 1) := by decide +kernel
theorem dX9_sailor_20 : decode cX9_sailor 20 = .ok (.invokevirtual 98, 3) := by decide +kernel
theorem dX9_sailor_23 : decode cX9_sailor 23 = .ok (.ireturn, 1) := by decide +kernel
theorem dX9_item_0 : decode cX9_item 0 = .ok (.aload_n 0, 1) := by decide +kernel
theorem dX9_item_1 : decode cX9_item 1 = .ok (.getfield 10, 3) := by decide +kernel
theorem dX9_item_4 : decode cX9_item 4 = .ok (.iload_n 1, 1) := by decide +kernel
theorem dX9_item_5 : decode cX9_item 5 = .ok (.invokevirtual 103, 3) := by decide +kernel
theorem dX9_item_8 : decode cX9_item 8 = .ok (.astore_n 3, 1) := by decide +kernel
theorem dX9_item_9 : decode cX9_item 9 = .ok (.aload_n 3, 1) := by decide +kernel
theorem dX9_item_10 : decode cX9_item 10 = .ok (.ifnonnull 8, 3) := by decide +kernel
theorem dX9_item_13 : decode cX9_item 13 = .ok (.ldc 97, 2) := by decide +kernel
theorem dX9_item_15 : decode cX9_item 15 = .ok (.goto 8, 3) := by decide +kernel
theorem dX9_item_18 : decode cX9_item 18 = .ok (.aload_n 3, 1) := by decide +kernel
theorem dX9_item_19 : decode cX9_item 19 = .ok (.iload_n 2, 1) := by decide +kernel
theorem dX9_item_20 : decode cX9_item 20 = .ok (.invokevirtual 107, 3) := by decide +kernel
theorem dX9_item_23 : decode cX9_item 23 = .ok (.ireturn, 1) := by decide +kernel
theorem dX9_book_0 : decode cX9_book 0 = .ok (.aload_n 0, 1) := by decide +kernel
theorem dX9_book_1 : decode cX9_book 1 = .ok (.getfield 10, 3) := by decide +kernel
theorem dX9_book_4 : decode cX9_book 4 = .ok (.getfield 110, 3) := by decide +kernel
theorem dX9_book_7 : decode cX9_book 7 = .ok (.iload_n 1, 1) := by decide +kernel
theorem dX9_book_8 : decode cX9_book 8 = .ok (.iload_n 2, 1) := by decide +kernel
theorem dX9_book_9 : decode cX9_book 9 = .ok (.invokevirtual 114, 3) := by decide +kernel
theorem dX9_book_12 : decode cX9_book 12 = .ok (.ireturn, 1) := by decide +kernel
theorem dX9_why_0 : decode cX9_why 0 = .ok (.aload_n 0, 1) := by decide +kernel
theorem dX9_why_1 : decode cX9_why 1 = .ok (.getfield 10, 3) := by decide +kernel
theorem dX9_why_4 : decode cX9_why 4 = .ok (.iload_n 1, 1) := by decide +kernel
theorem dX9_why_5 : decode cX9_why 5 = .ok (.iload_n 2, 1) := by decide +kernel
theorem dX9_why_6 : decode cX9_why 6 = .ok (.iload_n 3, 1) := by decide +kernel
theorem dX9_why_7 : decode cX9_why 7 = .ok (.invokevirtual 118, 3) := by decide +kernel
theorem dX9_why_10 : decode cX9_why 10 = .ok (.ireturn, 1) := by decide +kernel
theorem dX9_most_0 : decode cX9_most 0 = .ok (.aload_n 0, 1) := by decide +kernel
theorem dX9_most_1 : decode cX9_most 1 = .ok (.getfield 10, 3) := by decide +kernel
theorem dX9_most_4 : decode cX9_most 4 = .ok (.iload_n 1, 1) := by decide +kernel
theorem dX9_most_5 : decode cX9_most 5 = .ok (.iload_n 2, 1) := by decide +kernel
theorem dX9_most_6 : decode cX9_most 6 = .ok (.invokevirtual 121, 3) := by decide +kernel
theorem dX9_most_9 : decode cX9_most 9 = .ok (.ireturn, 1) := by decide +kernel
theorem dX9_clearIn_0 : decode cX9_clearIn 0 = .ok (.aload_n 0, 1) := by decide +kernel
theorem dX9_clearIn_1 : decode cX9_clearIn 1 = .ok (.getfield 10, 3) := by decide +kernel
theorem dX9_clearIn_4 : decode cX9_clearIn 4 = .ok (.iload_n 1, 1) := by decide +kernel
theorem dX9_clearIn_5 : decode cX9_clearIn 5 = .ok (.invokevirtual 124, 3) := by decide +kernel
theorem dX9_clearIn_8 : decode cX9_clearIn 8 = .ok (.ireturn, 1) := by decide +kernel
theorem dX9_ifPaidOff_0 : decode cX9_ifPaidOff 0 = .ok (.aload_n 0, 1) := by decide +kernel
theorem dX9_ifPaidOff_1 : decode cX9_ifPaidOff 1 = .ok (.getfield 10, 3) := by decide +kernel
theorem dX9_ifPaidOff_4 : decode cX9_ifPaidOff 4 = .ok (.iload_n 1, 1) := by decide +kernel
theorem dX9_ifPaidOff_5 : decode cX9_ifPaidOff 5 = .ok (.invokevirtual 127, 3) := by decide +kernel
theorem dX9_ifPaidOff_8 : decode cX9_ifPaidOff 8 = .ok (.ireturn, 1) := by decide +kernel
theorem dX9_poorest_0 : decode cX9_poorest 0 = .ok (.aload_n 0, 1) := by decide +kernel
theorem dX9_poorest_1 : decode cX9_poorest 1 = .ok (.getfield 10, 3) := by decide +kernel
theorem dX9_poorest_4 : decode cX9_poorest 4 = .ok (.iload_n 1, 1) := by decide +kernel
theorem dX9_poorest_5 : decode cX9_poorest 5 = .ok (.invokevirtual 130, 3) := by decide +kernel
theorem dX9_poorest_8 : decode cX9_poorest 8 = .ok (.ireturn, 1) := by decide +kernel
theorem dX9_share_0 : decode cX9_share 0 = .ok (.aload_n 0, 1) := by decide +kernel
theorem dX9_share_1 : decode cX9_share 1 = .ok (.getfield 10, 3) := by decide +kernel
theorem dX9_share_4 : decode cX9_share 4 = .ok (.invokevirtual 133, 3) := by decide +kernel
theorem dX9_share_7 : decode cX9_share 7 = .ok (.ireturn, 1) := by decide +kernel
theorem dX9_count_0 : decode cX9_count 0 = .ok (.iload_n 1, 1) := by decide +kernel
theorem dX9_count_1 : decode cX9_count 1 = .ok (.bipush 17, 2) := by decide +kernel
theorem dX9_count_3 : decode cX9_count 3 = .ok (.if_icmp .ne 11, 3) := by decide +kernel
theorem dX9_count_6 : decode cX9_count 6 = .ok (.aload_n 0, 1) := by decide +kernel
theorem dX9_count_7 : decode cX9_count 7 = .ok (.getfield 22, 3) := by decide +kernel
theorem dX9_count_10 : decode cX9_count 10 = .ok (.getfield 136, 3) := by decide +kernel
theorem dX9_count_13 : decode cX9_count 13 = .ok (.ireturn, 1) := by decide +kernel
theorem dX9_count_14 : decode cX9_count 14 = .ok (.iload_n 1, 1) := by decide +kernel
theorem dX9_count_15 : decode cX9_count 15 = .ok (.bipush 18, 2) := by decide +kernel
theorem dX9_count_17 : decode cX9_count 17 = .ok (.if_icmp .ne 11, 3) := by decide +kernel
theorem dX9_count_20 : decode cX9_count 20 = .ok (.aload_n 0, 1) := by decide +kernel
theorem dX9_count_21 : decode cX9_count 21 = .ok (.getfield 29, 3) := by decide +kernel
theorem dX9_count_24 : decode cX9_count 24 = .ok (.getfield 140, 3) := by decide +kernel
theorem dX9_count_27 : decode cX9_count 27 = .ok (.ireturn, 1) := by decide +kernel
theorem dX9_count_28 : decode cX9_count 28 = .ok (.aload_n 0, 1) := by decide +kernel
theorem dX9_count_29 : decode cX9_count 29 = .ok (.getfield 10, 3) := by decide +kernel
theorem dX9_count_32 : decode cX9_count 32 = .ok (.iload_n 1, 1) := by decide +kernel
theorem dX9_count_33 : decode cX9_count 33 = .ok (.invokevirtual 143, 3) := by decide +kernel
theorem dX9_count_36 : decode cX9_count 36 = .ok (.ireturn, 1) := by decide +kernel
theorem dX9_undo_0 : decode cX9_undo 0 = .ok (.aload_n 0, 1) := by decide +kernel
theorem dX9_undo_1 : decode cX9_undo 1 = .ok (.getfield 22, 3) := by decide +kernel
theorem dX9_undo_4 : decode cX9_undo 4 = .ok (.aload_n 0, 1) := by decide +kernel
theorem dX9_undo_5 : decode cX9_undo 5 = .ok (.getfield 10, 3) := by decide +kernel
theorem dX9_undo_8 : decode cX9_undo 8 = .ok (.invokevirtual 144, 3) := by decide +kernel
theorem dX9_undo_11 : decode cX9_undo 11 = .ok (.ireturn, 1) := by decide +kernel
theorem dX9_type_0 : decode cX9_type 0 = .ok (.aload_n 0, 1) := by decide +kernel
theorem dX9_type_1 : decode cX9_type 1 = .ok (.getfield 29, 3) := by decide +kernel
theorem dX9_type_4 : decode cX9_type 4 = .ok (.iload_n 1, 1) := by decide +kernel
theorem dX9_type_5 : decode cX9_type 5 = .ok (.invokevirtual 148, 3) := by decide +kernel
theorem dX9_type_8 : decode cX9_type 8 = .ok (.ireturn, 1) := by decide +kernel
theorem dX9_clearText_0 : decode cX9_clearText 0 = .ok (.aload_n 0, 1) := by decide +kernel
theorem dX9_clearText_1 : decode cX9_clearText 1 = .ok (.getfield 29, 3) := by decide +kernel
theorem dX9_clearText_4 : decode cX9_clearText 4 = .ok (.invokevirtual 151, 3) := by decide +kernel
theorem dX9_clearText_7 : decode cX9_clearText 7 = .ok (.ireturn, 1) := by decide +kernel
theorem dX9_fault_0 : decode cX9_fault 0 = .ok (.iload_n 1, 1) := by decide +kernel
theorem dX9_fault_1 : decode cX9_fault 1 = .ok (.iconst 0, 1) := by decide +kernel
theorem dX9_fault_2 : decode cX9_fault 2 = .ok (.iconst 2, 1) := by decide +kernel
theorem dX9_fault_3 : decode cX9_fault 3 = .ok (.invokestatic 154, 3) := by decide +kernel
theorem dX9_fault_6 : decode cX9_fault 6 = .ok (.ifCond .ne 6, 3) := by decide +kernel
theorem dX9_fault_9 : decode cX9_fault 9 = .ok (.ldc 97, 2) := by decide +kernel
theorem dX9_fault_11 : decode cX9_fault 11 = .ok (.ireturn, 1) := by decide +kernel
theorem dX9_fault_12 : decode cX9_fault 12 = .ok (.aload_n 0, 1) := by decide +kernel
theorem dX9_fault_13 : decode cX9_fault 13 = .ok (.getfield 36, 3) := by decide +kernel
theorem dX9_fault_16 : decode cX9_fault 16 = .ok (.aload_n 0, 1) := by decide +kernel
theorem dX9_fault_17 : decode cX9_fault 17 = .ok (.getfield 29, 3) := by decide +kernel
theorem dX9_fault_20 : decode cX9_fault 20 = .ok (.aload_n 0, 1) := by decide +kernel
theorem dX9_fault_21 : decode cX9_fault 21 = .ok (.invokevirtual 40, 3) := by decide +kernel
theorem dX9_fault_24 : decode cX9_fault 24 = .ok (.invokevirtual 158, 3) := by decide +kernel
theorem dX9_fault_27 : decode cX9_fault 27 = .ok (.aload_n 0, 1) := by decide +kernel
theorem dX9_fault_28 : decode cX9_fault 28 = .ok (.getfield 36, 3) := by decide +kernel
theorem dX9_fault_31 : decode cX9_fault 31 = .ok (.iload_n 1, 1) := by decide +kernel
theorem dX9_fault_32 : decode cX9_fault 32 = .ok (.invokevirtual 162, 3) := by decide +kernel
theorem dX9_fault_35 : decode cX9_fault 35 = .ok (.ireturn, 1) := by decide +kernel
theorem dX9_play_0 : decode cX9_play 0 = .ok (.aload_n 0, 1) := by decide +kernel
theorem dX9_play_1 : decode cX9_play 1 = .ok (.getfield 36, 3) := by decide +kernel
theorem dX9_play_4 : decode cX9_play 4 = .ok (.aload_n 0, 1) := by decide +kernel
theorem dX9_play_5 : decode cX9_play 5 = .ok (.getfield 29, 3) := by decide +kernel
theorem dX9_play_8 : decode cX9_play 8 = .ok (.aload_n 0, 1) := by decide +kernel
theorem dX9_play_9 : decode cX9_play 9 = .ok (.invokevirtual 40, 3) := by decide +kernel
theorem dX9_play_12 : decode cX9_play 12 = .ok (.invokevirtual 158, 3) := by decide +kernel
theorem dX9_play_15 : decode cX9_play 15 = .ok (.aload_n 0, 1) := by decide +kernel
theorem dX9_play_16 : decode cX9_play 16 = .ok (.aload_n 0, 1) := by decide +kernel
theorem dX9_play_17 : decode cX9_play 17 = .ok (.getfield 36, 3) := by decide +kernel
theorem dX9_play_20 : decode cX9_play 20 = .ok (.invokevirtual 165, 3) := by decide +kernel
theorem dX9_play_23 : decode cX9_play 23 = .ok (.ifCond .eq 8, 3) := by decide +kernel
theorem dX9_play_26 : decode cX9_play 26 = .ok (.ldc 169, 2) := by decide +kernel
theorem dX9_play_28 : decode cX9_play 28 = .ok (.goto 10, 3) := by decide +kernel
theorem dX9_play_31 : decode cX9_play 31 = .ok (.aload_n 0, 1) := by decide +kernel
theorem dX9_play_32 : decode cX9_play 32 = .ok (.getfield 36, 3) := by decide +kernel
theorem dX9_play_35 : decode cX9_play 35 = .ok (.getfield 170, 3) := by decide +kernel
theorem dX9_play_38 : decode cX9_play 38 = .ok (.invokevirtual 48, 3) := by decide +kernel
theorem dX9_play_41 : decode cX9_play 41 = .ok (.ireturn, 1) := by decide +kernel
theorem dX9_newTrial_0 : decode cX9_newTrial 0 = .ok (.aload_n 0, 1) := by decide +kernel
theorem dX9_newTrial_1 : decode cX9_newTrial 1 = .ok (.getfield 16, 3) := by decide +kernel
theorem dX9_newTrial_4 : decode cX9_newTrial 4 = .ok (.aload_n 0, 1) := by decide +kernel
theorem dX9_newTrial_5 : decode cX9_newTrial 5 = .ok (.getfield 10, 3) := by decide +kernel
theorem dX9_newTrial_8 : decode cX9_newTrial 8 = .ok (.invokevirtual 173, 3) := by decide +kernel
theorem dX9_newTrial_11 : decode cX9_newTrial 11 = .ok (.aload_n 0, 1) := by decide +kernel
theorem dX9_newTrial_12 : decode cX9_newTrial 12 = .ok (.getfield 16, 3) := by decide +kernel
theorem dX9_newTrial_15 : decode cX9_newTrial 15 = .ok (.areturn, 1) := by decide +kernel
theorem dX9_settleTrial_0 : decode cX9_settleTrial 0 = .ok (.iload_n 1, 1) := by decide +kernel
theorem dX9_settleTrial_1 : decode cX9_settleTrial 1 = .ok (.ifCond .lt 25, 3) := by decide +kernel
theorem dX9_settleTrial_4 : decode cX9_settleTrial 4 = .ok (.aload_n 0, 1) := by decide +kernel
theorem dX9_settleTrial_5 : decode cX9_settleTrial 5 = .ok (.getfield 22, 3) := by decide +kernel
theorem dX9_settleTrial_8 : decode cX9_settleTrial 8 = .ok (.aload_n 0, 1) := by decide +kernel
theorem dX9_settleTrial_9 : decode cX9_settleTrial 9 = .ok (.getfield 10, 3) := by decide +kernel
theorem dX9_settleTrial_12 : decode cX9_settleTrial 12 = .ok (.invokevirtual 177, 3) := by decide +kernel
theorem dX9_settleTrial_15 : decode cX9_settleTrial 15 = .ok (.aload_n 0, 1) := by decide +kernel
theorem dX9_settleTrial_16 : decode cX9_settleTrial 16 = .ok (.getfield 10, 3) := by decide +kernel
theorem dX9_settleTrial_19 : decode cX9_settleTrial 19 = .ok (.aload_n 0, 1) := by decide +kernel
theorem dX9_settleTrial_20 : decode cX9_settleTrial 20 = .ok (.getfield 16, 3) := by decide +kernel
theorem dX9_settleTrial_23 : decode cX9_settleTrial 23 = .ok (.invokevirtual 173, 3) := by decide +kernel
theorem dX9_settleTrial_26 : decode cX9_settleTrial 26 = .ok (.iload_n 1, 1) := by decide +kernel
theorem dX9_settleTrial_27 : decode cX9_settleTrial 27 = .ok (.ireturn, 1) := by decide +kernel
theorem dX9_within_0 : decode cX9_within 0 = .ok (.iload_n 0, 1) := by decide +kernel
theorem dX9_within_1 : decode cX9_within 1 = .ok (.iload_n 1, 1) := by decide +kernel
theorem dX9_within_2 : decode cX9_within 2 = .ok (.if_icmp .lt 12, 3) := by decide +kernel
theorem dX9_within_5 : decode cX9_within 5 = .ok (.iload_n 0, 1) := by decide +kernel
theorem dX9_within_6 : decode cX9_within 6 = .ok (.iload_n 2, 1) := by decide +kernel
theorem dX9_within_7 : decode cX9_within 7 = .ok (.if_icmp .gt 7, 3) := by decide +kernel
theorem dX9_within_10 : decode cX9_within 10 = .ok (.iconst 1, 1) := by decide +kernel
theorem dX9_within_11 : decode cX9_within 11 = .ok (.goto 4, 3) := by decide +kernel
theorem dX9_within_14 : decode cX9_within 14 = .ok (.iconst 0, 1) := by decide +kernel
theorem dX9_within_15 : decode cX9_within 15 = .ok (.ireturn, 1) := by decide +kernel
theorem dX9_copyNumbers_0 : decode cX9_copyNumbers 0 = .ok (.iconst 0, 1) := by decide +kernel
theorem dX9_copyNumbers_1 : decode cX9_copyNumbers 1 = .ok (.istore_n 2, 1) := by decide +kernel
theorem dX9_copyNumbers_2 : decode cX9_copyNumbers 2 = .ok (.iload_n 2, 1) := by decide +kernel
theorem dX9_copyNumbers_3 : decode cX9_copyNumbers 3 = .ok (.aload_n 0, 1) := by decide +kernel
theorem dX9_copyNumbers_4 : decode cX9_copyNumbers 4 = .ok (.arraylength, 1) := by decide +kernel
theorem dX9_copyNumbers_5 : decode cX9_copyNumbers 5 = .ok (.if_icmp .ge 21, 3) := by decide +kernel
theorem dX9_copyNumbers_8 : decode cX9_copyNumbers 8 = .ok (.iload_n 2, 1) := by decide +kernel
theorem dX9_copyNumbers_9 : decode cX9_copyNumbers 9 = .ok (.aload_n 1, 1) := by decide +kernel
theorem dX9_copyNumbers_10 : decode cX9_copyNumbers 10 = .ok (.arraylength, 1) := by decide +kernel
theorem dX9_copyNumbers_11 : decode cX9_copyNumbers 11 = .ok (.if_icmp .ge 15, 3) := by decide +kernel
theorem dX9_copyNumbers_14 : decode cX9_copyNumbers 14 = .ok (.aload_n 1, 1) := by decide +kernel
theorem dX9_copyNumbers_15 : decode cX9_copyNumbers 15 = .ok (.iload_n 2, 1) := by decide +kernel
theorem dX9_copyNumbers_16 : decode cX9_copyNumbers 16 = .ok (.aload_n 0, 1) := by decide +kernel
theorem dX9_copyNumbers_17 : decode cX9_copyNumbers 17 = .ok (.iload_n 2, 1) := by decide +kernel
theorem dX9_copyNumbers_18 : decode cX9_copyNumbers 18 = .ok (.iaload, 1) := by decide +kernel
theorem dX9_copyNumbers_19 : decode cX9_copyNumbers 19 = .ok (.iastore, 1) := by decide +kernel
theorem dX9_copyNumbers_20 : decode cX9_copyNumbers 20 = .ok (.iinc 2 1, 3) := by decide +kernel
theorem dX9_copyNumbers_23 : decode cX9_copyNumbers 23 = .ok (.goto (-21), 3) := by decide +kernel
theorem dX9_copyNumbers_26 : decode cX9_copyNumbers 26 = .ok (.return_, 1) := by decide +kernel
theorem dX9_bitsOf_0 : decode cX9_bitsOf 0 = .ok (.fload_n 0, 1) := by decide +kernel
theorem dX9_bitsOf_1 : decode cX9_bitsOf 1 = .ok (.fconst 0, 1) := by decide +kernel
theorem dX9_bitsOf_2 : decode cX9_bitsOf 2 = .ok (.fcmp .l, 1) := by decide +kernel
theorem dX9_bitsOf_3 : decode cX9_bitsOf 3 = .ok (.ifCond .gt 5, 3) := by decide +kernel
theorem dX9_bitsOf_6 : decode cX9_bitsOf 6 = .ok (.iconst 0, 1) := by decide +kernel
theorem dX9_bitsOf_7 : decode cX9_bitsOf 7 = .ok (.ireturn, 1) := by decide +kernel
theorem dX9_bitsOf_8 : decode cX9_bitsOf 8 = .ok (.fload_n 0, 1) := by decide +kernel
theorem dX9_bitsOf_9 : decode cX9_bitsOf 9 = .ok (.fstore_n 1, 1) := by decide +kernel
theorem dX9_bitsOf_10 : decode cX9_bitsOf 10 = .ok (.bipush 127, 2) := by decide +kernel
theorem dX9_bitsOf_12 : decode cX9_bitsOf 12 = .ok (.istore_n 2, 1) := by decide +kernel
theorem dX9_bitsOf_13 : decode cX9_bitsOf 13 = .ok (.iconst 0, 1) := by decide +kernel
theorem dX9_bitsOf_14 : decode cX9_bitsOf 14 = .ok (.istore_n 3, 1) := by decide +kernel
theorem dX9_bitsOf_15 : decode cX9_bitsOf 15 = .ok (.iload_n 3, 1) := by decide +kernel
theorem dX9_bitsOf_16 : decode cX9_bitsOf 16 = .ok (.sipush 128, 3) := by decide +kernel
theorem dX9_bitsOf_19 : decode cX9_bitsOf 19 = .ok (.if_icmp .ge 22, 3) := by decide +kernel
theorem dX9_bitsOf_22 : decode cX9_bitsOf 22 = .ok (.fload_n 1, 1) := by decide +kernel
theorem dX9_bitsOf_23 : decode cX9_bitsOf 23 = .ok (.fconst 2, 1) := by decide +kernel
theorem dX9_bitsOf_24 : decode cX9_bitsOf 24 = .ok (.fcmp .l, 1) := by decide +kernel
theorem dX9_bitsOf_25 : decode cX9_bitsOf 25 = .ok (.ifCond .lt 16, 3) := by decide +kernel
theorem dX9_bitsOf_28 : decode cX9_bitsOf 28 = .ok (.fload_n 1, 1) := by decide +kernel
theorem dX9_bitsOf_29 : decode cX9_bitsOf 29 = .ok (.fconst 2, 1) := by decide +kernel
theorem dX9_bitsOf_30 : decode cX9_bitsOf 30 = .ok (.fdiv, 1) := by decide +kernel
theorem dX9_bitsOf_31 : decode cX9_bitsOf 31 = .ok (.fstore_n 1, 1) := by decide +kernel
theorem dX9_bitsOf_32 : decode cX9_bitsOf 32 = .ok (.iinc 2 1, 3) := by decide +kernel
theorem dX9_bitsOf_35 : decode cX9_bitsOf 35 = .ok (.iinc 3 1, 3) := by decide +kernel
theorem dX9_bitsOf_38 : decode cX9_bitsOf 38 = .ok (.goto (-23), 3) := by decide +kernel
theorem dX9_bitsOf_41 : decode cX9_bitsOf 41 = .ok (.iconst 0, 1) := by decide +kernel
theorem dX9_bitsOf_42 : decode cX9_bitsOf 42 = .ok (.istore_n 3, 1) := by decide +kernel
theorem dX9_bitsOf_43 : decode cX9_bitsOf 43 = .ok (.iload_n 3, 1) := by decide +kernel
theorem dX9_bitsOf_44 : decode cX9_bitsOf 44 = .ok (.sipush 128, 3) := by decide +kernel
theorem dX9_bitsOf_47 : decode cX9_bitsOf 47 = .ok (.if_icmp .ge 22, 3) := by decide +kernel
theorem dX9_bitsOf_50 : decode cX9_bitsOf 50 = .ok (.fload_n 1, 1) := by decide +kernel
theorem dX9_bitsOf_51 : decode cX9_bitsOf 51 = .ok (.fconst 1, 1) := by decide +kernel
theorem dX9_bitsOf_52 : decode cX9_bitsOf 52 = .ok (.fcmp .g, 1) := by decide +kernel
theorem dX9_bitsOf_53 : decode cX9_bitsOf 53 = .ok (.ifCond .ge 16, 3) := by decide +kernel
theorem dX9_bitsOf_56 : decode cX9_bitsOf 56 = .ok (.fload_n 1, 1) := by decide +kernel
theorem dX9_bitsOf_57 : decode cX9_bitsOf 57 = .ok (.fconst 2, 1) := by decide +kernel
theorem dX9_bitsOf_58 : decode cX9_bitsOf 58 = .ok (.fmul, 1) := by decide +kernel
theorem dX9_bitsOf_59 : decode cX9_bitsOf 59 = .ok (.fstore_n 1, 1) := by decide +kernel
theorem dX9_bitsOf_60 : decode cX9_bitsOf 60 = .ok (.iinc 2 (-1), 3) := by decide +kernel
theorem dX9_bitsOf_63 : decode cX9_bitsOf 63 = .ok (.iinc 3 1, 3) := by decide +kernel
theorem dX9_bitsOf_66 : decode cX9_bitsOf 66 = .ok (.goto (-23), 3) := by decide +kernel
theorem dX9_bitsOf_69 : decode cX9_bitsOf 69 = .ok (.iload_n 2, 1) := by decide +kernel
theorem dX9_bitsOf_70 : decode cX9_bitsOf 70 = .ok (.bipush 23, 2) := by decide +kernel
theorem dX9_bitsOf_72 : decode cX9_bitsOf 72 = .ok (.ishl, 1) := by decide +kernel
theorem dX9_bitsOf_73 : decode cX9_bitsOf 73 = .ok (.fload_n 1, 1) := by decide +kernel
theorem dX9_bitsOf_74 : decode cX9_bitsOf 74 = .ok (.fconst 1, 1) := by decide +kernel
theorem dX9_bitsOf_75 : decode cX9_bitsOf 75 = .ok (.fsub, 1) := by decide +kernel
theorem dX9_bitsOf_76 : decode cX9_bitsOf 76 = .ok (.ldc 180, 2) := by decide +kernel
theorem dX9_bitsOf_78 : decode cX9_bitsOf 78 = .ok (.fmul, 1) := by decide +kernel
theorem dX9_bitsOf_79 : decode cX9_bitsOf 79 = .ok (.f2i, 1) := by decide +kernel
theorem dX9_bitsOf_80 : decode cX9_bitsOf 80 = .ok (.iadd, 1) := by decide +kernel
theorem dX9_bitsOf_81 : decode cX9_bitsOf 81 = .ok (.ireturn, 1) := by decide +kernel
theorem dJxf58ca_isNaN_12338_0 : decode cJxf58ca_isNaN_12338 0 = .ok (.fload_n 0, 1) := by decide +kernel
theorem dJxf58ca_isNaN_12338_1 : decode cJxf58ca_isNaN_12338 1 = .ok (.fload_n 0, 1) := by decide +kernel
theorem dJxf58ca_isNaN_12338_2 : decode cJxf58ca_isNaN_12338 2 = .ok (.fcmp .l, 1) := by decide +kernel
theorem dJxf58ca_isNaN_12338_3 : decode cJxf58ca_isNaN_12338 3 = .ok (.ifCond .eq 7, 3) := by decide +kernel
theorem dJxf58ca_isNaN_12338_6 : decode cJxf58ca_isNaN_12338 6 = .ok (.iconst 1, 1) := by decide +kernel
theorem dJxf58ca_isNaN_12338_7 : decode cJxf58ca_isNaN_12338 7 = .ok (.goto 4, 3) := by decide +kernel
theorem dJxf58ca_isNaN_12338_10 : decode cJxf58ca_isNaN_12338 10 = .ok (.iconst 0, 1) := by decide +kernel
theorem dJxf58ca_isNaN_12338_11 : decode cJxf58ca_isNaN_12338 11 = .ok (.ireturn, 1) := by decide +kernel
theorem dJxf58ca_floatToIntBits_5c35a_0 : decode cJxf58ca_floatToIntBits_5c35a 0 = .ok (.fload_n 0, 1) := by decide +kernel
theorem dJxf58ca_floatToIntBits_5c35a_1 : decode cJxf58ca_floatToIntBits_5c35a 1 = .ok (.invokestatic 59, 3) := by decide +kernel
theorem dJxf58ca_floatToIntBits_5c35a_4 : decode cJxf58ca_floatToIntBits_5c35a 4 = .ok (.ifCond .ne 8, 3) := by decide +kernel
theorem dJxf58ca_floatToIntBits_5c35a_7 : decode cJxf58ca_floatToIntBits_5c35a 7 = .ok (.fload_n 0, 1) := by decide +kernel
theorem dJxf58ca_floatToIntBits_5c35a_8 : decode cJxf58ca_floatToIntBits_5c35a 8 = .ok (.invokestatic 74, 3) := by decide +kernel
theorem dJxf58ca_floatToIntBits_5c35a_11 : decode cJxf58ca_floatToIntBits_5c35a 11 = .ok (.ireturn, 1) := by decide +kernel
theorem dJxf58ca_floatToIntBits_5c35a_12 : decode cJxf58ca_floatToIntBits_5c35a 12 = .ok (.ldc 77, 2) := by decide +kernel
theorem dJxf58ca_floatToIntBits_5c35a_14 : decode cJxf58ca_floatToIntBits_5c35a 14 = .ok (.ireturn, 1) := by decide +kernel
theorem dJ9_max_7cf53_0 : decode cJ9_max_7cf53 0 = .ok (.iload_n 0, 1) := by decide +kernel
theorem dJ9_max_7cf53_1 : decode cJ9_max_7cf53 1 = .ok (.iload_n 1, 1) := by decide +kernel
theorem dJ9_max_7cf53_2 : decode cJ9_max_7cf53 2 = .ok (.if_icmp .lt 7, 3) := by decide +kernel
theorem dJ9_max_7cf53_5 : decode cJ9_max_7cf53 5 = .ok (.iload_n 0, 1) := by decide +kernel
theorem dJ9_max_7cf53_6 : decode cJ9_max_7cf53 6 = .ok (.goto 4, 3) := by decide +kernel
theorem dJ9_max_7cf53_9 : decode cJ9_max_7cf53 9 = .ok (.iload_n 1, 1) := by decide +kernel
theorem dJ9_max_7cf53_10 : decode cJ9_max_7cf53 10 = .ok (.ireturn, 1) := by decide +kernel
theorem dJ9_min_7cf53_0 : decode cJ9_min_7cf53 0 = .ok (.iload_n 0, 1) := by decide +kernel
theorem dJ9_min_7cf53_1 : decode cJ9_min_7cf53 1 = .ok (.iload_n 1, 1) := by decide +kernel
theorem dJ9_min_7cf53_2 : decode cJ9_min_7cf53 2 = .ok (.if_icmp .gt 7, 3) := by decide +kernel
theorem dJ9_min_7cf53_5 : decode cJ9_min_7cf53 5 = .ok (.iload_n 0, 1) := by decide +kernel
theorem dJ9_min_7cf53_6 : decode cJ9_min_7cf53 6 = .ok (.goto 4, 3) := by decide +kernel
theorem dJ9_min_7cf53_9 : decode cJ9_min_7cf53 9 = .ok (.iload_n 1, 1) := by decide +kernel
theorem dJ9_min_7cf53_10 : decode cJ9_min_7cf53 10 = .ok (.ireturn, 1) := by decide +kernel
end
section
/-! THE SMALL MACHINE: a method's start, its contract and its steps over a picture V of the heap: V says what stands at each address of the world; the heap itself, the locals' row and what was written are hidden. -/
abbrev KT : Type := va_G × (Nat → ClassId) × Nat × Nat × Nat
abbrev VW : Type := Nat → Option va_E
def kn (K : KT) : Nat := K.2.2.1
def kA (K : KT) : Nat → Prop := fun q => kn K ≤ q
def tysK (K : KT) : List (ClassId × FieldType) := [(K.2.1 0, .int), (K.2.1 1, .object RX6), (K.2.1 2, .object RX3), (K.2.1 3, .object RX0)]
def nestM : List (String × Nat × MethodName) := [(RX0, 17, yX6_init), (RX0, 24, yX3_init), (RX0, 32, yX9_copyNumbers), (RX1, 21, yX9_copyNumbers), (RX0, 80, yX9_within), (RX1, 33, yX9_within), (RX0, 240, yX9_bitsOf), (RX7, 15, yX9_within), (RX4, 39, yX9_within)]
def hv (K : KT) (V : VW) (H : Heap) : Prop := ∀ (a : Nat) (x : va_E), V a = some x → kn K ≤ a ∧ va_at K.1 vwCl (a, x) H
def KU (K : KT) (U : State) : Prop := va_K K.1 vwCl (tysK K) U ∧ (∀ q ∈ nestM, va_Nw (.methodLinkNest q.1 q.2.1 q.2.2 RX9) U) ∧ (va_Nw (.fieldLinkNest RX0 206 RX9 "HIGHEST_SETTINGS" "[I" RX9) U ∧ va_Nw (.fieldLinkNest RX0 25 RX9 "FIRST_SETTINGS" "[I" RX9) U) ∧ va_AO RX6 U ∧ va_AO RX3 U ∧ va_AO RX0 U
def fS (j : Nat) : Int32 := if j = 0 then 50 else if j = 1 then 25 else 2
def hS (j : Nat) : Int32 := if j = 0 then 500 else if j = 1 then 200 else 50
def ZU (K : KT) (U : State) (H : Heap) : Prop := va_Z RX9 "FIRST_SETTINGS" "[I" (.ref K.2.2.2.1) (kA K) U H ∧ va_T .int K.2.2.2.1 3 (fun j => .int (fS j)) (kA K) U H ∧ va_Z RX9 "HIGHEST_SETTINGS" "[I" (.ref K.2.2.2.2) (kA K) U H ∧ va_T .int K.2.2.2.2 3 (fun j => .int (hS j)) (kA K) U H
def Wd (K : KT) (sz : Nat) (V : VW) (U : State) : Prop := U.heap.size = sz ∧ kn K ≤ sz ∧ hv K V U.heap ∧ KU K U ∧ ZU K U U.heap
def rmL (d mc ms : Nat) : Room := { frames := d, cells := mc, slots := ms, locals := 30 * d }
def QCt (K : KT) (rv : Option Value) (V : VW) (sz : Nat) : Array Value → State → Outcome → State → Prop := fun _ st oc t => oc = .returned rv ∧ t.heap.size = sz ∧ hv K V t.heap ∧ va_F (kA K) st t
/-- a contract: from the picture V the method y returns rv and leaves the picture V' -/
def Ct (l : Launch) (K : KT) (y : MethodName) (cc : ByteArray) (maxL : Nat) (ret : Option FieldType) (d : Nat) (As : List Value) (V : VW) (sz : Nat) (rv : Option Value) (V' : VW) (sz' mc ms : Nat) : Prop :=
  Met l y (wsO y cc maxL ret) (rmL d mc ms) (va_Pc As (Wd K sz V)) (QCt K rv V' sz') mc ms (kA K)
def Cx (K : KT) (p : Program) (s : State) (m : MethodId) (args : Array Value) (meth : Method) (c : Code) (own : String) (cc : ByteArray) (nL : Nat) (ret : Option FieldType) : Prop :=
  p.tables.exec = Jvm.exec ∧ c.code = cc ∧ c.maxLocals = nL ∧ s.vm.findClass own = some m.cls ∧ (∀ w ∈ wsL_law, w.before args s = true) ∧ KU K s ∧ ZU K s s.heap ∧ kn K ≤ s.heap.size ∧ meth.locks = false ∧ meth.sig.returnType = ret
def vset (V : VW) (a : Nat) (x : va_E) : VW := fun q => if q = a then some x else V q
theorem vset_self (V : VW) (a : Nat) (x : va_E) : vset V a x a = some x := if_pos rfl
theorem vset_ne (V : VW) {a q : Nat} (x : va_E) (h : q ≠ a) : vset V a x q = V q := if_neg h
theorem KU.moved {K : KT} {u U : State} (hW : u.WarmedH U.vm) (h : KU K u) : KU K U :=
  ⟨va_K.moved hW.alike h.1, fun q hq => va_Nw.warmM hW (h.2.1 q hq), ⟨va_Nw.warmF hW h.2.2.1.1, va_Nw.warmF hW h.2.2.1.2⟩, va_AO.moved hW.alike h.2.2.2.1, va_AO.moved hW.alike h.2.2.2.2.1, va_AO.moved hW.alike h.2.2.2.2.2⟩
theorem KU.same {K : KT} {u U : State} (hE : u.vm = U.vm) (h : KU K u) : KU K U := by
  have hA : u.vm.Alike U.vm := by rw [hE]; exact Vm.Alike.refl _
  exact ⟨va_K.moved hA h.1, fun q hq => va_Nw.same rfl hE (h.2.1 q hq), ⟨va_Nw.same rfl hE h.2.2.1.1, va_Nw.same rfl hE h.2.2.1.2⟩, va_AO.moved hA h.2.2.2.1, va_AO.moved hA h.2.2.2.2.1, va_AO.moved hA h.2.2.2.2.2⟩
theorem ZU.moved {K : KT} {u U : State} {H : Heap} (hA : u.vm.Alike U.vm) (h : ZU K u H) : ZU K U H := ⟨va_Z.moved hA h.1, va_T.moved hA h.2.1, va_Z.moved hA h.2.2.1, va_T.moved hA h.2.2.2⟩
theorem ZU.kept {K : KT} {U : State} {H H1 : Heap} (h : ZU K U H) (hq : ∀ a : Nat, a < H.size → ¬ kA K a → H1[a]? = H[a]?) : ZU K U H1 := ⟨va_Z.kept h.1 hq, va_T.kept h.2.1 hq, va_Z.kept h.2.2.1 hq, va_T.kept h.2.2.2 hq⟩
theorem Wd.blind {K : KT} {sz : Nat} {V : VW} {As : List Value} : FrameBlind (va_Pc As (Wd K sz V)) := by
  intro a U g mk h
  obtain ⟨h0, h1, h2, h3, h4, h5⟩ := h
  exact ⟨h0, h1, h2, h3, h4.same rfl, h5.moved (Vm.Alike.refl U.vm)⟩
section GS
variable {K : KT} {p : Program} {l : Launch} {e : Env} {R : Room} {s : State} {m : MethodId} {args : Array Value} {below : List Frame} {meth : Method} {c : Code} {Q : State → Prop} {nL : Nat} {own : String} {cc : ByteArray} {ret : Option FieldType}
variable {V : VW} {sz cells slots pc : Nat} {lv : List (Nat × Value)} {st : List Value}
def G (K : KT) (p : Program) (l : Launch) (e : Env) (R : Room) (s : State) (m : MethodId) (args : Array Value) (below : List Frame) (meth : Method) (c : Code) (Q : State → Prop) (nL : Nat) (V : VW) (sz cells slots pc : Nat) (lv : List (Nat × Value)) (st : List Value) : Prop :=
  ∀ (H : Heap) (locs : List Loc) (ls : Array Slot), H.size = sz → hv K V H → va_S (kA K) s.heap H locs → lv_has ls nL lv → W p l e R s m args below meth c H locs cells slots Q (F0 m pc ls st)
theorem G.cast {V' : VW} (h : V = V') (kk : G K p l e R s m args below meth c Q nL V' sz cells slots pc lv st) : G K p l e R s m args below meth c Q nL V sz cells slots pc lv st := h ▸ kk
theorem G.castS {st' : List Value} (h : st = st') (kk : G K p l e R s m args below meth c Q nL V sz cells slots pc lv st') : G K p l e R s m args below meth c Q nL V sz cells slots pc lv st := h ▸ kk
theorem G.castL {lv' : List (Nat × Value)} (ps : List Nat) (h : lv_pick lv ps = lv') (kk : G K p l e R s m args below meth c Q nL V sz cells slots pc lv' st) : G K p l e R s m args below meth c Q nL V sz cells slots pc lv st :=
  fun H locs ls h1 h2 h3 h4 => kk H locs ls h1 h2 h3 (lv_sub h4 ps h)
theorem Ct.ofG {y : MethodName} {maxL : Nat} {d : Nat} {As : List Value} {rv : Option Value} {V' : VW} {sz' mc ms : Nat} (hy : plainName y.cls = true) (hA : (lg_sl As).length ≤ maxL)
    (body : ∀ (p : Program) (e : Env) (s : State) (m : MethodId) (args : Array Value) (below : List Frame) (meth : Method) (c : Code), Cx K p s m args meth c y.cls cc maxL ret → meth.name = y.name →
      G K p l e (rmL d mc ms) s m args below meth c (MQ below (QCt K rv V' sz') args s mc ms (kA K)) maxL V sz 0 0 0 (lv_args 0 As) []) : Ct l K y cc maxL ret d As V sz rv V' sz' mc ms := by
  refine Met.ofW (cc := cc) (maxL := maxL) (ret := ret) hy rfl ?_
  intro p e s m args below meth c s₁ B hml hp
  obtain ⟨rfl, hz, hn, hh, hK, hZ⟩ := hp
  have hts := atoms_spec (ws := wsO y cc maxL ret) B.pre
  have hin : meth.name = y.name := (name_of_methodNamed B.named B.method).1
  rw [lg_entry_eq]
  exact body p e s m _ below meth c ⟨B.exec, B.bytes, hml, findClass_of_methodNamed B.named, fun w hw => hts w (List.mem_cons_of_mem _ hw), hK, hZ, by rw [hz]; exact hn, B.notSynchronized, B.returns⟩ hin s.heap [] _ hz hh va_S.rf (lv_entry As hA)
theorem G.iret {rv : Option Value} {V' : VW} {sz' : Nat} {v : Int32} (cx : Cx K p s m args meth c own cc nL ret) (hr : ret = some .int) (hd : decode cc pc = .ok (.ireturn, 1)) (hv' : rv = some (.int v)) (hV : V = V') (hz : sz = sz') :
    G K p l e R s m args below meth c (MQ below (QCt K rv V' sz') args s cells slots (kA K)) nL V sz cells slots pc lv [.int v] := by
  intro H locs ls h1 h2 h3 h4
  obtain ⟨hx, hb, -, -, -, -, -, -, hlk, hrt⟩ := cx
  subst hV; subst hz; subst hv'
  exact W.iret hx hb (hrt.trans hr) (fun t ht hW => ⟨rfl, by rw [ht]; exact h1, by rw [ht]; exact h2, h3.F ht⟩) h3.2.2 hd hlk
theorem G.zret {rv : Option Value} {V' : VW} {sz' : Nat} {v : Int32} (cx : Cx K p s m args meth c own cc nL ret) (hr : ret = some .boolean) (hd : decode cc pc = .ok (.ireturn, 1)) (hn : narrow .boolean (.int v) = .int v) (hv' : rv = some (.int v)) (hV : V = V') (hz : sz = sz') :
    G K p l e R s m args below meth c (MQ below (QCt K rv V' sz') args s cells slots (kA K)) nL V sz cells slots pc lv [.int v] := by
  intro H locs ls h1 h2 h3 h4
  obtain ⟨hx, hb, -, -, -, -, -, -, hlk, hrt⟩ := cx
  subst hV; subst hz; subst hv'
  exact W.zret (ty := .boolean) hx hb (hrt.trans hr) hn (fun t ht hW => ⟨rfl, by rw [ht]; exact h1, by rw [ht]; exact h2, h3.F ht⟩) h3.2.2 hd hlk
theorem G.vret {rv : Option Value} {V' : VW} {sz' : Nat} (cx : Cx K p s m args meth c own cc nL ret) (hr : ret = none) (hd : decode cc pc = .ok (.return_, 1)) (hv' : rv = none) (hV : V = V') (hz : sz = sz') :
    G K p l e R s m args below meth c (MQ below (QCt K rv V' sz') args s cells slots (kA K)) nL V sz cells slots pc lv [] := by
  intro H locs ls h1 h2 h3 h4
  obtain ⟨hx, hb, -, -, -, -, -, -, hlk, hrt⟩ := cx
  subst hV; subst hz; subst hv'
  exact W.vret hx hb (hrt.trans hr) (fun t ht hW => ⟨rfl, by rw [ht]; exact h1, by rw [ht]; exact h2, h3.F ht⟩) h3.2.2 hd hlk
theorem G.aretq {rv : Option Value} {V' : VW} {sz' : Nat} {v : Value} {rt : FieldType} (cx : Cx K p s m args meth c own cc nL ret) (hr : ret = some rt) (hn : (∃ n, rt = .object n) ∨ ∃ t, rt = .array t) (hq : v = .null ∨ ∃ a, v = .ref a) (hd : decode cc pc = .ok (.areturn, 1)) (hv' : rv = some v) (hV : V = V') (hz : sz = sz') :
    G K p l e R s m args below meth c (MQ below (QCt K rv V' sz') args s cells slots (kA K)) nL V sz cells slots pc lv [v] := by
  intro H locs ls h1 h2 h3 h4
  obtain ⟨hx, hb, -, -, -, -, -, -, hlk, hrt⟩ := cx
  subst hV; subst hz; subst hv'
  exact W.aret (rt := rt) hx hb (hrt.trans hr) hn hq (fun t ht hW => ⟨rfl, by rw [ht]; exact h1, by rw [ht]; exact h2, h3.F ht⟩) h3.2.2 hd hlk
theorem G.iload_n (cx : Cx K p s m args meth c own cc nL ret) {k : Fin 4} {i : Nat} {x : Int32} (hd : decode cc pc = .ok (.iload_n k, 1)) (hi : (k : Nat) = i) (q : Nat) (hl : lv[q]? = some (i, .int x)) (kk : G K p l e R s m args below meth c Q nL V sz cells slots (pc + 1) lv (.int x :: st)) : G K p l e R s m args below meth c Q nL V sz cells slots pc lv st := fun H locs ls h1 h2 h3 h4 => lv_iload_n cx.1 cx.2.1 hd hi (lv_at h4 q hl) (kk H locs ls h1 h2 h3 h4)
theorem G.iload (cx : Cx K p s m args meth c own cc nL ret) {i : Nat} {x : Int32} (hd : decode cc pc = .ok (.iload i, 2)) (q : Nat) (hl : lv[q]? = some (i, .int x)) (kk : G K p l e R s m args below meth c Q nL V sz cells slots (pc + 2) lv (.int x :: st)) : G K p l e R s m args below meth c Q nL V sz cells slots pc lv st := fun H locs ls h1 h2 h3 h4 => lv_iload cx.1 cx.2.1 hd (lv_at h4 q hl) (kk H locs ls h1 h2 h3 h4)
theorem G.aload_n (cx : Cx K p s m args meth c own cc nL ret) {k : Fin 4} {i : Nat} {x : Nat} (hd : decode cc pc = .ok (.aload_n k, 1)) (hi : (k : Nat) = i) (q : Nat) (hl : lv[q]? = some (i, .ref x)) (kk : G K p l e R s m args below meth c Q nL V sz cells slots (pc + 1) lv (.ref x :: st)) : G K p l e R s m args below meth c Q nL V sz cells slots pc lv st := fun H locs ls h1 h2 h3 h4 => lv_aload_n cx.1 cx.2.1 hd hi (lv_at h4 q hl) (kk H locs ls h1 h2 h3 h4)
theorem G.aload (cx : Cx K p s m args meth c own cc nL ret) {i : Nat} {x : Nat} (hd : decode cc pc = .ok (.aload i, 2)) (q : Nat) (hl : lv[q]? = some (i, .ref x)) (kk : G K p l e R s m args below meth c Q nL V sz cells slots (pc + 2) lv (.ref x :: st)) : G K p l e R s m args below meth c Q nL V sz cells slots pc lv st := fun H locs ls h1 h2 h3 h4 => lv_aload cx.1 cx.2.1 hd (lv_at h4 q hl) (kk H locs ls h1 h2 h3 h4)
theorem G.fload_n (cx : Cx K p s m args meth c own cc nL ret) {k : Fin 4} {i : Nat} {x : UInt32} (hd : decode cc pc = .ok (.fload_n k, 1)) (hi : (k : Nat) = i) (q : Nat) (hl : lv[q]? = some (i, .float x)) (kk : G K p l e R s m args below meth c Q nL V sz cells slots (pc + 1) lv (.float x :: st)) : G K p l e R s m args below meth c Q nL V sz cells slots pc lv st := fun H locs ls h1 h2 h3 h4 => lv_fload_n cx.1 cx.2.1 hd hi (lv_at h4 q hl) (kk H locs ls h1 h2 h3 h4)
theorem G.fload (cx : Cx K p s m args meth c own cc nL ret) {i : Nat} {x : UInt32} (hd : decode cc pc = .ok (.fload i, 2)) (q : Nat) (hl : lv[q]? = some (i, .float x)) (kk : G K p l e R s m args below meth c Q nL V sz cells slots (pc + 2) lv (.float x :: st)) : G K p l e R s m args below meth c Q nL V sz cells slots pc lv st := fun H locs ls h1 h2 h3 h4 => lv_fload cx.1 cx.2.1 hd (lv_at h4 q hl) (kk H locs ls h1 h2 h3 h4)
theorem G.aload_nN (cx : Cx K p s m args meth c own cc nL ret) {k : Fin 4} {i : Nat} (hd : decode cc pc = .ok (.aload_n k, 1)) (hi : (k : Nat) = i) (q : Nat) (hl : lv[q]? = some (i, .null)) (kk : G K p l e R s m args below meth c Q nL V sz cells slots (pc + 1) lv (.null :: st)) : G K p l e R s m args below meth c Q nL V sz cells slots pc lv st := fun H locs ls h1 h2 h3 h4 => lv_aload_nN cx.1 cx.2.1 hd hi (lv_at h4 q hl) (kk H locs ls h1 h2 h3 h4)
theorem G.aloadN (cx : Cx K p s m args meth c own cc nL ret) {i : Nat} (hd : decode cc pc = .ok (.aload i, 2)) (q : Nat) (hl : lv[q]? = some (i, .null)) (kk : G K p l e R s m args below meth c Q nL V sz cells slots (pc + 2) lv (.null :: st)) : G K p l e R s m args below meth c Q nL V sz cells slots pc lv st := fun H locs ls h1 h2 h3 h4 => lv_aloadN cx.1 cx.2.1 hd (lv_at h4 q hl) (kk H locs ls h1 h2 h3 h4)
theorem G.istore_n (cx : Cx K p s m args meth c own cc nL ret) {k : Fin 4} {i : Nat} {x : Int32} {lv2 : List (Nat × Value)} (hd : decode cc pc = .ok (.istore_n k, 1)) (hi : (k : Nat) = i) (hn : i < nL) (hl : (i, Value.int x) :: lv.filter (fun q => !(q.1 == i) && !(q.1 + 1 == i && q.2.category == 2)) = lv2) (kk : G K p l e R s m args below meth c Q nL V sz cells slots (pc + 1) lv2 st) : G K p l e R s m args below meth c Q nL V sz cells slots pc lv (.int x :: st) := fun H locs ls h1 h2 h3 h4 => lv_istore_n cx.1 cx.2.1 hd hi h4 hn hl (fun ls2 h5 => kk H locs ls2 h1 h2 h3 h5)
theorem G.istore (cx : Cx K p s m args meth c own cc nL ret) {i : Nat} {x : Int32} {lv2 : List (Nat × Value)} (hd : decode cc pc = .ok (.istore i, 2)) (hn : i < nL) (hl : (i, Value.int x) :: lv.filter (fun q => !(q.1 == i) && !(q.1 + 1 == i && q.2.category == 2)) = lv2) (kk : G K p l e R s m args below meth c Q nL V sz cells slots (pc + 2) lv2 st) : G K p l e R s m args below meth c Q nL V sz cells slots pc lv (.int x :: st) := fun H locs ls h1 h2 h3 h4 => lv_istore cx.1 cx.2.1 hd h4 hn hl (fun ls2 h5 => kk H locs ls2 h1 h2 h3 h5)
theorem G.astore_n (cx : Cx K p s m args meth c own cc nL ret) {k : Fin 4} {i : Nat} {x : Nat} {lv2 : List (Nat × Value)} (hd : decode cc pc = .ok (.astore_n k, 1)) (hi : (k : Nat) = i) (hn : i < nL) (hl : (i, Value.ref x) :: lv.filter (fun q => !(q.1 == i) && !(q.1 + 1 == i && q.2.category == 2)) = lv2) (kk : G K p l e R s m args below meth c Q nL V sz cells slots (pc + 1) lv2 st) : G K p l e R s m args below meth c Q nL V sz cells slots pc lv (.ref x :: st) := fun H locs ls h1 h2 h3 h4 => lv_astore_n cx.1 cx.2.1 hd hi h4 hn hl (fun ls2 h5 => kk H locs ls2 h1 h2 h3 h5)
theorem G.astore (cx : Cx K p s m args meth c own cc nL ret) {i : Nat} {x : Nat} {lv2 : List (Nat × Value)} (hd : decode cc pc = .ok (.astore i, 2)) (hn : i < nL) (hl : (i, Value.ref x) :: lv.filter (fun q => !(q.1 == i) && !(q.1 + 1 == i && q.2.category == 2)) = lv2) (kk : G K p l e R s m args below meth c Q nL V sz cells slots (pc + 2) lv2 st) : G K p l e R s m args below meth c Q nL V sz cells slots pc lv (.ref x :: st) := fun H locs ls h1 h2 h3 h4 => lv_astore cx.1 cx.2.1 hd h4 hn hl (fun ls2 h5 => kk H locs ls2 h1 h2 h3 h5)
theorem G.fstore_n (cx : Cx K p s m args meth c own cc nL ret) {k : Fin 4} {i : Nat} {x : UInt32} {lv2 : List (Nat × Value)} (hd : decode cc pc = .ok (.fstore_n k, 1)) (hi : (k : Nat) = i) (hn : i < nL) (hl : (i, Value.float x) :: lv.filter (fun q => !(q.1 == i) && !(q.1 + 1 == i && q.2.category == 2)) = lv2) (kk : G K p l e R s m args below meth c Q nL V sz cells slots (pc + 1) lv2 st) : G K p l e R s m args below meth c Q nL V sz cells slots pc lv (.float x :: st) := fun H locs ls h1 h2 h3 h4 => lv_fstore_n cx.1 cx.2.1 hd hi h4 hn hl (fun ls2 h5 => kk H locs ls2 h1 h2 h3 h5)
theorem G.fstore (cx : Cx K p s m args meth c own cc nL ret) {i : Nat} {x : UInt32} {lv2 : List (Nat × Value)} (hd : decode cc pc = .ok (.fstore i, 2)) (hn : i < nL) (hl : (i, Value.float x) :: lv.filter (fun q => !(q.1 == i) && !(q.1 + 1 == i && q.2.category == 2)) = lv2) (kk : G K p l e R s m args below meth c Q nL V sz cells slots (pc + 2) lv2 st) : G K p l e R s m args below meth c Q nL V sz cells slots pc lv (.float x :: st) := fun H locs ls h1 h2 h3 h4 => lv_fstore cx.1 cx.2.1 hd h4 hn hl (fun ls2 h5 => kk H locs ls2 h1 h2 h3 h5)
theorem G.astore_nN (cx : Cx K p s m args meth c own cc nL ret) {k : Fin 4} {i : Nat} {lv2 : List (Nat × Value)} (hd : decode cc pc = .ok (.astore_n k, 1)) (hi : (k : Nat) = i) (hn : i < nL) (hl : (i, Value.null) :: lv.filter (fun q => !(q.1 == i) && !(q.1 + 1 == i && q.2.category == 2)) = lv2) (kk : G K p l e R s m args below meth c Q nL V sz cells slots (pc + 1) lv2 st) : G K p l e R s m args below meth c Q nL V sz cells slots pc lv (.null :: st) := fun H locs ls h1 h2 h3 h4 => lv_astore_nN cx.1 cx.2.1 hd hi h4 hn hl (fun ls2 h5 => kk H locs ls2 h1 h2 h3 h5)
theorem G.astoreN (cx : Cx K p s m args meth c own cc nL ret) {i : Nat} {lv2 : List (Nat × Value)} (hd : decode cc pc = .ok (.astore i, 2)) (hn : i < nL) (hl : (i, Value.null) :: lv.filter (fun q => !(q.1 == i) && !(q.1 + 1 == i && q.2.category == 2)) = lv2) (kk : G K p l e R s m args below meth c Q nL V sz cells slots (pc + 2) lv2 st) : G K p l e R s m args below meth c Q nL V sz cells slots pc lv (.null :: st) := fun H locs ls h1 h2 h3 h4 => lv_astoreN cx.1 cx.2.1 hd h4 hn hl (fun ls2 h5 => kk H locs ls2 h1 h2 h3 h5)
theorem G.iinc (cx : Cx K p s m args meth c own cc nL ret) {i k : Nat} {n : Int} {x v : Int32} {lv2 : List (Nat × Value)} (hd : decode cc pc = .ok (.iinc i n, 3)) (hk : lv[k]? = some (i, .int x)) (hv9 : x + Int32.ofInt n = v) (hn : i < nL) (hl : (i, Value.int v) :: lv.filter (fun q => !(q.1 == i) && !(q.1 + 1 == i && q.2.category == 2)) = lv2) (kk : G K p l e R s m args below meth c Q nL V sz cells slots (pc + 3) lv2 st) : G K p l e R s m args below meth c Q nL V sz cells slots pc lv st := fun H locs ls h1 h2 h3 h4 => lv_iinc cx.1 cx.2.1 hd h4 hk hv9 hn hl (fun ls2 h5 => kk H locs ls2 h1 h2 h3 h5)
theorem G.iconst (cx : Cx K p s m args meth c own cc nL ret) {n : Int} {v : Int32} (hd : decode cc pc = .ok (.iconst n, 1)) (hv9 : Int32.ofInt n = v) (kk : G K p l e R s m args below meth c Q nL V sz cells slots (pc + 1) lv (.int v :: st)) : G K p l e R s m args below meth c Q nL V sz cells slots pc lv st := fun H locs ls h1 h2 h3 h4 => lv_iconst cx.1 cx.2.1 hd hv9 (kk H locs ls h1 h2 h3 h4)
theorem G.bipush (cx : Cx K p s m args meth c own cc nL ret) {n : Int} {v : Int32} (hd : decode cc pc = .ok (.bipush n, 2)) (hv9 : (Int8.ofInt n).toInt32 = v) (kk : G K p l e R s m args below meth c Q nL V sz cells slots (pc + 2) lv (.int v :: st)) : G K p l e R s m args below meth c Q nL V sz cells slots pc lv st := fun H locs ls h1 h2 h3 h4 => lv_bipush cx.1 cx.2.1 hd hv9 (kk H locs ls h1 h2 h3 h4)
theorem G.sipush (cx : Cx K p s m args meth c own cc nL ret) {n : Int} {v : Int32} (hd : decode cc pc = .ok (.sipush n, 3)) (hv9 : (Int16.ofInt n).toInt32 = v) (kk : G K p l e R s m args below meth c Q nL V sz cells slots (pc + 3) lv (.int v :: st)) : G K p l e R s m args below meth c Q nL V sz cells slots pc lv st := fun H locs ls h1 h2 h3 h4 => lv_sipush cx.1 cx.2.1 hd hv9 (kk H locs ls h1 h2 h3 h4)
theorem G.ldc (cx : Cx K p s m args meth c own cc nL ret) {index : Nat} {v : Int32} (hd : decode cc pc = .ok (.ldc index, 2)) (hw : Cond.constant own index v ∈ wsL_law) (kk : G K p l e R s m args below meth c Q nL V sz cells slots (pc + 2) lv (.int v :: st)) : G K p l e R s m args below meth c Q nL V sz cells slots pc lv st := fun H locs ls h1 h2 h3 h4 => lv_ldc cx.1 cx.2.1 cx.2.2.2.1 (cx.2.2.2.2.1 _ hw) hd (kk H locs ls h1 h2 h3 h4)
theorem G.ldcf (cx : Cx K p s m args meth c own cc nL ret) {index : Nat} {v : UInt32} (hd : decode cc pc = .ok (.ldc index, 2)) (hw : Cond.constantFloat own index v ∈ wsL_law) (kk : G K p l e R s m args below meth c Q nL V sz cells slots (pc + 2) lv (.float v :: st)) : G K p l e R s m args below meth c Q nL V sz cells slots pc lv st := fun H locs ls h1 h2 h3 h4 => lv_ldcf cx.1 cx.2.1 cx.2.2.2.1 (cx.2.2.2.2.1 _ hw) hd (kk H locs ls h1 h2 h3 h4)
theorem G.null (cx : Cx K p s m args meth c own cc nL ret)  (hd : decode cc pc = .ok (.aconst_null, 1))  (kk : G K p l e R s m args below meth c Q nL V sz cells slots (pc + 1) lv (.null :: st)) : G K p l e R s m args below meth c Q nL V sz cells slots pc lv st := fun H locs ls h1 h2 h3 h4 => lv_null cx.1 cx.2.1 hd (kk H locs ls h1 h2 h3 h4)
theorem G.iadd (cx : Cx K p s m args meth c own cc nL ret) {x y : Int32} (hd : decode cc pc = .ok (.iadd, 1))  (kk : G K p l e R s m args below meth c Q nL V sz cells slots (pc + 1) lv (.int (x + y) :: st)) : G K p l e R s m args below meth c Q nL V sz cells slots pc lv (.int y :: .int x :: st) := fun H locs ls h1 h2 h3 h4 => lv_iadd cx.1 cx.2.1 hd (kk H locs ls h1 h2 h3 h4)
theorem G.isub (cx : Cx K p s m args meth c own cc nL ret) {x y : Int32} (hd : decode cc pc = .ok (.isub, 1))  (kk : G K p l e R s m args below meth c Q nL V sz cells slots (pc + 1) lv (.int (x - y) :: st)) : G K p l e R s m args below meth c Q nL V sz cells slots pc lv (.int y :: .int x :: st) := fun H locs ls h1 h2 h3 h4 => lv_isub cx.1 cx.2.1 hd (kk H locs ls h1 h2 h3 h4)
theorem G.imul (cx : Cx K p s m args meth c own cc nL ret) {x y : Int32} (hd : decode cc pc = .ok (.imul, 1))  (kk : G K p l e R s m args below meth c Q nL V sz cells slots (pc + 1) lv (.int (x * y) :: st)) : G K p l e R s m args below meth c Q nL V sz cells slots pc lv (.int y :: .int x :: st) := fun H locs ls h1 h2 h3 h4 => lv_imul cx.1 cx.2.1 hd (kk H locs ls h1 h2 h3 h4)
theorem G.ior (cx : Cx K p s m args meth c own cc nL ret) {x y : Int32} (hd : decode cc pc = .ok (.ior, 1))  (kk : G K p l e R s m args below meth c Q nL V sz cells slots (pc + 1) lv (.int (x ||| y) :: st)) : G K p l e R s m args below meth c Q nL V sz cells slots pc lv (.int y :: .int x :: st) := fun H locs ls h1 h2 h3 h4 => lv_ior cx.1 cx.2.1 hd (kk H locs ls h1 h2 h3 h4)
theorem G.iand (cx : Cx K p s m args meth c own cc nL ret) {x y : Int32} (hd : decode cc pc = .ok (.iand, 1))  (kk : G K p l e R s m args below meth c Q nL V sz cells slots (pc + 1) lv (.int (x &&& y) :: st)) : G K p l e R s m args below meth c Q nL V sz cells slots pc lv (.int y :: .int x :: st) := fun H locs ls h1 h2 h3 h4 => lv_iand cx.1 cx.2.1 hd (kk H locs ls h1 h2 h3 h4)
theorem G.ishl (cx : Cx K p s m args meth c own cc nL ret) {x y : Int32} (hd : decode cc pc = .ok (.ishl, 1))  (kk : G K p l e R s m args below meth c Q nL V sz cells slots (pc + 1) lv (.int (x <<< (y &&& 31)) :: st)) : G K p l e R s m args below meth c Q nL V sz cells slots pc lv (.int y :: .int x :: st) := fun H locs ls h1 h2 h3 h4 => lv_ishl cx.1 cx.2.1 hd (kk H locs ls h1 h2 h3 h4)
theorem G.idiv (cx : Cx K p s m args meth c own cc nL ret) {x y : Int32} (hd : decode cc pc = .ok (.idiv, 1)) (hne : ¬ y = 0) (kk : G K p l e R s m args below meth c Q nL V sz cells slots (pc + 1) lv (.int (x / y) :: st)) : G K p l e R s m args below meth c Q nL V sz cells slots pc lv (.int y :: .int x :: st) := fun H locs ls h1 h2 h3 h4 => lv_idiv cx.1 cx.2.1 hd hne (kk H locs ls h1 h2 h3 h4)
theorem G.irem (cx : Cx K p s m args meth c own cc nL ret) {x y : Int32} (hd : decode cc pc = .ok (.irem, 1)) (hne : ¬ y = 0) (kk : G K p l e R s m args below meth c Q nL V sz cells slots (pc + 1) lv (.int (x - x / y * y) :: st)) : G K p l e R s m args below meth c Q nL V sz cells slots pc lv (.int y :: .int x :: st) := fun H locs ls h1 h2 h3 h4 => lv_irem cx.1 cx.2.1 hd hne (kk H locs ls h1 h2 h3 h4)
theorem G.ineg (cx : Cx K p s m args meth c own cc nL ret) {x : Int32} (hd : decode cc pc = .ok (.ineg, 1))  (kk : G K p l e R s m args below meth c Q nL V sz cells slots (pc + 1) lv (.int (-x) :: st)) : G K p l e R s m args below meth c Q nL V sz cells slots pc lv (.int x :: st) := fun H locs ls h1 h2 h3 h4 => lv_ineg cx.1 cx.2.1 hd (kk H locs ls h1 h2 h3 h4)
theorem G.dup (cx : Cx K p s m args meth c own cc nL ret) {va : Value} (hd : decode cc pc = .ok (.dup, 1)) (hva : va.category = 1) (kk : G K p l e R s m args below meth c Q nL V sz cells slots (pc + 1) lv (va :: va :: st)) : G K p l e R s m args below meth c Q nL V sz cells slots pc lv (va :: st) := fun H locs ls h1 h2 h3 h4 => lv_dup cx.1 cx.2.1 hd hva (kk H locs ls h1 h2 h3 h4)
theorem G.dup_x1 (cx : Cx K p s m args meth c own cc nL ret) {va vb : Value} (hd : decode cc pc = .ok (.dup_x1, 1)) (hva : va.category = 1) (hvb : vb.category = 1) (kk : G K p l e R s m args below meth c Q nL V sz cells slots (pc + 1) lv (va :: vb :: va :: st)) : G K p l e R s m args below meth c Q nL V sz cells slots pc lv (va :: vb :: st) := fun H locs ls h1 h2 h3 h4 => lv_dup_x1 cx.1 cx.2.1 hd hva hvb (kk H locs ls h1 h2 h3 h4)
theorem G.dup2 (cx : Cx K p s m args meth c own cc nL ret) {va vb : Value} (hd : decode cc pc = .ok (.dup2, 1)) (hva : va.category = 1) (hvb : vb.category = 1) (kk : G K p l e R s m args below meth c Q nL V sz cells slots (pc + 1) lv (va :: vb :: va :: vb :: st)) : G K p l e R s m args below meth c Q nL V sz cells slots pc lv (va :: vb :: st) := fun H locs ls h1 h2 h3 h4 => lv_dup2_11 cx.1 cx.2.1 hd hva hvb (kk H locs ls h1 h2 h3 h4)
theorem G.pop (cx : Cx K p s m args meth c own cc nL ret) {va : Value} (hd : decode cc pc = .ok (.pop, 1)) (hva : va.category = 1) (kk : G K p l e R s m args below meth c Q nL V sz cells slots (pc + 1) lv st) : G K p l e R s m args below meth c Q nL V sz cells slots pc lv (va :: st) := fun H locs ls h1 h2 h3 h4 => lv_pop cx.1 cx.2.1 hd hva (kk H locs ls h1 h2 h3 h4)
theorem G.goto (cx : Cx K p s m args meth c own cc nL ret) {off : Int} {tgt : Nat} (hd : decode cc pc = .ok (.goto off, 3)) (ht : (pc : Int) + off = (tgt : Int)) (kk : G K p l e R s m args below meth c Q nL V sz cells slots tgt lv st) : G K p l e R s m args below meth c Q nL V sz cells slots pc lv st := fun H locs ls h1 h2 h3 h4 => lv_goto cx.1 cx.2.1 hd ht (kk H locs ls h1 h2 h3 h4)
theorem G.i2f (cx : Cx K p s m args meth c own cc nL ret) {x : Int32} (hd : decode cc pc = .ok (.i2f, 1))  (kk : G K p l e R s m args below meth c Q nL V sz cells slots (pc + 1) lv (.float (FP.i2f x) :: st)) : G K p l e R s m args below meth c Q nL V sz cells slots pc lv (.int x :: st) := fun H locs ls h1 h2 h3 h4 => lv_i2f cx.1 cx.2.1 hd (kk H locs ls h1 h2 h3 h4)
theorem G.f2i (cx : Cx K p s m args meth c own cc nL ret) {x : UInt32} (hd : decode cc pc = .ok (.f2i, 1))  (kk : G K p l e R s m args below meth c Q nL V sz cells slots (pc + 1) lv (.int (FP.f2i x) :: st)) : G K p l e R s m args below meth c Q nL V sz cells slots pc lv (.float x :: st) := fun H locs ls h1 h2 h3 h4 => lv_f2i cx.1 cx.2.1 hd (kk H locs ls h1 h2 h3 h4)
theorem G.fdiv (cx : Cx K p s m args meth c own cc nL ret) {x y : UInt32} (hd : decode cc pc = .ok (.fdiv, 1)) (hne : vf_n32 (FP.fdiv x y)) (kk : G K p l e R s m args below meth c Q nL V sz cells slots (pc + 1) lv (.float (FP.fdiv x y) :: st)) : G K p l e R s m args below meth c Q nL V sz cells slots pc lv (.float y :: .float x :: st) := fun H locs ls h1 h2 h3 h4 => lv_fdiv cx.1 cx.2.1 hd hne (kk H locs ls h1 h2 h3 h4)
theorem G.fmul (cx : Cx K p s m args meth c own cc nL ret) {x y : UInt32} (hd : decode cc pc = .ok (.fmul, 1)) (hne : vf_n32 (FP.fmul x y)) (kk : G K p l e R s m args below meth c Q nL V sz cells slots (pc + 1) lv (.float (FP.fmul x y) :: st)) : G K p l e R s m args below meth c Q nL V sz cells slots pc lv (.float y :: .float x :: st) := fun H locs ls h1 h2 h3 h4 => lv_fmul cx.1 cx.2.1 hd hne (kk H locs ls h1 h2 h3 h4)
theorem G.fsub (cx : Cx K p s m args meth c own cc nL ret) {x y : UInt32} (hd : decode cc pc = .ok (.fsub, 1)) (hne : vf_n32 (FP.fsub x y)) (kk : G K p l e R s m args below meth c Q nL V sz cells slots (pc + 1) lv (.float (FP.fsub x y) :: st)) : G K p l e R s m args below meth c Q nL V sz cells slots pc lv (.float y :: .float x :: st) := fun H locs ls h1 h2 h3 h4 => lv_fsub cx.1 cx.2.1 hd hne (kk H locs ls h1 h2 h3 h4)
theorem G.fcmp (cx : Cx K p s m args meth c own cc nL ret) {x y : UInt32} {op : CmpOp} (hd : decode cc pc = .ok (.fcmp op, 1))  (kk : G K p l e R s m args below meth c Q nL V sz cells slots (pc + 1) lv (.int (Op.cmpValue (FP.fcmp x y) op) :: st)) : G K p l e R s m args below meth c Q nL V sz cells slots pc lv (.float y :: .float x :: st) := fun H locs ls h1 h2 h3 h4 => lv_fcmp cx.1 cx.2.1 hd (kk H locs ls h1 h2 h3 h4)
theorem G.if_eq (cx : Cx K p s m args meth c own cc nL ret) {x : Int32} {off : Int} {tgt : Nat} (hd : decode cc pc = .ok (.ifCond .eq off, 3)) (ht : (pc : Int) + off = (tgt : Int)) (kt : x = 0 → G K p l e R s m args below meth c Q nL V sz cells slots tgt lv st) (kf : ¬ x = 0 → G K p l e R s m args below meth c Q nL V sz cells slots (pc + 3) lv st) : G K p l e R s m args below meth c Q nL V sz cells slots pc lv (.int x :: st) := fun H locs ls h1 h2 h3 h4 => lv_if_eq cx.1 cx.2.1 hd ht (fun h5 => kt h5 H locs ls h1 h2 h3 h4) (fun h5 => kf h5 H locs ls h1 h2 h3 h4)
theorem G.if_ne (cx : Cx K p s m args meth c own cc nL ret) {x : Int32} {off : Int} {tgt : Nat} (hd : decode cc pc = .ok (.ifCond .ne off, 3)) (ht : (pc : Int) + off = (tgt : Int)) (kt : ¬ x = 0 → G K p l e R s m args below meth c Q nL V sz cells slots tgt lv st) (kf : x = 0 → G K p l e R s m args below meth c Q nL V sz cells slots (pc + 3) lv st) : G K p l e R s m args below meth c Q nL V sz cells slots pc lv (.int x :: st) := fun H locs ls h1 h2 h3 h4 => lv_if_ne cx.1 cx.2.1 hd ht (fun h5 => kt h5 H locs ls h1 h2 h3 h4) (fun h5 => kf h5 H locs ls h1 h2 h3 h4)
theorem G.if_lt (cx : Cx K p s m args meth c own cc nL ret) {x : Int32} {off : Int} {tgt : Nat} (hd : decode cc pc = .ok (.ifCond .lt off, 3)) (ht : (pc : Int) + off = (tgt : Int)) (kt : x < 0 → G K p l e R s m args below meth c Q nL V sz cells slots tgt lv st) (kf : ¬ x < 0 → G K p l e R s m args below meth c Q nL V sz cells slots (pc + 3) lv st) : G K p l e R s m args below meth c Q nL V sz cells slots pc lv (.int x :: st) := fun H locs ls h1 h2 h3 h4 => lv_if_lt cx.1 cx.2.1 hd ht (fun h5 => kt h5 H locs ls h1 h2 h3 h4) (fun h5 => kf h5 H locs ls h1 h2 h3 h4)
theorem G.if_ge (cx : Cx K p s m args meth c own cc nL ret) {x : Int32} {off : Int} {tgt : Nat} (hd : decode cc pc = .ok (.ifCond .ge off, 3)) (ht : (pc : Int) + off = (tgt : Int)) (kt : 0 ≤ x → G K p l e R s m args below meth c Q nL V sz cells slots tgt lv st) (kf : ¬ 0 ≤ x → G K p l e R s m args below meth c Q nL V sz cells slots (pc + 3) lv st) : G K p l e R s m args below meth c Q nL V sz cells slots pc lv (.int x :: st) := fun H locs ls h1 h2 h3 h4 => lv_if_ge cx.1 cx.2.1 hd ht (fun h5 => kt h5 H locs ls h1 h2 h3 h4) (fun h5 => kf h5 H locs ls h1 h2 h3 h4)
theorem G.if_gt (cx : Cx K p s m args meth c own cc nL ret) {x : Int32} {off : Int} {tgt : Nat} (hd : decode cc pc = .ok (.ifCond .gt off, 3)) (ht : (pc : Int) + off = (tgt : Int)) (kt : 0 < x → G K p l e R s m args below meth c Q nL V sz cells slots tgt lv st) (kf : ¬ 0 < x → G K p l e R s m args below meth c Q nL V sz cells slots (pc + 3) lv st) : G K p l e R s m args below meth c Q nL V sz cells slots pc lv (.int x :: st) := fun H locs ls h1 h2 h3 h4 => lv_if_gt cx.1 cx.2.1 hd ht (fun h5 => kt h5 H locs ls h1 h2 h3 h4) (fun h5 => kf h5 H locs ls h1 h2 h3 h4)
theorem G.if_le (cx : Cx K p s m args meth c own cc nL ret) {x : Int32} {off : Int} {tgt : Nat} (hd : decode cc pc = .ok (.ifCond .le off, 3)) (ht : (pc : Int) + off = (tgt : Int)) (kt : x ≤ 0 → G K p l e R s m args below meth c Q nL V sz cells slots tgt lv st) (kf : ¬ x ≤ 0 → G K p l e R s m args below meth c Q nL V sz cells slots (pc + 3) lv st) : G K p l e R s m args below meth c Q nL V sz cells slots pc lv (.int x :: st) := fun H locs ls h1 h2 h3 h4 => lv_if_le cx.1 cx.2.1 hd ht (fun h5 => kt h5 H locs ls h1 h2 h3 h4) (fun h5 => kf h5 H locs ls h1 h2 h3 h4)
theorem G.icmp_eq (cx : Cx K p s m args meth c own cc nL ret) {x y : Int32} {off : Int} {tgt : Nat} (hd : decode cc pc = .ok (.if_icmp .eq off, 3)) (ht : (pc : Int) + off = (tgt : Int)) (kt : x = y → G K p l e R s m args below meth c Q nL V sz cells slots tgt lv st) (kf : ¬ x = y → G K p l e R s m args below meth c Q nL V sz cells slots (pc + 3) lv st) : G K p l e R s m args below meth c Q nL V sz cells slots pc lv (.int y :: .int x :: st) := fun H locs ls h1 h2 h3 h4 => lv_icmp_eq cx.1 cx.2.1 hd ht (fun h5 => kt h5 H locs ls h1 h2 h3 h4) (fun h5 => kf h5 H locs ls h1 h2 h3 h4)
theorem G.icmp_ne (cx : Cx K p s m args meth c own cc nL ret) {x y : Int32} {off : Int} {tgt : Nat} (hd : decode cc pc = .ok (.if_icmp .ne off, 3)) (ht : (pc : Int) + off = (tgt : Int)) (kt : ¬ x = y → G K p l e R s m args below meth c Q nL V sz cells slots tgt lv st) (kf : x = y → G K p l e R s m args below meth c Q nL V sz cells slots (pc + 3) lv st) : G K p l e R s m args below meth c Q nL V sz cells slots pc lv (.int y :: .int x :: st) := fun H locs ls h1 h2 h3 h4 => lv_icmp_ne cx.1 cx.2.1 hd ht (fun h5 => kt h5 H locs ls h1 h2 h3 h4) (fun h5 => kf h5 H locs ls h1 h2 h3 h4)
theorem G.icmp_lt (cx : Cx K p s m args meth c own cc nL ret) {x y : Int32} {off : Int} {tgt : Nat} (hd : decode cc pc = .ok (.if_icmp .lt off, 3)) (ht : (pc : Int) + off = (tgt : Int)) (kt : x < y → G K p l e R s m args below meth c Q nL V sz cells slots tgt lv st) (kf : ¬ x < y → G K p l e R s m args below meth c Q nL V sz cells slots (pc + 3) lv st) : G K p l e R s m args below meth c Q nL V sz cells slots pc lv (.int y :: .int x :: st) := fun H locs ls h1 h2 h3 h4 => lv_icmp_lt cx.1 cx.2.1 hd ht (fun h5 => kt h5 H locs ls h1 h2 h3 h4) (fun h5 => kf h5 H locs ls h1 h2 h3 h4)
theorem G.icmp_ge (cx : Cx K p s m args meth c own cc nL ret) {x y : Int32} {off : Int} {tgt : Nat} (hd : decode cc pc = .ok (.if_icmp .ge off, 3)) (ht : (pc : Int) + off = (tgt : Int)) (kt : y ≤ x → G K p l e R s m args below meth c Q nL V sz cells slots tgt lv st) (kf : ¬ y ≤ x → G K p l e R s m args below meth c Q nL V sz cells slots (pc + 3) lv st) : G K p l e R s m args below meth c Q nL V sz cells slots pc lv (.int y :: .int x :: st) := fun H locs ls h1 h2 h3 h4 => lv_icmp_ge cx.1 cx.2.1 hd ht (fun h5 => kt h5 H locs ls h1 h2 h3 h4) (fun h5 => kf h5 H locs ls h1 h2 h3 h4)
theorem G.icmp_gt (cx : Cx K p s m args meth c own cc nL ret) {x y : Int32} {off : Int} {tgt : Nat} (hd : decode cc pc = .ok (.if_icmp .gt off, 3)) (ht : (pc : Int) + off = (tgt : Int)) (kt : y < x → G K p l e R s m args below meth c Q nL V sz cells slots tgt lv st) (kf : ¬ y < x → G K p l e R s m args below meth c Q nL V sz cells slots (pc + 3) lv st) : G K p l e R s m args below meth c Q nL V sz cells slots pc lv (.int y :: .int x :: st) := fun H locs ls h1 h2 h3 h4 => lv_icmp_gt cx.1 cx.2.1 hd ht (fun h5 => kt h5 H locs ls h1 h2 h3 h4) (fun h5 => kf h5 H locs ls h1 h2 h3 h4)
theorem G.icmp_le (cx : Cx K p s m args meth c own cc nL ret) {x y : Int32} {off : Int} {tgt : Nat} (hd : decode cc pc = .ok (.if_icmp .le off, 3)) (ht : (pc : Int) + off = (tgt : Int)) (kt : x ≤ y → G K p l e R s m args below meth c Q nL V sz cells slots tgt lv st) (kf : ¬ x ≤ y → G K p l e R s m args below meth c Q nL V sz cells slots (pc + 3) lv st) : G K p l e R s m args below meth c Q nL V sz cells slots pc lv (.int y :: .int x :: st) := fun H locs ls h1 h2 h3 h4 => lv_icmp_le cx.1 cx.2.1 hd ht (fun h5 => kt h5 H locs ls h1 h2 h3 h4) (fun h5 => kf h5 H locs ls h1 h2 h3 h4)
theorem G.ifnonnull (cx : Cx K p s m args meth c own cc nL ret) {x : Nat} {off : Int} {tgt : Nat} (hd : decode cc pc = .ok (.ifnonnull off, 3)) (ht : (pc : Int) + off = (tgt : Int)) (kk : G K p l e R s m args below meth c Q nL V sz cells slots tgt lv st) : G K p l e R s m args below meth c Q nL V sz cells slots pc lv (.ref x :: st) := fun H locs ls h1 h2 h3 h4 => lv_ifnonnull cx.1 cx.2.1 hd ht (kk H locs ls h1 h2 h3 h4)
theorem G.ifnull (cx : Cx K p s m args meth c own cc nL ret) {x : Nat} {off : Int} (hd : decode cc pc = .ok (.ifnull off, 3))  (kk : G K p l e R s m args below meth c Q nL V sz cells slots (pc + 3) lv st) : G K p l e R s m args below meth c Q nL V sz cells slots pc lv (.ref x :: st) := fun H locs ls h1 h2 h3 h4 => lv_ifnull cx.1 cx.2.1 hd (kk H locs ls h1 h2 h3 h4)
theorem G.ifnullN (cx : Cx K p s m args meth c own cc nL ret) {off : Int} {tgt : Nat} (hd : decode cc pc = .ok (.ifnull off, 3)) (ht : (pc : Int) + off = (tgt : Int)) (kk : G K p l e R s m args below meth c Q nL V sz cells slots tgt lv st) : G K p l e R s m args below meth c Q nL V sz cells slots pc lv (.null :: st) := fun H locs ls h1 h2 h3 h4 => lv_ifnullN cx.1 cx.2.1 hd ht (kk H locs ls h1 h2 h3 h4)
theorem G.ifnonnullN (cx : Cx K p s m args meth c own cc nL ret) {off : Int} (hd : decode cc pc = .ok (.ifnonnull off, 3))  (kk : G K p l e R s m args below meth c Q nL V sz cells slots (pc + 3) lv st) : G K p l e R s m args below meth c Q nL V sz cells slots pc lv (.null :: st) := fun H locs ls h1 h2 h3 h4 => lv_ifnonnullN cx.1 cx.2.1 hd (kk H locs ls h1 h2 h3 h4)
theorem G.tableIn (cx : Cx K p s m args meth c own cc nL ret) {dflt lo hi : Int} {offs : Array Int} {len : Nat} {x : Int32} {off : Int} {tgt : Nat} (hd : decode cc pc = .ok (.tableswitch dflt lo hi offs, len)) (g1 : ¬ x.toInt < lo) (g2 : ¬ hi < x.toInt) (ho : offs[(x.toInt - lo).toNat]? = some off) (ht : (pc : Int) + off = (tgt : Int)) (kk : G K p l e R s m args below meth c Q nL V sz cells slots tgt lv st) : G K p l e R s m args below meth c Q nL V sz cells slots pc lv (.int x :: st) := fun H locs ls h1 h2 h3 h4 => lv_tableIn cx.1 cx.2.1 hd g1 g2 ho ht (kk H locs ls h1 h2 h3 h4)
theorem G.tableOut (cx : Cx K p s m args meth c own cc nL ret) {dflt lo hi : Int} {offs : Array Int} {len : Nat} {x : Int32} {tgt : Nat} (hd : decode cc pc = .ok (.tableswitch dflt lo hi offs, len)) (g : x.toInt < lo ∨ hi < x.toInt) (ht : (pc : Int) + dflt = (tgt : Int)) (kk : G K p l e R s m args below meth c Q nL V sz cells slots tgt lv st) : G K p l e R s m args below meth c Q nL V sz cells slots pc lv (.int x :: st) := fun H locs ls h1 h2 h3 h4 => lv_tableOut cx.1 cx.2.1 hd g ht (kk H locs ls h1 h2 h3 h4)
theorem G.get (cx : Cx K p s m args meth c own cc nL ret) {C : String} {T : u_T} {N ci index a : Nat} {fs : List Value} (k : Nat) {v : Value} (hd : decode cc pc = .ok (.getfield index, 3)) (hw : Cond.fieldLink own index (T k).1 (T k).2.1 (T k).2.2.1 ∈ wsL_law) (hin : ∀ w ∈ u_ws C T N, w ∈ wsL_law) (hc : vwCl[ci]? = some (C, T, N)) (hk : k < N) (hV : V a = some (.inr (ci, fs))) (hf : fs[k]? = some v) (kk : G K p l e R s m args below meth c Q nL V sz cells slots (pc + 3) lv (v :: st)) : G K p l e R s m args below meth c Q nL V sz cells slots pc lv (.ref a :: st) := by
  intro H locs ls h1 h2 h3 h4
  obtain ⟨hx, hb, -, ho, hts, hK, -⟩ := id cx
  have hP : va_P K.1 vwCl [(a, .inr (ci, fs))] H := by
    intro j q hq
    cases j with
    | zero => cases hq; exact (h2 a _ hV).2
    | succ j => simp at hq
  exact va_get hx hb hts hin ho hK.1 hP 0 rfl hc k hk (hts _ hw) (fun _ h => h) hf hd (kk H locs ls h1 h2 h3 h4)
theorem hv.put {a : Nat} {x : va_E} {H H1 : Heap} (h : hv K V H) (ha : kn K ≤ a) (he : va_at K.1 vwCl (a, x) H1) (oq : ∀ q : Nat, q ≠ a → H1[q]? = H[q]?) : hv K (vset V a x) H1 := by
  intro q y hy
  by_cases hq : q = a
  · subst hq
    rw [vset_self] at hy
    cases hy
    exact ⟨ha, he⟩
  · rw [vset_ne V x hq] at hy
    obtain ⟨g1, g2⟩ := h q y hy
    exact ⟨g1, g2.kept (oq q hq)⟩
theorem G.put (cx : Cx K p s m args meth c own cc nL ret) {C : String} {T : u_T} {N ci index a : Nat} {fs fs2 : List Value} (k : Nat) {v : Value} {ty : FieldType} (ty0 : Nat → FieldType) (hty : ∀ k, k < N → parseFieldDescriptor (T k).2.2.1 = some (ty0 k)) (hnm : ∀ a, a < N → ∀ b, b < N → a ≠ b → (T a).2.1 ≠ (T b).2.1) (hd : decode cc pc = .ok (.putfield index, 3)) (hw : Cond.fieldLink own index (T k).1 (T k).2.1 (T k).2.2.1 ∈ wsL_law) (hin : ∀ w ∈ u_ws C T N, w ∈ wsL_law) (hc : vwCl[ci]? = some (C, T, N)) (hk : k < N) (hfin : (T k).2.2.2 = false) (ht : ty0 k = ty) (hn : narrow ty v = v) (hfit : fits ty v = true) (hV : V a = some (.inr (ci, fs))) (hl : k < fs.length) (hfs : fs.set k v = fs2) (kk : G K p l e R s m args below meth c Q nL (vset V a (.inr (ci, fs2))) sz cells slots (pc + 3) lv st) : G K p l e R s m args below meth c Q nL V sz cells slots pc lv (v :: .ref a :: st) := by
  intro H locs ls h1 h2 h3 h4
  subst hfs
  obtain ⟨hx, hb, -, ho, hts, hK, -⟩ := id cx
  have hap := va_apart (own := own) (tys := tysK K) hts hin ty0 hty hnm hK.1 hc
  obtain ⟨hka, r, e1, cell, q1, q2, q3, q4⟩ := h2 a _ hV
  have hr : r = (C, T, N) := Option.some.inj (e1.symm.trans hc)
  subst hr
  obtain ⟨hSl, hfc, kC, hkC, hkind⟩ := hK.1.1 ci _ hc
  obtain ⟨cf, kf, fi, f, hi, hsl⟩ := hSl k hk
  have hlay := hts _ (hin _ (u_in_lay hk))
  unfold u_lay at hlay
  rw [if_neg (by rw [hfin]; decide)] at hlay
  have hst := (u_facts hfc hkC (u_lays hts hin hk) hi).1
  have h6 := u_store hfc hkC hkind hlay hi ((hty k hk).trans (congrArg some ht)) hn hfit
  refine W.putK hx hb (f := f) ⟨ho, hts _ hw, ⟨_, _, _, hi⟩, hst⟩ (by rw [q2]; exact h6) q1 q3 (by rw [hsl]; exact k2_hasslot (q4 k hk)) rfl rfl hd fun H1 g1 g2 g3 => ?_
  rw [hsl] at g1 ⊢
  exact kk H1 _ ls (g2.trans h1) (h2.put hka ⟨_, hc, t_OB.to (V := updV (vp_V fs) k v) ⟨_, g1, q2, q3, t_set q4 hap hk v⟩ (fun j _ => vp_updV_set hl v j)⟩ g3) (h3.put g2 g3 hka) h4
theorem G.putF (cx : Cx K p s m args meth c own cc nL ret) (hini : meth.name = "<init>") {C : String} {T : u_T} {N ci index a : Nat} {fs fs2 : List Value} (k : Nat) {v : Value} {ty : FieldType} (ty0 : Nat → FieldType) (hty : ∀ k, k < N → parseFieldDescriptor (T k).2.2.1 = some (ty0 k)) (hnm : ∀ a, a < N → ∀ b, b < N → a ≠ b → (T a).2.1 ≠ (T b).2.1) (hd : decode cc pc = .ok (.putfield index, 3)) (hw : Cond.fieldLink own index (T k).1 (T k).2.1 (T k).2.2.1 ∈ wsL_law) (hin : ∀ w ∈ u_ws C T N, w ∈ wsL_law) (hc : vwCl[ci]? = some (C, T, N)) (hk : k < N) (hfin : (T k).2.2.2 = true) (hdecl : (T k).1 = own) (ht : ty0 k = ty) (hn : narrow ty v = v) (hfit : fits ty v = true) (hV : V a = some (.inr (ci, fs))) (hl : k < fs.length) (hfs : fs.set k v = fs2) (kk : G K p l e R s m args below meth c Q nL (vset V a (.inr (ci, fs2))) sz cells slots (pc + 3) lv st) : G K p l e R s m args below meth c Q nL V sz cells slots pc lv (v :: .ref a :: st) := by
  intro H locs ls h1 h2 h3 h4
  subst hfs
  obtain ⟨hx, hb, -, ho, hts, hK, -⟩ := id cx
  have hap := va_apart (own := own) (tys := tysK K) hts hin ty0 hty hnm hK.1 hc
  obtain ⟨hka, r, e1, cell, q1, q2, q3, q4⟩ := h2 a _ hV
  have hr : r = (C, T, N) := Option.some.inj (e1.symm.trans hc)
  subst hr
  obtain ⟨hSl, hfc, kC, hkC, hkind⟩ := hK.1.1 ci _ hc
  obtain ⟨cf, kf, fi, f, hi, hsl⟩ := hSl k hk
  have hlay := hts _ (hin _ (u_in_lay hk))
  unfold u_lay at hlay
  rw [if_pos hfin] at hlay
  have hst := (u_facts hfc hkC (u_lays hts hin hk) hi).1
  have hcf : m.cls = cf := by
    obtain ⟨_, _, c', _, _, _, -, -, hf', -, -, -, hown2, -⟩ := Cond.laysFinal_spec hlay
    have e1 : c' = cf := by have := hi.symm.trans hf'; simp at this; exact this.1.symm
    rw [hdecl] at hown2
    rw [← e1]; exact Option.some.inj (ho.symm.trans hown2)
  have h6 := u_fits hfc hkC hkind (Or.inr hlay) hi ((hty k hk).trans (congrArg some ht)) hn hfit
  refine W.putFinK hx hb ho (hts _ hw) hi hst hcf hini (by rw [q2]; exact h6) q1 q3 (by rw [hsl]; exact k2_hasslot (q4 k hk)) rfl rfl hd fun H1 g1 g2 g3 => ?_
  rw [hsl] at g1 ⊢
  exact kk H1 _ ls (g2.trans h1) (h2.put hka ⟨_, hc, t_OB.to (V := updV (vp_V fs) k v) ⟨_, g1, q2, q3, t_set q4 hap hk v⟩ (fun j _ => vp_updV_set hl v j)⟩ g3) (h3.put g2 g3 hka) h4
theorem hv.one {a : Nat} {x : va_E} {H : Heap} (h2 : hv K V H) (hV : V a = some x) : va_P K.1 vwCl [(a, x)] H := by
  intro j q hq
  cases j with
  | zero => cases hq; exact (h2 a _ hV).2
  | succ j => simp at hq
theorem G.iald (cx : Cx K p s m args meth c own cc nL ret) {a n j : Nat} {f : Nat → Int32} {i : Int32} (hd : decode cc pc = .ok (.iaload, 1)) (hV : V a = some (.inl (K.2.1 0, n, .inl f))) (hi : i = nI j) (hj : j < n) (hn : n < 2 ^ 31) (kk : G K p l e R s m args below meth c Q nL V sz cells slots (pc + 1) lv (.int (f j) :: st)) : G K p l e R s m args below meth c Q nL V sz cells slots pc lv (.int i :: .ref a :: st) := by
  intro H locs ls h1 h2 h3 h4
  subst hi
  obtain ⟨hx, hb, -, ho, hts, hK, -⟩ := id cx
  refine va_iald hx hb hK.1 (h2.one hV) 0 0 rfl rfl (vp_in_nI hj hn) hd ?_
  rw [nI_clamp (Nat.lt_trans hj hn)]
  exact kk H locs ls h1 h2 h3 h4
theorem G.aald (cx : Cx K p s m args meth c own cc nL ret) (t : Nat) {C : String} {a n j : Nat} {f : Nat → Option Nat} {i : Int32} (ht : (tysK K)[t]? = some (K.2.1 t, .object C)) (hd : decode cc pc = .ok (.aaload, 1)) (hV : V a = some (.inl (K.2.1 t, n, .inr (.inr (.inr (.inr f)))))) (hi : i = nI j) (hj : j < n) (hn : n < 2 ^ 31) (kk : G K p l e R s m args below meth c Q nL V sz cells slots (pc + 1) lv (va_rf (f j) :: st)) : G K p l e R s m args below meth c Q nL V sz cells slots pc lv (.int i :: .ref a :: st) := by
  intro H locs ls h1 h2 h3 h4
  subst hi
  obtain ⟨hx, hb, -, ho, hts, hK, -⟩ := id cx
  refine va_aldq hx hb hK.1 (h2.one hV) 0 t rfl ht (vp_in_nI hj hn) hd ?_
  rw [nI_clamp (Nat.lt_trans hj hn)]
  exact kk H locs ls h1 h2 h3 h4
theorem G.alen (cx : Cx K p s m args meth c own cc nL ret) (t : Nat) {ty : FieldType} {a : Nat} {x : vp_A} {v : Int32} (ht : (tysK K)[t]? = some (K.2.1 t, ty)) (hd : decode cc pc = .ok (.arraylength, 1)) (hV : V a = some (.inl (K.2.1 t, x))) (hv9 : Int32.ofNat x.1 = v) (kk : G K p l e R s m args below meth c Q nL V sz cells slots (pc + 1) lv (.int v :: st)) : G K p l e R s m args below meth c Q nL V sz cells slots pc lv (.ref a :: st) := by
  intro H locs ls h1 h2 h3 h4
  obtain ⟨hx, hb, -, ho, hts, hK, -⟩ := id cx
  exact va_alen hx hb hK.1 (h2.one hV) 0 t rfl ht hv9 hd (kk H locs ls h1 h2 h3 h4)
theorem G.iast (cx : Cx K p s m args meth c own cc nL ret) {a n j : Nat} {f : Nat → Int32} {i x : Int32} (hd : decode cc pc = .ok (.iastore, 1)) (hV : V a = some (.inl (K.2.1 0, n, .inl f))) (hi : i = nI j) (hj : j < n) (hn : n < 2 ^ 31) (kk : G K p l e R s m args below meth c Q nL (vset V a (.inl (K.2.1 0, n, .inl (upd f j x)))) sz cells slots (pc + 1) lv st) : G K p l e R s m args below meth c Q nL V sz cells slots pc lv (.int x :: .int i :: .ref a :: st) := by
  intro H locs ls h1 h2 h3 h4
  subst hi
  obtain ⟨hx, hb, -, ho, hts, hK, -⟩ := id cx
  have hin := vp_in_nI hj hn
  obtain ⟨hka, hat⟩ := h2 a _ hV
  refine W.iast hx hb hat ((hK.1.2 0 _ rfl).1 n (fun j => .int (f j))) (fun q => by cases q) (by show ¬ (_ < _ ∨ (arrV _ _ _).slots.size ≤ _); rw [arrV_size]; exact hin) rfl rfl hd fun H1 g1 g2 g3 => ?_
  refine kk H1 _ ls (g2.trans h1) (h2.put hka ?_ g3) (h3.put g2 g3 hka) h4
  show H1[a]? = some (vp_cell _ _)
  rw [g1, nI_clamp (Nat.lt_trans hj hn), vp_cell_i, vp_cell_i, arrV_store]
  congr 2
  funext q
  by_cases hq : q = j
  · subst hq; simp [updV, upd]
  · simp [updV, upd, hq]
theorem G.aast (cx : Cx K p s m args meth c own cc nL ret) (t : Nat) {C : String} {T : u_T} {N ci a n j b : Nat} {f : Nat → Option Nat} {fs : List Value} {i : Int32} (ht : (tysK K)[t]? = some (K.2.1 t, .object C)) (hc : vwCl[ci]? = some (C, T, N)) (hd : decode cc pc = .ok (.aastore, 1)) (hV : V a = some (.inl (K.2.1 t, n, .inr (.inr (.inr (.inr f)))))) (hB : V b = some (.inr (ci, fs))) (hi : i = nI j) (hj : j < n) (hn : n < 2 ^ 31) (kk : G K p l e R s m args below meth c Q nL (vset V a (.inl (K.2.1 t, n, .inr (.inr (.inr (.inr (va_up f j (some b)))))))) sz cells slots (pc + 1) lv st) : G K p l e R s m args below meth c Q nL V sz cells slots pc lv (.ref b :: .int i :: .ref a :: st) := by
  intro H locs ls h1 h2 h3 h4
  subst hi
  obtain ⟨hx, hb, -, ho, hts, hK, -⟩ := id cx
  have hin := vp_in_nI hj hn
  have hjc := nI_clamp (Nat.lt_trans hj hn)
  obtain ⟨hka, hat⟩ := h2 a _ hV
  obtain ⟨-, r', hr', cellV, g1, g2, g3, -⟩ := h2 b _ hB
  have hcls := (hK.1.1 ci _ hc).2
  obtain ⟨kA', comp, k1, k2, k3, -⟩ := (hK.1.2 t _ ht).2
  have hr2 : r' = (C, T, N) := Option.some.inj (hr'.symm.trans hc)
  subst hr2
  have hcomp : comp = K.1.1 ci := Option.some.inj (k3.symm.trans hcls.1)
  subst hcomp
  obtain ⟨kC, hkC, -⟩ := hcls.2
  refine W.aast hx hb hat (fun q h => by cases h) (fun h => by cases h) k1 k2 rfl hkC ⟨fun q => hin (Or.inl q), by show _ < (arrV _ _ _).slots.size; rw [arrV_size, hjc]; exact hj⟩ g1 (fun q h => by rw [g3] at h; cases h) (by rw [g2]; exact hkC) (by rw [g2]; exact va_assign hcls) rfl rfl hd fun H1 e1 z1 oq => ?_
  refine kk H1 _ ls (z1.trans h1) (h2.put hka ?_ oq) (h3.put z1 oq hka) h4
  show H1[a]? = some (vp_cell _ _)
  rw [e1, hjc, vp_cell_q, vp_cell_q, arrV_store]
  congr 2
  funext q
  by_cases hq : q = j
  · subst hq; simp [updV, va_up, va_rf]
  · simp [updV, va_up, hq]
/-- behind a call -/
theorem G.ofRun {mc ms : Nat} {st0 rest : List Value} {a : Array Value} {rv : Option Value} {V' : VW} {sz' : Nat}
    (hr : ∀ (H : Heap) (locs : List Loc) (ls : Array Slot), H.size = sz → hv K V H → va_S (kA K) s.heap H locs → lv_has ls nL lv → va_Run p l e R s m args below meth c H locs cells slots mc ms (F0 m pc ls st0) rest (QCt K rv V' sz' a) (kA K))
    (hz : sz ≤ sz') (kk : G K p l e R s m args below meth c Q nL V' sz' (cells + mc) (slots + ms) (pc + 3) lv (rv.toList ++ rest)) : G K p l e R s m args below meth c Q nL V sz cells slots pc lv st0 := by
  intro H locs ls h1 h2 h3 h4 T hT X
  obtain ⟨v, st₀, t, T', L, h0, X', hL, e1, e2, ⟨hv9, hz9, hh9, hF⟩, st⟩ := hr H locs ls h1 h2 h3 h4 T hT X
  cases hv9
  have hF2 := hF.2
  rw [h0] at hF2
  obtain ⟨t2, a1, b1⟩ := kk T'.heap (locs ++ L) ls (by rw [e1]; exact hz9) (by rw [e1]; exact hh9)
    ⟨Nat.le_trans h3.1 (by rw [e1, hz9, h1]; exact hz), fun q g1 g2 => by rw [e1, hF2 q (Nat.lt_of_lt_of_le g1 h3.1) g2]; exact h3.2.1 q g1 g2, fun q hq => by
      rcases List.mem_append.mp hq with h | h
      · exact h3.2.2 q h
      · exact hL q h⟩ h4 T' rfl X'
  exact ⟨t2, st t2 a1, b1⟩
def okB (y : MethodName) (cc : ByteArray) (maxL : Nat) (ret : Option FieldType) (n : Nat) : Prop := Cond.initialized y.cls ∈ wsL_law ∧ Cond.code y cc maxL ret ∈ wsL_law ∧ (y.cls ≠ "java/lang/invoke/MethodHandle" ∧ y.cls ≠ "java/lang/invoke/VarHandle" ∧ (parseMethodDescriptor y.desc).map (fun d => d.parameters.length) = some n)
def okV (y : MethodName) (cc : ByteArray) (maxL : Nat) (ret : Option FieldType) (n : Nat) : Prop := (Cond.instanceMethod y ∈ wsL_law ∧ Cond.selects y.cls y y ∈ wsL_law) ∧ okB y cc maxL ret n
def okS (y : MethodName) (cc : ByteArray) (maxL : Nat) (ret : Option FieldType) (n : Nat) : Prop := Cond.static y ∈ wsL_law ∧ okB y cc maxL ret n
def okI (y : MethodName) (cc : ByteArray) (maxL : Nat) (n : Nat) : Prop := (Cond.instanceMethod y ∈ wsL_law ∧ y.name = "<init>") ∧ okB y cc maxL none n
theorem goodU {w : Cond} (h : w ∈ wsL_law) : w ∈ wsL_law ∧ ((w.onTables && w.keeps) = true ∨ ∃ ty, w = .arrayClass ty) := ⟨h, good_of_word (List.all_eq_true.mp wsL_good _ h)⟩
theorem goodU_O {y : MethodName} {cc2 : ByteArray} {n2 : Nat} {r2 : Option FieldType} (h : Cond.code y cc2 n2 r2 ∈ wsL_law) : GoodIn wsL_law (wsO y cc2 n2 r2) := fun w hw => (List.mem_cons.mp hw).elim (fun e => by subst e; exact goodU h) (fun hw => goodU hw)
theorem Wd.after {H : Heap} {locs : List Loc} (cx : Cx K p s m args meth c own cc nL ret) (h1 : H.size = sz) (h2 : hv K V H) (h3 : va_S (kA K) s.heap H locs) {U : State} (hU : U.heap = H) (hW : s.WarmedH U.vm) : Wd K sz V U := by
  obtain ⟨-, -, -, -, -, hK, hZ, hn, -⟩ := cx
  refine ⟨by rw [hU]; exact h1, by rw [← h1]; exact Nat.le_trans hn h3.1, by rw [hU]; exact h2, hK.moved hW, ?_⟩
  rw [hU]
  exact (hZ.kept h3.2.1).moved hW.alike
section GCall
variable {y : MethodName} {cc2 : ByteArray} {maxL d mc ms n index : Nat} {ret2 : Option FieldType} {As rest st0 : List Value} {rv : Option Value} {V' : VW} {sz' b : Nat}
theorem G.callV (cx : Cx K p s m args meth c own cc nL ret) {C : String} {T : u_T} {N ci : Nat} {fs : List Value} (hM : Ct l K y cc2 maxL ret2 d (.ref b :: As) V sz rv V' sz' mc ms) (ok : okV y cc2 maxL ret2 As.length) (hd : decode cc pc = .ok (.invokevirtual index, 3)) (hw : Cond.methodLink own index y ∈ wsL_law) (hc : vwCl[ci]? = some (C, T, N)) (hCy : C = y.cls) (hV : V b = some (.inr (ci, fs))) (hst : st0 = As.reverse ++ .ref b :: rest) (hrest : (rest.map fun v => v.category).sum ≤ 8) (hz : sz ≤ sz') (hR : d + 1 ≤ R.frames ∧ 8 + (maxL + 11) + 30 * d ≤ R.locals) (hf : cells + mc ≤ R.cells ∧ slots + ms ≤ R.slots)
    (kk : G K p l e R s m args below meth c Q nL V' sz' (cells + mc) (slots + ms) (pc + 3) lv (rv.toList ++ rest)) : G K p l e R s m args below meth c Q nL V sz cells slots pc lv st0 := by
  refine G.ofRun (rest := rest) (a := (Value.ref b :: As).toArray) (mc := mc) (ms := ms) (fun H locs ls h1 h2 h3 h4 => ?_) hz kk
  obtain ⟨hx, hb, hml, ho, hts, hK, -⟩ := id cx
  obtain ⟨⟨o1, o2⟩, o3, o4, o5, o6, o7⟩ := ok
  subst hCy
  obtain ⟨-, hat⟩ := h2 b _ hV
  exact va_runV (Ts := wsL_law) (C := y.cls) ⟨hx, hb, hml, ho, hts⟩ hM (cwV As.length hts (fun w hw' => by
      unfold wsV at hw'
      rcases List.mem_append.mp hw' with h | h
      · simp only [List.mem_cons, List.not_mem_nil, or_false] at h
        rcases h with rfl | rfl | rfl | rfl
        · exact goodU hw
        · exact goodU o1
        · exact goodU o2
        · exact goodU o3
      · exact goodU_O o4 w h) rfl rfl rfl ⟨rfl, o5, o6, o7⟩ hR) ⟨Wd.blind, va_recv hK.1 (h2.one hV) (ci := ci) (q0 := 0) hc rfl, fun U hU hW => ⟨rfl, Wd.after cx h1 h2 h3 hU hW⟩⟩ rfl rfl h4.1 hst (lv_room hrest) hd hf
theorem G.callS (cx : Cx K p s m args meth c own cc nL ret) (hM : Ct l K y cc2 maxL ret2 d As V sz rv V' sz' mc ms) (ok : okS y cc2 maxL ret2 As.length) (hd : decode cc pc = .ok (.invokestatic index, 3)) (hw : Cond.methodLink own index y ∈ wsL_law) (hCy : y.cls = own) (hst : st0 = As.reverse ++ rest) (hrest : (rest.map fun v => v.category).sum ≤ 8) (hz : sz ≤ sz') (hR : d + 1 ≤ R.frames ∧ 8 + (maxL + 11) + 30 * d ≤ R.locals) (hf : cells + mc ≤ R.cells ∧ slots + ms ≤ R.slots)
    (kk : G K p l e R s m args below meth c Q nL V' sz' (cells + mc) (slots + ms) (pc + 3) lv (rv.toList ++ rest)) : G K p l e R s m args below meth c Q nL V sz cells slots pc lv st0 := by
  refine G.ofRun (rest := rest) (a := As.toArray) (mc := mc) (ms := ms) (fun H locs ls h1 h2 h3 h4 => ?_) hz kk
  obtain ⟨hx, hb, hml, ho, hts, hK, -⟩ := id cx
  obtain ⟨o1, o3, o4, o5, o6, o7⟩ := ok
  exact va_runS (Ts := wsL_law) ⟨hx, hb, hml, ho, hts⟩ hM (cwS As.length hts (fun w hw' => by
      unfold wsS at hw'
      rcases List.mem_append.mp hw' with h | h
      · simp only [List.mem_cons, List.not_mem_nil, or_false] at h
        rcases h with rfl | rfl | rfl
        · exact goodU hw
        · exact goodU o1
        · rw [← hCy]; exact goodU o3
      · exact goodU_O o4 w h) rfl rfl rfl ⟨hCy, o5, o6, o7⟩ hR) ⟨Wd.blind, fun U hU hW => ⟨rfl, Wd.after cx h1 h2 h3 hU hW⟩⟩ rfl rfl h4.1 hst (lv_room hrest) hd hf
theorem G.callSN (cx : Cx K p s m args meth c own cc nL ret) (hM : Ct l K y cc2 maxL ret2 d As V sz rv V' sz' mc ms) (ok : okS y cc2 maxL ret2 As.length) (hd : decode cc pc = .ok (.invokestatic index, 3)) (hw : (own, index, y) ∈ nestM) (hst : st0 = As.reverse ++ rest) (hrest : (rest.map fun v => v.category).sum ≤ 8) (hz : sz ≤ sz') (hR : d + 1 ≤ R.frames ∧ 8 + (maxL + 11) + 30 * d ≤ R.locals) (hf : cells + mc ≤ R.cells ∧ slots + ms ≤ R.slots)
    (kk : G K p l e R s m args below meth c Q nL V' sz' (cells + mc) (slots + ms) (pc + 3) lv (rv.toList ++ rest)) : G K p l e R s m args below meth c Q nL V sz cells slots pc lv st0 := by
  refine G.ofRun (rest := rest) (a := As.toArray) (mc := mc) (ms := ms) (fun H locs ls h1 h2 h3 h4 => ?_) hz kk
  obtain ⟨hx, hb, hml, ho, hts, hK, -⟩ := id cx
  obtain ⟨o1, o3, o4, o5, o6, o7⟩ := ok
  exact va_runSN (Ts := wsL_law) ⟨hx, hb, hml, ho, hts⟩ hM ⟨va_cnB As.length hts (goodU_O o4) rfl rfl rfl (hK.2.1 _ hw) (hts _ o3) ⟨o5, o6, o7⟩ hR, hts _ o1, trivial⟩ ⟨Wd.blind, fun U hU hW => ⟨rfl, Wd.after cx h1 h2 h3 hU hW⟩⟩ rfl rfl h4.1 hst (lv_room hrest) hd hf
theorem G.callI (cx : Cx K p s m args meth c own cc nL ret) (hM : Ct l K y cc2 maxL none d (.ref b :: As) V sz rv V' sz' mc ms) (ok : okI y cc2 maxL As.length) (hd : decode cc pc = .ok (.invokespecial index, 3)) (hw : Cond.methodLink own index y ∈ wsL_law) (hst : st0 = As.reverse ++ .ref b :: rest) (hrest : (rest.map fun v => v.category).sum ≤ 8) (hz : sz ≤ sz') (hR : d + 1 ≤ R.frames ∧ 8 + (maxL + 11) + 30 * d ≤ R.locals) (hf : cells + mc ≤ R.cells ∧ slots + ms ≤ R.slots)
    (kk : G K p l e R s m args below meth c Q nL V' sz' (cells + mc) (slots + ms) (pc + 3) lv (rv.toList ++ rest)) : G K p l e R s m args below meth c Q nL V sz cells slots pc lv st0 := by
  refine G.ofRun (rest := rest) (a := (Value.ref b :: As).toArray) (mc := mc) (ms := ms) (fun H locs ls h1 h2 h3 h4 => ?_) hz kk
  obtain ⟨hx, hb, hml, ho, hts, hK, -⟩ := id cx
  obtain ⟨⟨o1, o2⟩, o3, o4, o5, o6, o7⟩ := ok
  exact va_runI (Ts := wsL_law) ⟨hx, hb, hml, ho, hts⟩ hM (cwI As.length hts (goodU_O o4) rfl rfl rfl (hts _ o3) (hts _ hw) (hts _ o1) o2 ⟨o5, o6, o7⟩ hR) ⟨Wd.blind, fun U hU hW => ⟨rfl, Wd.after cx h1 h2 h3 hU hW⟩⟩ rfl rfl h4.1 hst (lv_room hrest) hd hf
theorem G.callIN (cx : Cx K p s m args meth c own cc nL ret) (hM : Ct l K y cc2 maxL none d (.ref b :: As) V sz rv V' sz' mc ms) (ok : okI y cc2 maxL As.length) (hd : decode cc pc = .ok (.invokespecial index, 3)) (hw : (own, index, y) ∈ nestM) (hst : st0 = As.reverse ++ .ref b :: rest) (hrest : (rest.map fun v => v.category).sum ≤ 8) (hz : sz ≤ sz') (hR : d + 1 ≤ R.frames ∧ 8 + (maxL + 11) + 30 * d ≤ R.locals) (hf : cells + mc ≤ R.cells ∧ slots + ms ≤ R.slots)
    (kk : G K p l e R s m args below meth c Q nL V' sz' (cells + mc) (slots + ms) (pc + 3) lv (rv.toList ++ rest)) : G K p l e R s m args below meth c Q nL V sz cells slots pc lv st0 := by
  refine G.ofRun (rest := rest) (a := (Value.ref b :: As).toArray) (mc := mc) (ms := ms) (fun H locs ls h1 h2 h3 h4 => ?_) hz kk
  obtain ⟨hx, hb, hml, ho, hts, hK, -⟩ := id cx
  obtain ⟨⟨o1, o2⟩, o3, o4, o5, o6, o7⟩ := ok
  exact va_runIN (Ts := wsL_law) ⟨hx, hb, hml, ho, hts⟩ hM ⟨va_cnB As.length hts (goodU_O o4) rfl rfl rfl (hK.2.1 _ hw) (hts _ o3) ⟨o5, o6, o7⟩ hR, o2, hts _ o1⟩ ⟨Wd.blind, fun U hU hW => ⟨rfl, Wd.after cx h1 h2 h3 hU hW⟩⟩ rfl rfl h4.1 hst (lv_room hrest) hd hf
end GCall
end GS
end
section
/-! THE PICTURES: the books' numbers z (as the reference counts them: 10 a sailor from 0, 5 an item from 160, the ship's from 190, cash and sums from 195, settings from 203, the book from 206); bw: the class's 31 cells of one Books at b; mw: the reference's 6 cells at c. -/
abbrev Zt : Type := Nat → Int32
abbrev Rt : Type := Zt × Zt × Zt × Zt × Zt
def slist (z : Zt) (k : Nat) : List Value := [.int (z (10 * k)), .int (z (10 * k + 1)), .int (z (10 * k + 2)), .int (z (10 * k + 3)), .int (z (10 * k + 4)), .int (z (10 * k + 5)), .int (z (10 * k + 6)), .int (z (10 * k + 7)), .int (-(z (10 * k + 8))), .int (z (10 * k + 9))]
def ilist (z : Zt) (k : Nat) : List Value := [.int (z (160 + 5 * k)), .int (z (160 + 5 * k + 1)), .int (z (160 + 5 * k + 2)), .int (z (160 + 5 * k + 3)), .int (z (160 + 5 * k + 4))]
def blist (b : Nat) (z : Zt) : List Value := [.ref (b + 1), .ref (b + 18), .ref (b + 25), .ref (b + 26), .ref (b + 30), .int (z 194), .int (z 190), .int (z 192), .int (z 193), .int (z 191)]
def tlist (z : Zt) : List Value := [.int (z 195), .int (z 196), .int (z 197), .int (z 198), .int (z 199), .int (z 200), .int (z 201), .int (z 202)]
def elist (b : Nat) (z : Zt) : List Value := [.ref (b + 27), .ref (b + 28), .ref (b + 29), .int (z 206)]
def setF (z : Zt) : Nat → Int32 := fun k => if k < 3 then z (203 + k) else 0
def entF (z : Zt) (w : Nat) : Nat → Int32 := fun k => if k < 8 then z (207 + 3 * k + w) else 0
def bcell (K : KT) (b : Nat) (z : Zt) (i : Nat) : va_E :=
  if i = 0 then .inr (0, blist b z) else if i = 1 then .inl (K.2.1 1, 16, .inr (.inr (.inr (.inr (fun k => some (b + 2 + k))))))
  else if i < 18 then .inr (6, slist z (i - 2)) else if i = 18 then .inl (K.2.1 2, 6, .inr (.inr (.inr (.inr (fun k => some (b + 19 + k))))))
  else if i < 25 then .inr (3, ilist z (i - 19)) else if i = 25 then .inl (K.2.1 0, 3, .inl (setF z)) else if i = 26 then .inr (1, elist b z)
  else if i < 30 then .inl (K.2.1 0, 8, .inl (entF z (i - 27))) else .inr (8, tlist z)
def bw (K : KT) (b : Nat) (z : Zt) (V : VW) : VW := fun a => if b ≤ a ∧ a < b + 31 then some (bcell K b z (a - b)) else V a
def mlist (c : Nat) (g : Zt) : List Value := [.ref (c + 1), .ref (c + 2), .ref (c + 3), .int (g 0), .ref (c + 4), .int (g 1), .int (g 2), .ref (c + 5), .int (g 3), .int (g 4), .int (g 5), .int (g 6), .int (g 7)]
/-- what an array of n places holds of f -/
def cutF (n : Nat) (f : Zt) : Zt := fun i => if i < n then f i else 0
theorem cut_at {n j : Nat} {f : Zt} (h : j < n) : cutF n f j = f j := if_pos h
theorem cut_up {n j : Nat} {f : Zt} {x : Int32} (h : j < n) : upd (cutF n f) j x = cutF n (upd f j x) := by
  funext i; simp only [cutF, upd]
  by_cases h1 : i = j
  · subst h1; simp [h]
  · simp [h1]
theorem cut_eq {n : Nat} {f g : Zt} (h : ∀ i, i < n → f i = g i) : cutF n f = cutF n g := by
  funext i; simp only [cutF]
  by_cases h1 : i < n
  · simp [h1, h i h1]
  · simp [h1]
def mcell (K : KT) (c : Nat) (z : Zt) (r : Rt) (i : Nat) : va_E :=
  if i = 0 then .inr (10, mlist c r.2.2.2.2) else if i = 1 then .inl (K.2.1 0, 231, .inl (cutF 231 z)) else if i = 2 then .inl (K.2.1 0, 231, .inl (cutF 231 r.1))
  else if i = 3 then .inl (K.2.1 0, 924, .inl (cutF 924 r.2.1)) else if i = 4 then .inl (K.2.1 0, 60, .inl (cutF 60 r.2.2.1)) else .inl (K.2.1 0, 3, .inl (cutF 3 r.2.2.2.1))
def mw (K : KT) (c : Nat) (z : Zt) (r : Rt) (V : VW) : VW := fun a => if c ≤ a ∧ a < c + 6 then some (mcell K c z r (a - c)) else V a
section views
variable {K : KT} {b c k j : Nat} {z z' : Zt} {r r' : Rt} {V : VW}
theorem bw_at {i : Nat} (hi : i < 31) : bw K b z V (b + i) = some (bcell K b z i) := by
  unfold bw; rw [if_pos ⟨by omega, by omega⟩, Nat.add_sub_cancel_left]
theorem bw_out {a : Nat} (h : a < b ∨ b + 31 ≤ a) : bw K b z V a = V a := by
  unfold bw; rw [if_neg (by omega)]
theorem bw_b : bw K b z V b = some (.inr (0, blist b z)) := bw_at (i := 0) (by decide)
theorem bw_crew : bw K b z V (b + 1) = some (.inl (K.2.1 1, 16, .inr (.inr (.inr (.inr (fun k => some (b + 2 + k))))))) := bw_at (i := 1) (by decide)
theorem bw_s (hk : k < 16) : bw K b z V (b + 2 + k) = some (.inr (6, slist z k)) := by
  rw [Nat.add_assoc, bw_at (by omega)]; unfold bcell
  rw [if_neg (by omega), if_neg (by omega), if_pos (by omega), show 2 + k - 2 = k by omega]
theorem bw_chest : bw K b z V (b + 18) = some (.inl (K.2.1 2, 6, .inr (.inr (.inr (.inr (fun k => some (b + 19 + k))))))) := bw_at (i := 18) (by decide)
theorem bw_i (hk : k < 6) : bw K b z V (b + 19 + k) = some (.inr (3, ilist z k)) := by
  rw [Nat.add_assoc, bw_at (by omega)]; unfold bcell
  rw [if_neg (by omega), if_neg (by omega), if_neg (by omega), if_neg (by omega), if_pos (by omega), show 19 + k - 19 = k by omega]
theorem bw_set : bw K b z V (b + 25) = some (.inl (K.2.1 0, 3, .inl (setF z))) := bw_at (i := 25) (by decide)
theorem bw_e : bw K b z V (b + 26) = some (.inr (1, elist b z)) := bw_at (i := 26) (by decide)
theorem bw_ea (hk : k < 3) : bw K b z V (b + 27 + k) = some (.inl (K.2.1 0, 8, .inl (entF z k))) := by
  rw [Nat.add_assoc, bw_at (by omega)]; unfold bcell
  rw [if_neg (by omega), if_neg (by omega), if_neg (by omega), if_neg (by omega), if_neg (by omega), if_neg (by omega), if_neg (by omega), if_pos (by omega), show 27 + k - 27 = k by omega]
theorem bw_t : bw K b z V (b + 30) = some (.inr (8, tlist z)) := bw_at (i := 30) (by decide)
theorem bw_up {i : Nat} {x : va_E} (hi : i < 31) (hx : x = bcell K b z' i) (ho : ∀ j, j < 31 → j ≠ i → bcell K b z j = bcell K b z' j) : vset (bw K b z V) (b + i) x = bw K b z' V := by
  funext a
  by_cases ha : a = b + i
  · subst ha; rw [vset_self, bw_at hi, hx]
  · rw [vset_ne _ _ ha]
    unfold bw
    by_cases h : b ≤ a ∧ a < b + 31
    · rw [if_pos h, if_pos h, ho (a - b) (by omega) (by omega)]
    · rw [if_neg h, if_neg h]
theorem upd_s (z : Zt) (i : Nat) (v : Int32) : upd z i v i = v := if_pos rfl
theorem upd_n (z : Zt) {i j : Nat} (v : Int32) (h : j ≠ i) : upd z i v j = z j := if_neg h
/-- a cell of the books keeps, where the number that changed isn't its own -/
theorem bc_keep {n : Nat} {v : Int32} {j : Nat} (hj : j < 31) (hb : j = 0 → n < 190 ∨ 194 < n) (hs : 2 ≤ j → j < 18 → n < 10 * (j - 2) ∨ 10 * (j - 2) + 9 < n) (hi : 19 ≤ j → j < 25 → n < 160 + 5 * (j - 19) ∨ 160 + 5 * (j - 19) + 4 < n)
    (h25 : j = 25 → n < 203 ∨ 205 < n) (h26 : j = 26 → n ≠ 206) (he : 27 ≤ j → j < 30 → n < 207 ∨ 231 ≤ n ∨ n % 3 ≠ j - 27) (ht : j = 30 → n < 195 ∨ 202 < n) : bcell K b z j = bcell K b (upd z n v) j := by
  unfold bcell
  by_cases h0 : j = 0
  · simp only [h0, if_true, blist]
    have := hb h0
    simp (disch := omega) only [upd_n]
  by_cases h1 : j = 1
  · simp [h1]
  by_cases h2 : j < 18
  · have := hs (by omega) h2
    simp only [h0, h1, h2, if_true, if_false, slist]
    simp (disch := omega) only [upd_n]
  by_cases h3 : j = 18
  · simp [h3]
  by_cases h4 : j < 25
  · have := hi (by omega) h4
    simp only [h0, h1, h2, h3, h4, if_true, if_false, ilist]
    simp (disch := omega) only [upd_n]
  by_cases h5 : j = 25
  · have := h25 h5
    simp only [h5]
    have e : setF z = setF (upd z n v) := by
      funext k; unfold setF
      by_cases hk : k < 3
      · rw [if_pos hk, if_pos hk, upd_n _ _ (by omega)]
      · rw [if_neg hk, if_neg hk]
    simp [e]
  by_cases h6 : j = 26
  · have := h26 h6
    simp only [h6, elist]
    simp [upd_n, this.symm]
  by_cases h7 : j < 30
  · have := he (by omega) h7
    have e : entF z (j - 27) = entF (upd z n v) (j - 27) := by
      funext k; unfold entF
      by_cases hk : k < 8
      · rw [if_pos hk, if_pos hk, upd_n _ _ (by omega)]
      · rw [if_neg hk, if_neg hk]
    simp only [h0, h1, h2, h3, h4, h5, h6, h7, if_true, if_false, e]
  · have := ht (by omega)
    simp only [h0, h1, h2, h3, h4, h5, h6, h7, if_true, if_false, tlist]
    simp (disch := omega) only [upd_n]
theorem bc_s (hk : k < 16) : bcell K b z (2 + k) = .inr (6, slist z k) := by
  unfold bcell
  rw [if_neg (by omega), if_neg (by omega), if_pos (by omega), show 2 + k - 2 = k by omega]
theorem bc_i (hk : k < 6) : bcell K b z (19 + k) = .inr (3, ilist z k) := by
  unfold bcell
  rw [if_neg (by omega), if_neg (by omega), if_neg (by omega), if_neg (by omega), if_pos (by omega), show 19 + k - 19 = k by omega]
theorem bwS {n : Nat} {v : Int32} {fs : List Value} (hk : k < 16) (hn : 10 * k ≤ n ∧ n ≤ 10 * k + 9) (hf : fs = slist (upd z n v) k) : vset (bw K b z V) (b + 2 + k) (.inr (6, fs)) = bw K b (upd z n v) V := by
  rw [Nat.add_assoc]
  refine bw_up (by omega) (by rw [bc_s hk, hf]) (fun j hj hne => bc_keep hj ?_ ?_ ?_ ?_ ?_ ?_ ?_) <;> omega
theorem bwI {n : Nat} {v : Int32} {fs : List Value} (hk : k < 6) (hn : 160 + 5 * k ≤ n ∧ n ≤ 160 + 5 * k + 4) (hf : fs = ilist (upd z n v) k) : vset (bw K b z V) (b + 19 + k) (.inr (3, fs)) = bw K b (upd z n v) V := by
  rw [Nat.add_assoc]
  refine bw_up (by omega) (by rw [bc_i hk, hf]) (fun j hj hne => bc_keep hj ?_ ?_ ?_ ?_ ?_ ?_ ?_) <;> omega
theorem bwT {n : Nat} {v : Int32} {fs : List Value} (hn : 195 ≤ n ∧ n ≤ 202) (hf : fs = tlist (upd z n v)) : vset (bw K b z V) (b + 30) (.inr (8, fs)) = bw K b (upd z n v) V := by
  refine bw_up (by omega) (by rw [hf]; rfl) (fun j hj hne => bc_keep hj ?_ ?_ ?_ ?_ ?_ ?_ ?_) <;> omega
theorem bwB {n : Nat} {v : Int32} {fs : List Value} (hn : 190 ≤ n ∧ n ≤ 194) (hf : fs = blist b (upd z n v)) : vset (bw K b z V) b (.inr (0, fs)) = bw K b (upd z n v) V := by
  refine bw_up (i := 0) (by omega) (by rw [hf]; rfl) (fun j hj hne => bc_keep hj ?_ ?_ ?_ ?_ ?_ ?_ ?_) <;> omega
theorem bwE {v : Int32} {fs : List Value} (hf : fs = elist b (upd z 206 v)) : vset (bw K b z V) (b + 26) (.inr (1, fs)) = bw K b (upd z 206 v) V := by
  refine bw_up (by omega) (by rw [hf]; rfl) (fun j hj hne => bc_keep hj ?_ ?_ ?_ ?_ ?_ ?_ ?_) <;> omega
theorem bwSet {v : Int32} (hj : j < 3) : vset (bw K b z V) (b + 25) (.inl (K.2.1 0, 3, .inl (upd (setF z) j v))) = bw K b (upd z (203 + j) v) V := by
  refine bw_up (by omega) ?_ (fun i hi hne => bc_keep hi ?_ ?_ ?_ ?_ ?_ ?_ ?_) <;> try omega
  have e : upd (setF z) j v = setF (upd z (203 + j) v) := by
    funext i; simp only [setF, upd]
    by_cases h : i = j
    · subst h; simp [hj]
    · by_cases h3 : i < 3 <;> simp [h, h3]
  rw [e]; rfl
theorem bc_e (hk : k < 3) : bcell K b z (27 + k) = .inl (K.2.1 0, 8, .inl (entF z k)) := by
  unfold bcell
  rw [if_neg (by omega), if_neg (by omega), if_neg (by omega), if_neg (by omega), if_neg (by omega), if_neg (by omega), if_neg (by omega), if_pos (by omega), show 27 + k - 27 = k by omega]
theorem bwEa {v : Int32} (hk : k < 3) (hj : j < 8) : vset (bw K b z V) (b + 27 + k) (.inl (K.2.1 0, 8, .inl (upd (entF z k) j v))) = bw K b (upd z (207 + 3 * j + k) v) V := by
  rw [Nat.add_assoc]
  refine bw_up (by omega) ?_ (fun i hi hne => bc_keep hi ?_ ?_ ?_ ?_ ?_ ?_ ?_) <;> try omega
  have e : upd (entF z k) j v = entF (upd z (207 + 3 * j + k) v) k := by
    funext i; simp only [entF, upd]
    by_cases h : i = j
    · subst h; simp [hj]
    · by_cases h3 : i < 8
      · rw [if_neg h, if_pos h3, if_pos h3, if_neg (by omega)]
      · rw [if_neg h, if_neg h3, if_neg h3]
  rw [e, bc_e hk]
theorem bw_bw : bw K b z (bw K b z' V) = bw K b z V := by
  funext a; unfold bw
  by_cases h : b ≤ a ∧ a < b + 31
  · rw [if_pos h, if_pos h]
  · rw [if_neg h, if_neg h, if_neg h]
theorem bw_comm {b' : Nat} (h : b + 31 ≤ b' ∨ b' + 31 ≤ b) : bw K b z (bw K b' z' V) = bw K b' z' (bw K b z V) := by
  funext a; unfold bw
  by_cases h1 : b ≤ a ∧ a < b + 31
  · rw [if_pos h1, if_neg (by omega), if_pos h1]
  · rw [if_neg h1]
    by_cases h2 : b' ≤ a ∧ a < b' + 31
    · rw [if_pos h2, if_pos h2]
    · rw [if_neg h2, if_neg h2, if_neg h1]
-- the reference
theorem mw_at {i : Nat} (hi : i < 6) : mw K c z r V (c + i) = some (mcell K c z r i) := by
  unfold mw; rw [if_pos ⟨by omega, by omega⟩, Nat.add_sub_cancel_left]
theorem mw_out {a : Nat} (h : a < c ∨ c + 6 ≤ a) : mw K c z r V a = V a := by
  unfold mw; rw [if_neg (by omega)]
theorem mw_m : mw K c z r V c = some (.inr (10, mlist c r.2.2.2.2)) := mw_at (i := 0) (by decide)
theorem mw_z : mw K c z r V (c + 1) = some (.inl (K.2.1 0, 231, .inl (cutF 231 z))) := mw_at (i := 1) (by decide)
theorem mw_as : mw K c z r V (c + 2) = some (.inl (K.2.1 0, 231, .inl (cutF 231 r.1))) := mw_at (i := 2) (by decide)
theorem mw_be : mw K c z r V (c + 3) = some (.inl (K.2.1 0, 924, .inl (cutF 924 r.2.1))) := mw_at (i := 3) (by decide)
theorem mw_tx : mw K c z r V (c + 4) = some (.inl (K.2.1 0, 60, .inl (cutF 60 r.2.2.1))) := mw_at (i := 4) (by decide)
theorem mw_nu : mw K c z r V (c + 5) = some (.inl (K.2.1 0, 3, .inl (cutF 3 r.2.2.2.1))) := mw_at (i := 5) (by decide)
theorem mw_up {i : Nat} {x : va_E} (hi : i < 6) (hx : x = mcell K c z' r' i) (ho : ∀ j, j < 6 → j ≠ i → mcell K c z r j = mcell K c z' r' j) : vset (mw K c z r V) (c + i) x = mw K c z' r' V := by
  funext a
  by_cases ha : a = c + i
  · subst ha; rw [vset_self, mw_at hi, hx]
  · rw [vset_ne _ _ ha]
    unfold mw
    by_cases h : c ≤ a ∧ a < c + 6
    · rw [if_pos h, if_pos h, ho (a - c) (by omega) (by omega)]
    · rw [if_neg h, if_neg h]
theorem mwZ : vset (mw K c z r V) (c + 1) (.inl (K.2.1 0, 231, .inl (cutF 231 z'))) = mw K c z' r V := by
  refine mw_up (by omega) rfl (fun j hj hne => ?_)
  unfold mcell; simp [hne]
theorem mwAs {f : Zt} : vset (mw K c z r V) (c + 2) (.inl (K.2.1 0, 231, .inl (cutF 231 f))) = mw K c z (f, r.2) V := by
  refine mw_up (by omega) rfl (fun j hj hne => ?_)
  unfold mcell; simp [hne]
theorem mwBe {f : Zt} : vset (mw K c z r V) (c + 3) (.inl (K.2.1 0, 924, .inl (cutF 924 f))) = mw K c z (r.1, f, r.2.2) V := by
  refine mw_up (by omega) rfl (fun j hj hne => ?_)
  unfold mcell; simp [hne]
theorem mwTx {f : Zt} : vset (mw K c z r V) (c + 4) (.inl (K.2.1 0, 60, .inl (cutF 60 f))) = mw K c z (r.1, r.2.1, f, r.2.2.2) V := by
  refine mw_up (by omega) rfl (fun j hj hne => ?_)
  unfold mcell; simp [hne]
theorem mwNu {f : Zt} : vset (mw K c z r V) (c + 5) (.inl (K.2.1 0, 3, .inl (cutF 3 f))) = mw K c z (r.1, r.2.1, r.2.2.1, f, r.2.2.2.2) V := by
  refine mw_up (by omega) rfl (fun j hj hne => ?_)
  unfold mcell
  have : j < 5 := by omega
  by_cases h0 : j = 0
  · simp [h0]
  by_cases h1 : j = 1
  · simp [h1]
  by_cases h2 : j = 2
  · simp [h2]
  by_cases h3 : j = 3
  · simp [h3]
  by_cases h4 : j = 4
  · simp [h4]
  omega
theorem mwG {fs : List Value} {g : Zt} (hf : fs = mlist c g) : vset (mw K c z r V) c (.inr (10, fs)) = mw K c z (r.1, r.2.1, r.2.2.1, r.2.2.2.1, g) V := by
  refine mw_up (i := 0) (by omega) (by rw [hf]; rfl) (fun j hj hne => ?_)
  unfold mcell; simp [hne]
end views
theorem setF_at {z : Zt} {j : Nat} (h : j < 3) : setF z j = z (203 + j) := if_pos h
theorem entF_at {z : Zt} {w j : Nat} (h : j < 8) : entF z w j = z (207 + 3 * j + w) := if_pos h
/-- two books with the same 231 numbers are one picture -/
theorem bw_eq {K : KT} {b : Nat} {z z' : Zt} {V : VW} (h : ∀ i, i < 231 → z i = z' i) : bw K b z V = bw K b z' V := by
  funext a; unfold bw
  by_cases h1 : b ≤ a ∧ a < b + 31
  · rw [if_pos h1, if_pos h1]
    congr 1
    generalize a - b = j at *
    unfold bcell
    by_cases g : 2 ≤ j ∧ j < 18
    · obtain ⟨k, rfl⟩ : ∃ k, j = 2 + k := ⟨j - 2, by omega⟩
      have hk : k < 16 := by omega
      rw [if_neg (by omega), if_neg (by omega), if_pos (by omega), if_neg (by omega), if_neg (by omega), if_pos (by omega), show 2 + k - 2 = k by omega]
      simp only [slist]
      rw [h (10 * k) (by omega), h (10 * k + 1) (by omega), h (10 * k + 2) (by omega), h (10 * k + 3) (by omega), h (10 * k + 4) (by omega), h (10 * k + 5) (by omega), h (10 * k + 6) (by omega), h (10 * k + 7) (by omega), h (10 * k + 8) (by omega), h (10 * k + 9) (by omega)]
    by_cases g2 : 19 ≤ j ∧ j < 25
    · obtain ⟨k, rfl⟩ : ∃ k, j = 19 + k := ⟨j - 19, by omega⟩
      have hk : k < 6 := by omega
      have e : ilist z k = ilist z' k := by
        simp only [ilist]
        rw [h (160 + 5 * k) (by omega), h (160 + 5 * k + 1) (by omega), h (160 + 5 * k + 2) (by omega), h (160 + 5 * k + 3) (by omega), h (160 + 5 * k + 4) (by omega)]
      rw [show 19 + k - 19 = k by omega, e]
      simp [show ¬ (19 + k = 0) by omega, show ¬ (19 + k = 1) by omega, show ¬ (19 + k < 18) by omega, show ¬ (19 + k = 18) by omega, show 19 + k < 25 by omega]
    have e0 : blist b z = blist b z' := by simp only [blist]; rw [h 194 (by omega), h 190 (by omega), h 192 (by omega), h 193 (by omega), h 191 (by omega)]
    have e1 : setF z = setF z' := by
      funext i; simp only [setF]
      by_cases hi : i < 3
      · rw [if_pos hi, if_pos hi, h _ (by omega)]
      · rw [if_neg hi, if_neg hi]
    have e2 : elist b z = elist b z' := by simp only [elist]; rw [h 206 (by omega)]
    have e3 : tlist z = tlist z' := by
      simp only [tlist]; rw [h 195 (by omega), h 196 (by omega), h 197 (by omega), h 198 (by omega), h 199 (by omega), h 200 (by omega), h 201 (by omega), h 202 (by omega)]
    have e4 : ∀ w, w < 3 → entF z w = entF z' w := by
      intro w hw; funext i; simp only [entF]
      by_cases hi : i < 8
      · rw [if_pos hi, if_pos hi, h _ (by omega)]
      · rw [if_neg hi, if_neg hi]
    by_cases h0 : j = 0
    · simp [h0, e0]
    by_cases h1 : j = 1
    · simp [h1]
    by_cases h2 : j < 18
    · omega
    by_cases h3 : j = 18
    · simp [h3]
    by_cases h4 : j < 25
    · omega
    by_cases h5 : j = 25
    · simp [h5, e1]
    by_cases h6 : j = 26
    · simp [h6, e2]
    by_cases h7 : j < 30
    · simp [h0, h1, h2, h3, h4, h5, h6, h7, e4 (j - 27) (by omega)]
    · simp [h0, h1, h2, h3, h4, h5, h6, h7, e3]
  · rw [if_neg h1, if_neg h1]
theorem mw_eq {K : KT} {c : Nat} {z z' : Zt} {r : Rt} {V : VW} (h : ∀ i, i < 231 → z i = z' i) : mw K c z r V = mw K c z' r V := by
  unfold mw mcell; rw [cut_eq h]
def b2 (P : Prop) [Decidable P] : Int32 := if P then 1 else 0
theorem b2_eq0 {P : Prop} [Decidable P] : b2 P = 0 ↔ ¬ P := by unfold b2; by_cases h : P <;> simp [h]
theorem b2_ne0 {P : Prop} [Decidable P] : ¬ b2 P = 0 ↔ P := by unfold b2; by_cases h : P <;> simp [h]
theorem b2_t {P : Prop} [Decidable P] (h : P) : b2 P = 1 := if_pos h
theorem b2_f {P : Prop} [Decidable P] (h : ¬ P) : b2 P = 0 := if_neg h
theorem b2_narrow {P : Prop} [Decidable P] : narrow .boolean (.int (b2 P)) = .int (b2 P) := by unfold b2; by_cases h : P <;> simp [h] <;> decide
end
section
section Rows2
variable {K : KT} {p : Program} {l : Launch} {e : Env} {R : Room} {s : State} {m : MethodId} {args : Array Value} {below : List Frame} {meth : Method} {c : Code} {Q : State → Prop} {nL : Nat} {own : String} {cc : ByteArray} {ret : Option FieldType}
variable {V : VW} {sz cells slots pc : Nat} {lv : List (Nat × Value)} {st : List Value} {b k mc : Nat} {z : Zt} {r : Rt}
theorem nI_inc (n : Nat) : nI n + Int32.ofInt 1 = nI (n + 1) := nI_add n 1
theorem G.lv0 {lv2 : List (Nat × Value)} (h : lv = lv2) (kk : G K p l e R s m args below meth c Q nL V sz cells slots pc lv2 st) : G K p l e R s m args below meth c Q nL V sz cells slots pc lv st := h ▸ kk
theorem G.getS (cx : Cx K p s m args meth c own cc nL ret) {index : Nat} (hd : decode cc pc = .ok (.getfield index, 3)) (q : Nat) {v : Value} (hw : Cond.fieldLink own index (TX6 q).1 (TX6 q).2.1 (TX6 q).2.2.1 ∈ wsL_law) (hq : q < 10) (hk : k < 16) (hf : (slist z k)[q]? = some v) (kk : G K p l e R s m args below meth c Q nL (bw K b z V) sz cells slots (pc + 3) lv (v :: st)) : G K p l e R s m args below meth c Q nL (bw K b z V) sz cells slots pc lv (.ref (b + 2 + k) :: st) := G.get cx q hd hw inlX6 rfl hq (bw_s hk) hf kk
theorem G.getI (cx : Cx K p s m args meth c own cc nL ret) {index : Nat} (hd : decode cc pc = .ok (.getfield index, 3)) (q : Nat) {v : Value} (hw : Cond.fieldLink own index (TX3 q).1 (TX3 q).2.1 (TX3 q).2.2.1 ∈ wsL_law) (hq : q < 5) (hk : k < 6) (hf : (ilist z k)[q]? = some v) (kk : G K p l e R s m args below meth c Q nL (bw K b z V) sz cells slots (pc + 3) lv (v :: st)) : G K p l e R s m args below meth c Q nL (bw K b z V) sz cells slots pc lv (.ref (b + 19 + k) :: st) := G.get cx q hd hw inlX3 rfl hq (bw_i hk) hf kk
theorem G.getT (cx : Cx K p s m args meth c own cc nL ret) {index : Nat} (hd : decode cc pc = .ok (.getfield index, 3)) (q : Nat) {v : Value} (hw : Cond.fieldLink own index (TX8 q).1 (TX8 q).2.1 (TX8 q).2.2.1 ∈ wsL_law) (hq : q < 8) (hf : (tlist z)[q]? = some v) (kk : G K p l e R s m args below meth c Q nL (bw K b z V) sz cells slots (pc + 3) lv (v :: st)) : G K p l e R s m args below meth c Q nL (bw K b z V) sz cells slots pc lv (.ref (b + 30) :: st) := G.get cx q hd hw inlX8 rfl hq bw_t hf kk
theorem G.getB (cx : Cx K p s m args meth c own cc nL ret) {index : Nat} (hd : decode cc pc = .ok (.getfield index, 3)) (q : Nat) {v : Value} (hw : Cond.fieldLink own index (TX0 q).1 (TX0 q).2.1 (TX0 q).2.2.1 ∈ wsL_law) (hq : q < 10) (hf : (blist b z)[q]? = some v) (kk : G K p l e R s m args below meth c Q nL (bw K b z V) sz cells slots (pc + 3) lv (v :: st)) : G K p l e R s m args below meth c Q nL (bw K b z V) sz cells slots pc lv (.ref b :: st) := G.get cx q hd hw inlX0 rfl hq bw_b hf kk
theorem G.getE (cx : Cx K p s m args meth c own cc nL ret) {index : Nat} (hd : decode cc pc = .ok (.getfield index, 3)) (q : Nat) {v : Value} (hw : Cond.fieldLink own index (TX1 q).1 (TX1 q).2.1 (TX1 q).2.2.1 ∈ wsL_law) (hq : q < 4) (hf : (elist b z)[q]? = some v) (kk : G K p l e R s m args below meth c Q nL (bw K b z V) sz cells slots (pc + 3) lv (v :: st)) : G K p l e R s m args below meth c Q nL (bw K b z V) sz cells slots pc lv (.ref (b + 26) :: st) := G.get cx q hd hw inlX1 rfl hq bw_e hf kk
theorem G.getM (cx : Cx K p s m args meth c own cc nL ret) {index : Nat} (hd : decode cc pc = .ok (.getfield index, 3)) (q : Nat) {v : Value} (hw : Cond.fieldLink own index (TX10 q).1 (TX10 q).2.1 (TX10 q).2.2.1 ∈ wsL_law) (hq : q < 13) (hf : (mlist mc r.2.2.2.2)[q]? = some v) (kk : G K p l e R s m args below meth c Q nL (mw K mc z r V) sz cells slots (pc + 3) lv (v :: st)) : G K p l e R s m args below meth c Q nL (mw K mc z r V) sz cells slots pc lv (.ref mc :: st) := G.get cx q hd hw inlX10 rfl hq mw_m hf kk
theorem slist_up (z : Zt) (k : Nat) (v : Int32) : ∀ q, q < 10 → q ≠ 8 → (slist z k).set q (.int v) = slist (upd z (10 * k + q) v) k := by
  intro q hq h8
  rcases (show q = 0 ∨ q = 1 ∨ q = 2 ∨ q = 3 ∨ q = 4 ∨ q = 5 ∨ q = 6 ∨ q = 7 ∨ q = 9 by omega) with rfl | rfl | rfl | rfl | rfl | rfl | rfl | rfl | rfl <;> simp [slist, upd]
theorem slist_up8 (z : Zt) (k : Nat) (v : Int32) : (slist z k).set 8 (.int v) = slist (upd z (10 * k + 8) (-v)) k := by simp [slist, upd]
theorem ilist_up (z : Zt) (k : Nat) (v : Int32) : ∀ q, q < 5 → (ilist z k).set q (.int v) = ilist (upd z (160 + 5 * k + q) v) k := by
  intro q hq
  rcases (show q = 0 ∨ q = 1 ∨ q = 2 ∨ q = 3 ∨ q = 4 by omega) with rfl | rfl | rfl | rfl | rfl <;> simp [ilist, upd]
theorem tlist_up (z : Zt) (v : Int32) : ∀ q, q < 8 → (tlist z).set q (.int v) = tlist (upd z (195 + q) v) := by
  intro q hq
  rcases (show q = 0 ∨ q = 1 ∨ q = 2 ∨ q = 3 ∨ q = 4 ∨ q = 5 ∨ q = 6 ∨ q = 7 by omega) with rfl | rfl | rfl | rfl | rfl | rfl | rfl | rfl <;> simp [tlist, upd]
theorem G.putS (cx : Cx K p s m args meth c own cc nL ret) {index : Nat} (hd : decode cc pc = .ok (.putfield index, 3)) (q : Nat) {v : Int32} (hw : Cond.fieldLink own index (TX6 q).1 (TX6 q).2.1 (TX6 q).2.2.1 ∈ wsL_law) (hq : q < 10) (h8 : q ≠ 8) (hk : k < 16) (kk : G K p l e R s m args below meth c Q nL (bw K b (upd z (10 * k + q) v) V) sz cells slots (pc + 3) lv st) : G K p l e R s m args below meth c Q nL (bw K b z V) sz cells slots pc lv (.int v :: .ref (b + 2 + k) :: st) := by
  have e := slist_up z k v q hq h8
  have e2 := bwS (K := K) (b := b) (V := V) (n := 10 * k + q) (v := v) (z := z) hk ⟨by omega, by omega⟩ e
  rcases (show q = 0 ∨ q = 1 ∨ q = 2 ∨ q = 3 ∨ q = 4 ∨ q = 5 ∨ q = 6 ∨ q = 7 ∨ q = 9 by omega) with rfl | rfl | rfl | rfl | rfl | rfl | rfl | rfl | rfl
  · exact G.put cx 0 tyX6 tyX6_ok nmX6 hd hw inlX6 rfl (by decide) rfl rfl rfl rfl (bw_s hk) (by simp [slist]) rfl (G.cast e2 kk)
  · exact G.put cx 1 tyX6 tyX6_ok nmX6 hd hw inlX6 rfl (by decide) rfl rfl rfl rfl (bw_s hk) (by simp [slist]) rfl (G.cast e2 kk)
  · exact G.put cx 2 tyX6 tyX6_ok nmX6 hd hw inlX6 rfl (by decide) rfl rfl rfl rfl (bw_s hk) (by simp [slist]) rfl (G.cast e2 kk)
  · exact G.put cx 3 tyX6 tyX6_ok nmX6 hd hw inlX6 rfl (by decide) rfl rfl rfl rfl (bw_s hk) (by simp [slist]) rfl (G.cast e2 kk)
  · exact G.put cx 4 tyX6 tyX6_ok nmX6 hd hw inlX6 rfl (by decide) rfl rfl rfl rfl (bw_s hk) (by simp [slist]) rfl (G.cast e2 kk)
  · exact G.put cx 5 tyX6 tyX6_ok nmX6 hd hw inlX6 rfl (by decide) rfl rfl rfl rfl (bw_s hk) (by simp [slist]) rfl (G.cast e2 kk)
  · exact G.put cx 6 tyX6 tyX6_ok nmX6 hd hw inlX6 rfl (by decide) rfl rfl rfl rfl (bw_s hk) (by simp [slist]) rfl (G.cast e2 kk)
  · exact G.put cx 7 tyX6 tyX6_ok nmX6 hd hw inlX6 rfl (by decide) rfl rfl rfl rfl (bw_s hk) (by simp [slist]) rfl (G.cast e2 kk)
  · exact G.put cx 9 tyX6 tyX6_ok nmX6 hd hw inlX6 rfl (by decide) rfl rfl rfl rfl (bw_s hk) (by simp [slist]) rfl (G.cast e2 kk)
theorem G.putS8 (cx : Cx K p s m args meth c own cc nL ret) {index : Nat} (hd : decode cc pc = .ok (.putfield index, 3)) {v : Int32} (hw : Cond.fieldLink own index (TX6 8).1 (TX6 8).2.1 (TX6 8).2.2.1 ∈ wsL_law) (hk : k < 16) (kk : G K p l e R s m args below meth c Q nL (bw K b (upd z (10 * k + 8) (-v)) V) sz cells slots (pc + 3) lv st) : G K p l e R s m args below meth c Q nL (bw K b z V) sz cells slots pc lv (.int v :: .ref (b + 2 + k) :: st) :=
  G.put cx 8 tyX6 tyX6_ok nmX6 hd hw inlX6 rfl (by decide) rfl rfl rfl rfl (bw_s hk) (by simp [slist]) rfl (G.cast (bwS hk ⟨by omega, by omega⟩ (slist_up8 z k v)) kk)
theorem G.putI (cx : Cx K p s m args meth c own cc nL ret) {index : Nat} (hd : decode cc pc = .ok (.putfield index, 3)) (q : Nat) {v : Int32} (hw : Cond.fieldLink own index (TX3 q).1 (TX3 q).2.1 (TX3 q).2.2.1 ∈ wsL_law) (hq : q < 5) (hk : k < 6) (kk : G K p l e R s m args below meth c Q nL (bw K b (upd z (160 + 5 * k + q) v) V) sz cells slots (pc + 3) lv st) : G K p l e R s m args below meth c Q nL (bw K b z V) sz cells slots pc lv (.int v :: .ref (b + 19 + k) :: st) := by
  have e := ilist_up z k v q hq
  have e2 := bwI (K := K) (b := b) (V := V) (n := 160 + 5 * k + q) (v := v) (z := z) hk ⟨by omega, by omega⟩ e
  rcases (show q = 0 ∨ q = 1 ∨ q = 2 ∨ q = 3 ∨ q = 4 by omega) with rfl | rfl | rfl | rfl | rfl
  · exact G.put cx 0 tyX3 tyX3_ok nmX3 hd hw inlX3 rfl (by decide) rfl rfl rfl rfl (bw_i hk) (by simp [ilist]) rfl (G.cast e2 kk)
  · exact G.put cx 1 tyX3 tyX3_ok nmX3 hd hw inlX3 rfl (by decide) rfl rfl rfl rfl (bw_i hk) (by simp [ilist]) rfl (G.cast e2 kk)
  · exact G.put cx 2 tyX3 tyX3_ok nmX3 hd hw inlX3 rfl (by decide) rfl rfl rfl rfl (bw_i hk) (by simp [ilist]) rfl (G.cast e2 kk)
  · exact G.put cx 3 tyX3 tyX3_ok nmX3 hd hw inlX3 rfl (by decide) rfl rfl rfl rfl (bw_i hk) (by simp [ilist]) rfl (G.cast e2 kk)
  · exact G.put cx 4 tyX3 tyX3_ok nmX3 hd hw inlX3 rfl (by decide) rfl rfl rfl rfl (bw_i hk) (by simp [ilist]) rfl (G.cast e2 kk)
theorem G.putT (cx : Cx K p s m args meth c own cc nL ret) {index : Nat} (hd : decode cc pc = .ok (.putfield index, 3)) (q : Nat) {v : Int32} (hw : Cond.fieldLink own index (TX8 q).1 (TX8 q).2.1 (TX8 q).2.2.1 ∈ wsL_law) (hq : q < 8) (kk : G K p l e R s m args below meth c Q nL (bw K b (upd z (195 + q) v) V) sz cells slots (pc + 3) lv st) : G K p l e R s m args below meth c Q nL (bw K b z V) sz cells slots pc lv (.int v :: .ref (b + 30) :: st) := by
  have e := tlist_up z v q hq
  have e2 := bwT (K := K) (b := b) (V := V) (n := 195 + q) (v := v) (z := z) ⟨by omega, by omega⟩ e
  rcases (show q = 0 ∨ q = 1 ∨ q = 2 ∨ q = 3 ∨ q = 4 ∨ q = 5 ∨ q = 6 ∨ q = 7 by omega) with rfl | rfl | rfl | rfl | rfl | rfl | rfl | rfl
  · exact G.put cx 0 tyX8 tyX8_ok nmX8 hd hw inlX8 rfl (by decide) rfl rfl rfl rfl bw_t (by simp [tlist]) rfl (G.cast e2 kk)
  · exact G.put cx 1 tyX8 tyX8_ok nmX8 hd hw inlX8 rfl (by decide) rfl rfl rfl rfl bw_t (by simp [tlist]) rfl (G.cast e2 kk)
  · exact G.put cx 2 tyX8 tyX8_ok nmX8 hd hw inlX8 rfl (by decide) rfl rfl rfl rfl bw_t (by simp [tlist]) rfl (G.cast e2 kk)
  · exact G.put cx 3 tyX8 tyX8_ok nmX8 hd hw inlX8 rfl (by decide) rfl rfl rfl rfl bw_t (by simp [tlist]) rfl (G.cast e2 kk)
  · exact G.put cx 4 tyX8 tyX8_ok nmX8 hd hw inlX8 rfl (by decide) rfl rfl rfl rfl bw_t (by simp [tlist]) rfl (G.cast e2 kk)
  · exact G.put cx 5 tyX8 tyX8_ok nmX8 hd hw inlX8 rfl (by decide) rfl rfl rfl rfl bw_t (by simp [tlist]) rfl (G.cast e2 kk)
  · exact G.put cx 6 tyX8 tyX8_ok nmX8 hd hw inlX8 rfl (by decide) rfl rfl rfl rfl bw_t (by simp [tlist]) rfl (G.cast e2 kk)
  · exact G.put cx 7 tyX8 tyX8_ok nmX8 hd hw inlX8 rfl (by decide) rfl rfl rfl rfl bw_t (by simp [tlist]) rfl (G.cast e2 kk)
theorem G.putB5 (cx : Cx K p s m args meth c own cc nL ret) {index : Nat} (hd : decode cc pc = .ok (.putfield index, 3)) {v : Int32} (hw : Cond.fieldLink own index (TX0 5).1 (TX0 5).2.1 (TX0 5).2.2.1 ∈ wsL_law) (kk : G K p l e R s m args below meth c Q nL (bw K b (upd z 194 v) V) sz cells slots (pc + 3) lv st) : G K p l e R s m args below meth c Q nL (bw K b z V) sz cells slots pc lv (.int v :: .ref b :: st) :=
  G.put cx 5 tyX0 tyX0_ok nmX0 hd hw inlX0 rfl (by decide) rfl rfl rfl rfl bw_b (by simp [blist]) rfl (G.cast (bwB (n := 194) (v := v) ⟨by omega, by omega⟩ (by simp [blist, upd])) kk)
theorem G.putB6 (cx : Cx K p s m args meth c own cc nL ret) {index : Nat} (hd : decode cc pc = .ok (.putfield index, 3)) {v : Int32} (hw : Cond.fieldLink own index (TX0 6).1 (TX0 6).2.1 (TX0 6).2.2.1 ∈ wsL_law) (kk : G K p l e R s m args below meth c Q nL (bw K b (upd z 190 v) V) sz cells slots (pc + 3) lv st) : G K p l e R s m args below meth c Q nL (bw K b z V) sz cells slots pc lv (.int v :: .ref b :: st) :=
  G.put cx 6 tyX0 tyX0_ok nmX0 hd hw inlX0 rfl (by decide) rfl rfl rfl rfl bw_b (by simp [blist]) rfl (G.cast (bwB (n := 190) (v := v) ⟨by omega, by omega⟩ (by simp [blist, upd])) kk)
theorem G.putB7 (cx : Cx K p s m args meth c own cc nL ret) {index : Nat} (hd : decode cc pc = .ok (.putfield index, 3)) {v : Int32} (hw : Cond.fieldLink own index (TX0 7).1 (TX0 7).2.1 (TX0 7).2.2.1 ∈ wsL_law) (kk : G K p l e R s m args below meth c Q nL (bw K b (upd z 192 v) V) sz cells slots (pc + 3) lv st) : G K p l e R s m args below meth c Q nL (bw K b z V) sz cells slots pc lv (.int v :: .ref b :: st) :=
  G.put cx 7 tyX0 tyX0_ok nmX0 hd hw inlX0 rfl (by decide) rfl rfl rfl rfl bw_b (by simp [blist]) rfl (G.cast (bwB (n := 192) (v := v) ⟨by omega, by omega⟩ (by simp [blist, upd])) kk)
theorem G.putB8 (cx : Cx K p s m args meth c own cc nL ret) {index : Nat} (hd : decode cc pc = .ok (.putfield index, 3)) {v : Int32} (hw : Cond.fieldLink own index (TX0 8).1 (TX0 8).2.1 (TX0 8).2.2.1 ∈ wsL_law) (kk : G K p l e R s m args below meth c Q nL (bw K b (upd z 193 v) V) sz cells slots (pc + 3) lv st) : G K p l e R s m args below meth c Q nL (bw K b z V) sz cells slots pc lv (.int v :: .ref b :: st) :=
  G.put cx 8 tyX0 tyX0_ok nmX0 hd hw inlX0 rfl (by decide) rfl rfl rfl rfl bw_b (by simp [blist]) rfl (G.cast (bwB (n := 193) (v := v) ⟨by omega, by omega⟩ (by simp [blist, upd])) kk)
theorem G.putBz (cx : Cx K p s m args meth c own cc nL ret) {index : Nat} (hd : decode cc pc = .ok (.putfield index, 3)) {v : Int32} (hw : Cond.fieldLink own index (TX0 9).1 (TX0 9).2.1 (TX0 9).2.2.1 ∈ wsL_law) (hfit : fits .boolean (.int v) = true) (hn : narrow .boolean (.int v) = .int v) (kk : G K p l e R s m args below meth c Q nL (bw K b (upd z 191 v) V) sz cells slots (pc + 3) lv st) : G K p l e R s m args below meth c Q nL (bw K b z V) sz cells slots pc lv (.int v :: .ref b :: st) :=
  G.put cx 9 tyX0 tyX0_ok nmX0 hd hw inlX0 rfl (by decide) rfl rfl hn hfit bw_b (by simp [blist]) rfl (G.cast (bwB (n := 191) (v := v) ⟨by omega, by omega⟩ (by simp [blist, upd])) kk)
theorem G.putE (cx : Cx K p s m args meth c own cc nL ret) {index : Nat} (hd : decode cc pc = .ok (.putfield index, 3)) {v : Int32} (hw : Cond.fieldLink own index (TX1 3).1 (TX1 3).2.1 (TX1 3).2.2.1 ∈ wsL_law) (kk : G K p l e R s m args below meth c Q nL (bw K b (upd z 206 v) V) sz cells slots (pc + 3) lv st) : G K p l e R s m args below meth c Q nL (bw K b z V) sz cells slots pc lv (.int v :: .ref (b + 26) :: st) :=
  G.put cx 3 tyX1 tyX1_ok nmX1 hd hw inlX1 rfl (by decide) rfl rfl rfl rfl bw_e (by simp [elist]) rfl (G.cast (bwE (v := v) (by simp [elist, upd])) kk)
theorem mlist_up (g : Zt) (v : Int32) : ∀ q j, (q = 3 ∧ j = 0) ∨ (q = 5 ∧ j = 1) ∨ (q = 6 ∧ j = 2) ∨ (q = 8 ∧ j = 3) ∨ (q = 9 ∧ j = 4) ∨ (q = 10 ∧ j = 5) ∨ (q = 11 ∧ j = 6) ∨ (q = 12 ∧ j = 7) → (mlist mc g).set q (.int v) = mlist mc (upd g j v) := by
  intro q j h
  rcases h with ⟨rfl, rfl⟩ | ⟨rfl, rfl⟩ | ⟨rfl, rfl⟩ | ⟨rfl, rfl⟩ | ⟨rfl, rfl⟩ | ⟨rfl, rfl⟩ | ⟨rfl, rfl⟩ | ⟨rfl, rfl⟩ <;> simp [mlist, upd]
theorem G.putM (cx : Cx K p s m args meth c own cc nL ret) {index : Nat} (hd : decode cc pc = .ok (.putfield index, 3)) (q j : Nat) {v : Int32} (hw : Cond.fieldLink own index (TX10 q).1 (TX10 q).2.1 (TX10 q).2.2.1 ∈ wsL_law) (hj : (q = 3 ∧ j = 0) ∨ (q = 5 ∧ j = 1) ∨ (q = 6 ∧ j = 2) ∨ (q = 8 ∧ j = 3) ∨ (q = 9 ∧ j = 4) ∨ (q = 10 ∧ j = 5) ∨ (q = 11 ∧ j = 6) ∨ (q = 12 ∧ j = 7)) (_h : True = True) (kk : G K p l e R s m args below meth c Q nL (mw K mc z (r.1, r.2.1, r.2.2.1, r.2.2.2.1, upd r.2.2.2.2 j v) V) sz cells slots (pc + 3) lv st) : G K p l e R s m args below meth c Q nL (mw K mc z r V) sz cells slots pc lv (.int v :: .ref mc :: st) := by
  have e := mlist_up (mc := mc) r.2.2.2.2 v q j hj
  have e2 := mwG (K := K) (c := mc) (z := z) (r := r) (V := V) e
  rcases hj with ⟨rfl, rfl⟩ | ⟨rfl, rfl⟩ | ⟨rfl, rfl⟩ | ⟨rfl, rfl⟩ | ⟨rfl, rfl⟩ | ⟨rfl, rfl⟩ | ⟨rfl, rfl⟩ | ⟨rfl, rfl⟩
  · exact G.put cx 3 tyX10 tyX10_ok nmX10 hd hw inlX10 rfl (by decide) rfl rfl rfl rfl mw_m (by simp [mlist]) rfl (G.cast e2 kk)
  · exact G.put cx 5 tyX10 tyX10_ok nmX10 hd hw inlX10 rfl (by decide) rfl rfl rfl rfl mw_m (by simp [mlist]) rfl (G.cast e2 kk)
  · exact G.put cx 6 tyX10 tyX10_ok nmX10 hd hw inlX10 rfl (by decide) rfl rfl rfl rfl mw_m (by simp [mlist]) rfl (G.cast e2 kk)
  · exact G.put cx 8 tyX10 tyX10_ok nmX10 hd hw inlX10 rfl (by decide) rfl rfl rfl rfl mw_m (by simp [mlist]) rfl (G.cast e2 kk)
  · exact G.put cx 9 tyX10 tyX10_ok nmX10 hd hw inlX10 rfl (by decide) rfl rfl rfl rfl mw_m (by simp [mlist]) rfl (G.cast e2 kk)
  · exact G.put cx 10 tyX10 tyX10_ok nmX10 hd hw inlX10 rfl (by decide) rfl rfl rfl rfl mw_m (by simp [mlist]) rfl (G.cast e2 kk)
  · exact G.put cx 11 tyX10 tyX10_ok nmX10 hd hw inlX10 rfl (by decide) rfl rfl rfl rfl mw_m (by simp [mlist]) rfl (G.cast e2 kk)
  · exact G.put cx 12 tyX10 tyX10_ok nmX10 hd hw inlX10 rfl (by decide) rfl rfl rfl rfl mw_m (by simp [mlist]) rfl (G.cast e2 kk)
theorem G.iaddN (cx : Cx K p s m args meth c own cc nL ret) (hd : decode cc pc = .ok (.iadd, 1)) (x y : Nat) (kk : G K p l e R s m args below meth c Q nL V sz cells slots (pc + 1) lv (.int (nI (x + y)) :: st)) : G K p l e R s m args below meth c Q nL V sz cells slots pc lv (.int (nI y) :: .int (nI x) :: st) := G.iadd cx hd (by rw [nI_add]; exact kk)
theorem G.imulN (cx : Cx K p s m args meth c own cc nL ret) (hd : decode cc pc = .ok (.imul, 1)) (x y : Nat) (kk : G K p l e R s m args below meth c Q nL V sz cells slots (pc + 1) lv (.int (nI (x * y)) :: st)) : G K p l e R s m args below meth c Q nL V sz cells slots pc lv (.int (nI y) :: .int (nI x) :: st) := G.imul cx hd (by rw [pk_mul]; exact kk)
theorem G.isubN (cx : Cx K p s m args meth c own cc nL ret) (hd : decode cc pc = .ok (.isub, 1)) (x y : Nat) (hxy : y ≤ x) (kk : G K p l e R s m args below meth c Q nL V sz cells slots (pc + 1) lv (.int (nI (x - y)) :: st)) : G K p l e R s m args below meth c Q nL V sz cells slots pc lv (.int (nI y) :: .int (nI x) :: st) := G.isub cx hd (by rw [pk_sub hxy]; exact kk)
theorem nI_dec {a b : Nat} (h : a = b + 1) : nI a + Int32.ofInt (-1) = nI b := by subst h; rw [show Int32.ofInt (-1) = -1 from by decide]; exact pk_m1 b
theorem b2_fit {P : Prop} [Decidable P] : fits .boolean (.int (b2 P)) = true := by unfold b2; by_cases h : P <;> simp [h] <;> decide
theorem G.if_eqB (cx : Cx K p s m args meth c own cc nL ret) {P : Prop} [Decidable P] {off : Int} {tgt : Nat} (hd : decode cc pc = .ok (.ifCond .eq off, 3)) (ht : (pc : Int) + off = (tgt : Int)) (kt : ¬ P → G K p l e R s m args below meth c Q nL V sz cells slots tgt lv st) (kf : P → G K p l e R s m args below meth c Q nL V sz cells slots (pc + 3) lv st) : G K p l e R s m args below meth c Q nL V sz cells slots pc lv (.int (b2 P) :: st) := G.if_eq cx hd ht (fun h => kt (b2_eq0.mp h)) (fun h => kf (b2_ne0.mp h))
theorem G.if_neB (cx : Cx K p s m args meth c own cc nL ret) {P : Prop} [Decidable P] {off : Int} {tgt : Nat} (hd : decode cc pc = .ok (.ifCond .ne off, 3)) (ht : (pc : Int) + off = (tgt : Int)) (kt : P → G K p l e R s m args below meth c Q nL V sz cells slots tgt lv st) (kf : ¬ P → G K p l e R s m args below meth c Q nL V sz cells slots (pc + 3) lv st) : G K p l e R s m args below meth c Q nL V sz cells slots pc lv (.int (b2 P) :: st) := G.if_ne cx hd ht (fun h => kt (b2_ne0.mp h)) (fun h => kf (b2_eq0.mp h))
theorem G.iastV (cx : Cx K p s m args meth c own cc nL ret) {a n : Nat} {f : Nat → Int32} {i x : Int32} {V2 : VW} (hd : decode cc pc = .ok (.iastore, 1)) (hV : V a = some (.inl (K.2.1 0, n, .inl f))) {j : Nat} (hi : i = nI j) (hj : j < n) (hn : n < 2 ^ 31) (he9 : vset V a (.inl (K.2.1 0, n, .inl (upd f j x))) = V2) (kk : G K p l e R s m args below meth c Q nL V2 sz cells slots (pc + 1) lv st) : G K p l e R s m args below meth c Q nL V sz cells slots pc lv (.int x :: .int i :: .ref a :: st) := G.iast cx hd hV hi hj hn (G.cast he9 kk)
theorem G.aaldV (cx : Cx K p s m args meth c own cc nL ret) {C : String} {a n j : Nat} {f : Nat → Option Nat} {i : Int32} (hd : decode cc pc = .ok (.aaload, 1)) (t : Nat) (ht : (tysK K)[t]? = some (K.2.1 t, .object C)) (hV : V a = some (.inl (K.2.1 t, n, .inr (.inr (.inr (.inr f)))))) (hi : i = nI j) (hj : j < n) (hn : n < 2 ^ 31) {x : Nat} (hx : f j = some x := by rfl) (kk : G K p l e R s m args below meth c Q nL V sz cells slots (pc + 1) lv (.ref x :: st)) : G K p l e R s m args below meth c Q nL V sz cells slots pc lv (.int i :: .ref a :: st) := G.aald cx t ht hd hV hi hj hn (by rw [hx]; exact kk)
theorem G.alenV (cx : Cx K p s m args meth c own cc nL ret) {ty : FieldType} {a : Nat} {x : vp_A} {v : Int32} (hd : decode cc pc = .ok (.arraylength, 1)) (t : Nat) (ht : (tysK K)[t]? = some (K.2.1 t, ty)) (hV : V a = some (.inl (K.2.1 t, x))) (hv9 : Int32.ofNat x.1 = v) (kk : G K p l e R s m args below meth c Q nL V sz cells slots (pc + 1) lv (.int v :: st)) : G K p l e R s m args below meth c Q nL V sz cells slots pc lv (.ref a :: st) := G.alen cx t ht hd hV hv9 kk
theorem G.ialdV (cx : Cx K p s m args meth c own cc nL ret) {a n j : Nat} {f : Nat → Int32} {i v : Int32} (hd : decode cc pc = .ok (.iaload, 1)) (hV : V a = some (.inl (K.2.1 0, n, .inl f))) (hi : i = nI j) (hj : j < n) (hn : n < 2 ^ 31) (hf : f j = v) (kk : G K p l e R s m args below meth c Q nL V sz cells slots (pc + 1) lv (.int v :: st)) : G K p l e R s m args below meth c Q nL V sz cells slots pc lv (.int i :: .ref a :: st) := G.iald cx hd hV hi hj hn (by rw [hf]; exact kk)
theorem G.iastC (cx : Cx K p s m args meth c own cc nL ret) {a n j : Nat} {f : Zt} {i x : Int32} {V2 : VW} (hd : decode cc pc = .ok (.iastore, 1)) (hV : V a = some (.inl (K.2.1 0, n, .inl (cutF n f)))) (hi : i = nI j) (hj : j < n) (hn : n < 2 ^ 31) (he9 : vset V a (.inl (K.2.1 0, n, .inl (cutF n (upd f j x)))) = V2) (kk : G K p l e R s m args below meth c Q nL V2 sz cells slots (pc + 1) lv st) : G K p l e R s m args below meth c Q nL V sz cells slots pc lv (.int x :: .int i :: .ref a :: st) := G.iast cx hd hV hi hj hn (by rw [cut_up hj, he9]; exact kk)
theorem G.icmp_ltN (cx : Cx K p s m args meth c own cc nL ret) (x y : Nat) (hx : x < 2 ^ 31) (hy : y < 2 ^ 31) {off : Int} {tgt : Nat} (hd : decode cc pc = .ok (.if_icmp .lt off, 3)) (ht : (pc : Int) + off = (tgt : Int)) (kt : x < y → G K p l e R s m args below meth c Q nL V sz cells slots tgt lv st) (kf : y ≤ x → G K p l e R s m args below meth c Q nL V sz cells slots (pc + 3) lv st) : G K p l e R s m args below meth c Q nL V sz cells slots pc lv (.int (nI y) :: .int (nI x) :: st) := G.icmp_lt cx hd ht (fun h => kt ((nI_ltI hx hy).mp h)) (fun h => kf (Nat.not_lt.mp (mt (nI_ltI hx hy).mpr h)))
theorem G.icmp_geN (cx : Cx K p s m args meth c own cc nL ret) (x y : Nat) (hx : x < 2 ^ 31) (hy : y < 2 ^ 31) {off : Int} {tgt : Nat} (hd : decode cc pc = .ok (.if_icmp .ge off, 3)) (ht : (pc : Int) + off = (tgt : Int)) (kt : y ≤ x → G K p l e R s m args below meth c Q nL V sz cells slots tgt lv st) (kf : x < y → G K p l e R s m args below meth c Q nL V sz cells slots (pc + 3) lv st) : G K p l e R s m args below meth c Q nL V sz cells slots pc lv (.int (nI y) :: .int (nI x) :: st) := G.icmp_ge cx hd ht (fun h => kt ((nI_leI hy hx).mp h)) (fun h => kf (Nat.not_le.mp (mt (nI_leI hy hx).mpr h)))
theorem G.icmp_gtN (cx : Cx K p s m args meth c own cc nL ret) (x y : Nat) (hx : x < 2 ^ 31) (hy : y < 2 ^ 31) {off : Int} {tgt : Nat} (hd : decode cc pc = .ok (.if_icmp .gt off, 3)) (ht : (pc : Int) + off = (tgt : Int)) (kt : y < x → G K p l e R s m args below meth c Q nL V sz cells slots tgt lv st) (kf : x ≤ y → G K p l e R s m args below meth c Q nL V sz cells slots (pc + 3) lv st) : G K p l e R s m args below meth c Q nL V sz cells slots pc lv (.int (nI y) :: .int (nI x) :: st) := G.icmp_gt cx hd ht (fun h => kt ((nI_ltI hy hx).mp h)) (fun h => kf (Nat.not_lt.mp (mt (nI_ltI hy hx).mpr h)))
theorem G.icmp_leN (cx : Cx K p s m args meth c own cc nL ret) (x y : Nat) (hx : x < 2 ^ 31) (hy : y < 2 ^ 31) {off : Int} {tgt : Nat} (hd : decode cc pc = .ok (.if_icmp .le off, 3)) (ht : (pc : Int) + off = (tgt : Int)) (kt : x ≤ y → G K p l e R s m args below meth c Q nL V sz cells slots tgt lv st) (kf : y < x → G K p l e R s m args below meth c Q nL V sz cells slots (pc + 3) lv st) : G K p l e R s m args below meth c Q nL V sz cells slots pc lv (.int (nI y) :: .int (nI x) :: st) := G.icmp_le cx hd ht (fun h => kt ((nI_leI hx hy).mp h)) (fun h => kf (Nat.not_le.mp (mt (nI_leI hx hy).mpr h)))
theorem G.icmp_eqN (cx : Cx K p s m args meth c own cc nL ret) (x y : Nat) (hx : x < 2 ^ 31) (hy : y < 2 ^ 31) {off : Int} {tgt : Nat} (hd : decode cc pc = .ok (.if_icmp .eq off, 3)) (ht : (pc : Int) + off = (tgt : Int)) (kt : x = y → G K p l e R s m args below meth c Q nL V sz cells slots tgt lv st) (kf : ¬ x = y → G K p l e R s m args below meth c Q nL V sz cells slots (pc + 3) lv st) : G K p l e R s m args below meth c Q nL V sz cells slots pc lv (.int (nI y) :: .int (nI x) :: st) := G.icmp_eq cx hd ht (fun h => kt ((nI_eq hx hy).mp h)) (fun h => kf (mt (nI_eq hx hy).mpr h))
theorem G.icmp_neN (cx : Cx K p s m args meth c own cc nL ret) (x y : Nat) (hx : x < 2 ^ 31) (hy : y < 2 ^ 31) {off : Int} {tgt : Nat} (hd : decode cc pc = .ok (.if_icmp .ne off, 3)) (ht : (pc : Int) + off = (tgt : Int)) (kt : ¬ x = y → G K p l e R s m args below meth c Q nL V sz cells slots tgt lv st) (kf : x = y → G K p l e R s m args below meth c Q nL V sz cells slots (pc + 3) lv st) : G K p l e R s m args below meth c Q nL V sz cells slots pc lv (.int (nI y) :: .int (nI x) :: st) := G.icmp_ne cx hd ht (fun h => kt (mt (nI_eq hx hy).mpr h)) (fun h => kf ((nI_eq hx hy).mp h))
theorem G.if_eqN (cx : Cx K p s m args meth c own cc nL ret) (x : Nat) (hx : x < 2 ^ 31) {off : Int} {tgt : Nat} (hd : decode cc pc = .ok (.ifCond .eq off, 3)) (ht : (pc : Int) + off = (tgt : Int)) (kt : x = 0 → G K p l e R s m args below meth c Q nL V sz cells slots tgt lv st) (kf : ¬ x = 0 → G K p l e R s m args below meth c Q nL V sz cells slots (pc + 3) lv st) : G K p l e R s m args below meth c Q nL V sz cells slots pc lv (.int (nI x) :: st) := G.if_eq cx hd ht (fun h => kt ((nI_eq hx (by decide : (0 : Nat) < 2 ^ 31)).mp h)) (fun h => kf (mt (nI_eq hx (by decide : (0 : Nat) < 2 ^ 31)).mpr h))
theorem G.if_neN (cx : Cx K p s m args meth c own cc nL ret) (x : Nat) (hx : x < 2 ^ 31) {off : Int} {tgt : Nat} (hd : decode cc pc = .ok (.ifCond .ne off, 3)) (ht : (pc : Int) + off = (tgt : Int)) (kt : ¬ x = 0 → G K p l e R s m args below meth c Q nL V sz cells slots tgt lv st) (kf : x = 0 → G K p l e R s m args below meth c Q nL V sz cells slots (pc + 3) lv st) : G K p l e R s m args below meth c Q nL V sz cells slots pc lv (.int (nI x) :: st) := G.if_ne cx hd ht (fun h => kt (mt (nI_eq hx (by decide : (0 : Nat) < 2 ^ 31)).mpr h)) (fun h => kf ((nI_eq hx (by decide : (0 : Nat) < 2 ^ 31)).mp h))
theorem G.if_leN (cx : Cx K p s m args meth c own cc nL ret) (x : Nat) (hx : x < 2 ^ 31) {off : Int} {tgt : Nat} (hd : decode cc pc = .ok (.ifCond .le off, 3)) (ht : (pc : Int) + off = (tgt : Int)) (kt : x = 0 → G K p l e R s m args below meth c Q nL V sz cells slots tgt lv st) (kf : 0 < x → G K p l e R s m args below meth c Q nL V sz cells slots (pc + 3) lv st) : G K p l e R s m args below meth c Q nL V sz cells slots pc lv (.int (nI x) :: st) := G.if_le cx hd ht (fun h => kt (Nat.le_zero.mp ((nI_leI hx (by decide : (0 : Nat) < 2 ^ 31)).mp h))) (fun h => kf (Nat.not_le.mp (mt (nI_leI hx (by decide : (0 : Nat) < 2 ^ 31)).mpr h)))
theorem G.if_gtN (cx : Cx K p s m args meth c own cc nL ret) (x : Nat) (hx : x < 2 ^ 31) {off : Int} {tgt : Nat} (hd : decode cc pc = .ok (.ifCond .gt off, 3)) (ht : (pc : Int) + off = (tgt : Int)) (kt : 0 < x → G K p l e R s m args below meth c Q nL V sz cells slots tgt lv st) (kf : x = 0 → G K p l e R s m args below meth c Q nL V sz cells slots (pc + 3) lv st) : G K p l e R s m args below meth c Q nL V sz cells slots pc lv (.int (nI x) :: st) := G.if_gt cx hd ht (fun h => kt ((nI_ltI (by decide : (0 : Nat) < 2 ^ 31) hx).mp h)) (fun h => kf (Nat.le_zero.mp (Nat.not_lt.mp (mt (nI_ltI (by decide : (0 : Nat) < 2 ^ 31) hx).mpr h))))
theorem G.if_ltN (cx : Cx K p s m args meth c own cc nL ret) (x : Nat) (hx : x < 2 ^ 31) {off : Int} {tgt : Nat} (hd : decode cc pc = .ok (.ifCond .lt off, 3)) (ht : (pc : Int) + off = (tgt : Int)) (kf : G K p l e R s m args below meth c Q nL V sz cells slots (pc + 3) lv st) : G K p l e R s m args below meth c Q nL V sz cells slots pc lv (.int (nI x) :: st) := G.if_lt cx hd ht (fun h => absurd h (nI_pos hx)) (fun _ => kf)
theorem G.if_geN (cx : Cx K p s m args meth c own cc nL ret) (x : Nat) (hx : x < 2 ^ 31) {off : Int} {tgt : Nat} (hd : decode cc pc = .ok (.ifCond .ge off, 3)) (ht : (pc : Int) + off = (tgt : Int)) (kt : G K p l e R s m args below meth c Q nL V sz cells slots tgt lv st) : G K p l e R s m args below meth c Q nL V sz cells slots pc lv (.int (nI x) :: st) := G.if_ge cx hd ht (fun _ => kt) (fun h => absurd (nI_pos' hx) h)
theorem G.callV0 {y : MethodName} {cc2 : ByteArray} {maxL d index : Nat} {ret2 : Option FieldType} {As rest st0 st1 : List Value} {rv : Option Value} {V2 : VW} {bb : Nat} (cx : Cx K p s m args meth c own cc nL ret) {T : u_T} {N ci : Nat} {fs : List Value} (hM : Ct l K y cc2 maxL ret2 d (.ref bb :: As) V sz rv V2 sz 0 0) (ok : okV y cc2 maxL ret2 As.length) (hd : decode cc pc = .ok (.invokevirtual index, 3)) (hw : Cond.methodLink own index y ∈ wsL_law) (hc : vwCl[ci]? = some (y.cls, T, N)) (hV : V bb = some (.inr (ci, fs))) (hst : st0 = As.reverse ++ .ref bb :: rest) (h_ : True = True) (hrest : (rest.map fun v => v.category).sum ≤ 8) (hR : d + 1 ≤ R.frames ∧ 8 + (maxL + 11) + 30 * d ≤ R.locals) (hs : rv.toList ++ rest = st1) (kk : G K p l e R s m args below meth c Q nL V2 sz 0 0 (pc + 3) lv st1) : G K p l e R s m args below meth c Q nL V sz 0 0 pc lv st0 := by
  subst hs
  exact G.callV cx hM ok hd hw hc rfl hV hst hrest (Nat.le_refl _) hR ⟨Nat.zero_le _, Nat.zero_le _⟩ kk
theorem G.callS0 {y : MethodName} {cc2 : ByteArray} {maxL d index : Nat} {ret2 : Option FieldType} {As rest st0 st1 : List Value} {rv : Option Value} {V2 : VW} (cx : Cx K p s m args meth c own cc nL ret) (hM : Ct l K y cc2 maxL ret2 d As V sz rv V2 sz 0 0) (ok : okS y cc2 maxL ret2 As.length) (hd : decode cc pc = .ok (.invokestatic index, 3)) (hw : Cond.methodLink own index y ∈ wsL_law) (hst : st0 = As.reverse ++ rest) (hCy : y.cls = own) (hrest : (rest.map fun v => v.category).sum ≤ 8) (hR : d + 1 ≤ R.frames ∧ 8 + (maxL + 11) + 30 * d ≤ R.locals) (hs : rv.toList ++ rest = st1) (kk : G K p l e R s m args below meth c Q nL V2 sz 0 0 (pc + 3) lv st1) : G K p l e R s m args below meth c Q nL V sz 0 0 pc lv st0 := by
  subst hs
  exact G.callS cx hM ok hd hw hCy hst hrest (Nat.le_refl _) hR ⟨Nat.zero_le _, Nat.zero_le _⟩ kk
theorem G.callSN0 {y : MethodName} {cc2 : ByteArray} {maxL d index : Nat} {ret2 : Option FieldType} {As rest st0 st1 : List Value} {rv : Option Value} {V2 : VW} (cx : Cx K p s m args meth c own cc nL ret) (hM : Ct l K y cc2 maxL ret2 d As V sz rv V2 sz 0 0) (ok : okS y cc2 maxL ret2 As.length) (hd : decode cc pc = .ok (.invokestatic index, 3)) (hw : (own, index, y) ∈ nestM) (hst : st0 = As.reverse ++ rest) (hrest : (rest.map fun v => v.category).sum ≤ 8) (hR : d + 1 ≤ R.frames ∧ 8 + (maxL + 11) + 30 * d ≤ R.locals) (hs : rv.toList ++ rest = st1) (kk : G K p l e R s m args below meth c Q nL V2 sz 0 0 (pc + 3) lv st1) : G K p l e R s m args below meth c Q nL V sz 0 0 pc lv st0 := by
  subst hs
  exact G.callSN cx hM ok hd hw hst hrest (Nat.le_refl _) hR ⟨Nat.zero_le _, Nat.zero_le _⟩ kk
end Rows2
theorem ok_X0_advanceTo : okV yX0_advanceTo cX0_advanceTo 4 (some .int) 2 := ⟨⟨wm_im_X0_advanceTo, wm_se_X0_advanceTo⟩, ⟨wm_in_X0, wm_co_X0_advanceTo, by decide, by decide, by decide +kernel⟩⟩
theorem ok_X0_buyForChest : okV yX0_buyForChest cX0_buyForChest 5 (some .int) 3 := ⟨⟨wm_im_X0_buyForChest, wm_se_X0_buyForChest⟩, ⟨wm_in_X0, wm_co_X0_buyForChest, by decide, by decide, by decide +kernel⟩⟩
theorem ok_X0_changeSetting : okV yX0_changeSetting cX0_changeSetting 4 (some .int) 2 := ⟨⟨wm_im_X0_changeSetting, wm_se_X0_changeSetting⟩, ⟨wm_in_X0, wm_co_X0_changeSetting, by decide, by decide, by decide +kernel⟩⟩
theorem ok_X0_chargeFine : okV yX0_chargeFine cX0_chargeFine 4 none 3 := ⟨⟨wm_im_X0_chargeFine, wm_se_X0_chargeFine⟩, ⟨wm_in_X0, wm_co_X0_chargeFine, by decide, by decide, by decide +kernel⟩⟩
theorem ok_X0_chargedShare : okV yX0_chargedShare cX0_chargedShare 4 (some .int) 0 := ⟨⟨wm_im_X0_chargedShare, wm_se_X0_chargedShare⟩, ⟨wm_in_X0, wm_co_X0_chargedShare, by decide, by decide, by decide +kernel⟩⟩
theorem ok_X0_comeBack : okV yX0_comeBack cX0_comeBack 5 (some .int) 2 := ⟨⟨wm_im_X0_comeBack, wm_se_X0_comeBack⟩, ⟨wm_in_X0, wm_co_X0_comeBack, by decide, by decide, by decide +kernel⟩⟩
theorem ok_X0_comeIntoPort : okV yX0_comeIntoPort cX0_comeIntoPort 1 (some .int) 0 := ⟨⟨wm_im_X0_comeIntoPort, wm_se_X0_comeIntoPort⟩, ⟨wm_in_X0, wm_co_X0_comeIntoPort, by decide, by decide, by decide +kernel⟩⟩
theorem ok_X0_copyFrom : okV yX0_copyFrom cX0_copyFrom 3 none 1 := ⟨⟨wm_im_X0_copyFrom, wm_se_X0_copyFrom⟩, ⟨wm_in_X0, wm_co_X0_copyFrom, by decide, by decide, by decide +kernel⟩⟩
theorem ok_X0_couldAllBeFined : okV yX0_couldAllBeFined cX0_couldAllBeFined 6 (some .boolean) 3 := ⟨⟨wm_im_X0_couldAllBeFined, wm_se_X0_couldAllBeFined⟩, ⟨wm_in_X0, wm_co_X0_couldAllBeFined, by decide, by decide, by decide +kernel⟩⟩
theorem ok_X0_couldBuy : okV yX0_couldBuy cX0_couldBuy 6 (some .int) 2 := ⟨⟨wm_im_X0_couldBuy, wm_se_X0_couldBuy⟩, ⟨wm_in_X0, wm_co_X0_couldBuy, by decide, by decide, by decide +kernel⟩⟩
theorem ok_X0_daysUntilClear : okV yX0_daysUntilClear cX0_daysUntilClear 5 (some .int) 1 := ⟨⟨wm_im_X0_daysUntilClear, wm_se_X0_daysUntilClear⟩, ⟨wm_in_X0, wm_co_X0_daysUntilClear, by decide, by decide, by decide +kernel⟩⟩
theorem ok_X0_debtsTogether : okV yX0_debtsTogether cX0_debtsTogether 3 (some .int) 0 := ⟨⟨wm_im_X0_debtsTogether, wm_se_X0_debtsTogether⟩, ⟨wm_in_X0, wm_co_X0_debtsTogether, by decide, by decide, by decide +kernel⟩⟩
theorem ok_X0_endVoyage : okV yX0_endVoyage cX0_endVoyage 4 (some .int) 0 := ⟨⟨wm_im_X0_endVoyage, wm_se_X0_endVoyage⟩, ⟨wm_in_X0, wm_co_X0_endVoyage, by decide, by decide, by decide +kernel⟩⟩
theorem ok_X0_findItem : okV yX0_findItem cX0_findItem 2 (some (.object "PurserLedgers$Item")) 1 := ⟨⟨wm_im_X0_findItem, wm_se_X0_findItem⟩, ⟨wm_in_X0, wm_co_X0_findItem, by decide, by decide, by decide +kernel⟩⟩
theorem ok_X0_findSailor : okV yX0_findSailor cX0_findSailor 2 (some (.object "PurserLedgers$Sailor")) 1 := ⟨⟨wm_im_X0_findSailor, wm_se_X0_findSailor⟩, ⟨wm_in_X0, wm_co_X0_findSailor, by decide, by decide, by decide +kernel⟩⟩
theorem ok_X0_fineAll : okV yX0_fineAll cX0_fineAll 7 (some .int) 2 := ⟨⟨wm_im_X0_fineAll, wm_se_X0_fineAll⟩, ⟨wm_in_X0, wm_co_X0_fineAll, by decide, by decide, by decide +kernel⟩⟩
theorem ok_X0_fineOne : okV yX0_fineOne cX0_fineOne 4 (some .int) 2 := ⟨⟨wm_im_X0_fineOne, wm_se_X0_fineOne⟩, ⟨wm_in_X0, wm_co_X0_fineOne, by decide, by decide, by decide +kernel⟩⟩
theorem ok_X0_init : okI yX0_init cX0_init 2 0 := ⟨⟨wm_im_X0_init, rfl⟩, ⟨wm_in_X0, wm_co_X0_init, by decide, by decide, by decide +kernel⟩⟩
theorem ok_X0_letAshore : okV yX0_letAshore cX0_letAshore 4 (some .int) 1 := ⟨⟨wm_im_X0_letAshore, wm_se_X0_letAshore⟩, ⟨wm_in_X0, wm_co_X0_letAshore, by decide, by decide, by decide +kernel⟩⟩
theorem ok_X0_passDays : okV yX0_passDays cX0_passDays 3 (some .int) 1 := ⟨⟨wm_im_X0_passDays, wm_se_X0_passDays⟩, ⟨wm_in_X0, wm_co_X0_passDays, by decide, by decide, by decide +kernel⟩⟩
theorem ok_X0_payTo : okV yX0_payTo cX0_payTo 4 none 3 := ⟨⟨wm_im_X0_payTo, wm_se_X0_payTo⟩, ⟨wm_in_X0, wm_co_X0_payTo, by decide, by decide, by decide +kernel⟩⟩
theorem ok_X0_poorerThan : okV yX0_poorerThan cX0_poorerThan 6 (some .int) 2 := ⟨⟨wm_im_X0_poorerThan, wm_se_X0_poorerThan⟩, ⟨wm_in_X0, wm_co_X0_poorerThan, by decide, by decide, by decide +kernel⟩⟩
theorem ok_X0_putToSea : okV yX0_putToSea cX0_putToSea 3 (some .int) 0 := ⟨⟨wm_im_X0_putToSea, wm_se_X0_putToSea⟩, ⟨wm_in_X0, wm_co_X0_putToSea, by decide, by decide, by decide +kernel⟩⟩
theorem ok_X0_reasonAgainst : okV yX0_reasonAgainst cX0_reasonAgainst 4 (some .int) 3 := ⟨⟨wm_im_X0_reasonAgainst, wm_se_X0_reasonAgainst⟩, ⟨wm_in_X0, wm_co_X0_reasonAgainst, by decide, by decide, by decide +kernel⟩⟩
theorem ok_X0_reasonNotToSell : okV yX0_reasonNotToSell cX0_reasonNotToSell 6 (some .int) 3 := ⟨⟨wm_im_X0_reasonNotToSell, wm_se_X0_reasonNotToSell⟩, ⟨wm_in_X0, wm_co_X0_reasonNotToSell, by decide, by decide, by decide +kernel⟩⟩
theorem ok_X0_sailorByBalance : okV yX0_sailorByBalance cX0_sailorByBalance 3 (some .int) 1 := ⟨⟨wm_im_X0_sailorByBalance, wm_se_X0_sailorByBalance⟩, ⟨wm_in_X0, wm_co_X0_sailorByBalance, by decide, by decide, by decide +kernel⟩⟩
theorem ok_X0_sellFromChest : okV yX0_sellFromChest cX0_sellFromChest 7 (some .int) 3 := ⟨⟨wm_im_X0_sellFromChest, wm_se_X0_sellFromChest⟩, ⟨wm_in_X0, wm_co_X0_sellFromChest, by decide, by decide, by decide +kernel⟩⟩
theorem ok_X0_sendAway : okV yX0_sendAway cX0_sendAway 4 (some .int) 1 := ⟨⟨wm_im_X0_sendAway, wm_se_X0_sendAway⟩, ⟨wm_in_X0, wm_co_X0_sendAway, by decide, by decide, by decide +kernel⟩⟩
theorem ok_X0_setOf : okV yX0_setOf cX0_setOf 4 (some .int) 1 := ⟨⟨wm_im_X0_setOf, wm_se_X0_setOf⟩, ⟨wm_in_X0, wm_co_X0_setOf, by decide, by decide, by decide +kernel⟩⟩
theorem ok_X0_setOfDebtors : okV yX0_setOfDebtors cX0_setOfDebtors 3 (some .int) 0 := ⟨⟨wm_im_X0_setOfDebtors, wm_se_X0_setOfDebtors⟩, ⟨wm_in_X0, wm_co_X0_setOfDebtors, by decide, by decide, by decide +kernel⟩⟩
theorem ok_X0_setting : okV yX0_setting cX0_setting 2 (some .int) 1 := ⟨⟨wm_im_X0_setting, wm_se_X0_setting⟩, ⟨wm_in_X0, wm_co_X0_setting, by decide, by decide, by decide +kernel⟩⟩
theorem ok_X0_signOn : okV yX0_signOn cX0_signOn 4 (some .int) 2 := ⟨⟨wm_im_X0_signOn, wm_se_X0_signOn⟩, ⟨wm_in_X0, wm_co_X0_signOn, by decide, by decide, by decide +kernel⟩⟩
theorem ok_X0_sizeOfWatch : okV yX0_sizeOfWatch cX0_sizeOfWatch 4 (some .int) 1 := ⟨⟨wm_im_X0_sizeOfWatch, wm_se_X0_sizeOfWatch⟩, ⟨wm_in_X0, wm_co_X0_sizeOfWatch, by decide, by decide, by decide +kernel⟩⟩
theorem ok_X0_tell : okV yX0_tell cX0_tell 2 (some .int) 1 := ⟨⟨wm_im_X0_tell, wm_se_X0_tell⟩, ⟨wm_in_X0, wm_co_X0_tell, by decide, by decide, by decide +kernel⟩⟩
theorem ok_X0_tellCoins : okV yX0_tellCoins cX0_tellCoins 2 (some .int) 1 := ⟨⟨wm_im_X0_tellCoins, wm_se_X0_tellCoins⟩, ⟨wm_in_X0, wm_co_X0_tellCoins, by decide, by decide, by decide +kernel⟩⟩
theorem ok_X0_tellPayingOff : okV yX0_tellPayingOff cX0_tellPayingOff 2 (some .int) 1 := ⟨⟨wm_im_X0_tellPayingOff, wm_se_X0_tellPayingOff⟩, ⟨wm_in_X0, wm_co_X0_tellPayingOff, by decide, by decide, by decide +kernel⟩⟩
theorem ok_X0_wouldBePaid : okV yX0_wouldBePaid cX0_wouldBePaid 3 (some .int) 0 := ⟨⟨wm_im_X0_wouldBePaid, wm_se_X0_wouldBePaid⟩, ⟨wm_in_X0, wm_co_X0_wouldBePaid, by decide, by decide, by decide +kernel⟩⟩
theorem ok_X10_aboardOf : okV yX10_aboardOf cX10_aboardOf 4 (some .int) 1 := ⟨⟨wm_im_X10_aboardOf, wm_se_X10_aboardOf⟩, ⟨wm_in_X10, wm_co_X10_aboardOf, by decide, by decide, by decide +kernel⟩⟩
theorem ok_X10_advance : okV yX10_advance cX10_advance 4 (some .int) 2 := ⟨⟨wm_im_X10_advance, wm_se_X10_advance⟩, ⟨wm_in_X10, wm_co_X10_advance, by decide, by decide, by decide +kernel⟩⟩
theorem ok_X10_at : okV yX10_at cX10_at 2 (some .int) 1 := ⟨⟨wm_im_X10_at, wm_se_X10_at⟩, ⟨wm_in_X10, wm_co_X10_at, by decide, by decide, by decide +kernel⟩⟩
theorem ok_X10_back : okV yX10_back cX10_back 4 (some .int) 2 := ⟨⟨wm_im_X10_back, wm_se_X10_back⟩, ⟨wm_in_X10, wm_co_X10_back, by decide, by decide, by decide +kernel⟩⟩
theorem ok_X10_balance : okV yX10_balance cX10_balance 2 (some .int) 1 := ⟨⟨wm_im_X10_balance, wm_se_X10_balance⟩, ⟨wm_in_X10, wm_co_X10_balance, by decide, by decide, by decide +kernel⟩⟩
theorem ok_X10_book : okV yX10_book cX10_book 3 (some .int) 2 := ⟨⟨wm_im_X10_book, wm_se_X10_book⟩, ⟨wm_in_X10, wm_co_X10_book, by decide, by decide, by decide +kernel⟩⟩
theorem ok_X10_charge : okV yX10_charge cX10_charge 4 none 3 := ⟨⟨wm_im_X10_charge, wm_se_X10_charge⟩, ⟨wm_in_X10, wm_co_X10_charge, by decide, by decide, by decide +kernel⟩⟩
theorem ok_X10_charged : okV yX10_charged cX10_charged 2 (some .int) 1 := ⟨⟨wm_im_X10_charged, wm_se_X10_charged⟩, ⟨wm_in_X10, wm_co_X10_charged, by decide, by decide, by decide +kernel⟩⟩
theorem ok_X10_clear : okV yX10_clear cX10_clear 3 none 1 := ⟨⟨wm_im_X10_clear, wm_se_X10_clear⟩, ⟨wm_in_X10, wm_co_X10_clear, by decide, by decide, by decide +kernel⟩⟩
theorem ok_X10_clearIn : okV yX10_clearIn cX10_clearIn 7 (some .int) 1 := ⟨⟨wm_im_X10_clearIn, wm_se_X10_clearIn⟩, ⟨wm_in_X10, wm_co_X10_clearIn, by decide, by decide, by decide +kernel⟩⟩
theorem ok_X10_clearText : okV yX10_clearText cX10_clearText 2 (some .int) 0 := ⟨⟨wm_im_X10_clearText, wm_se_X10_clearText⟩, ⟨wm_in_X10, wm_co_X10_clearText, by decide, by decide, by decide +kernel⟩⟩
theorem ok_X10_count : okV yX10_count cX10_count 2 (some .int) 1 := ⟨⟨wm_im_X10_count, wm_se_X10_count⟩, ⟨wm_in_X10, wm_co_X10_count, by decide, by decide, by decide +kernel⟩⟩
theorem ok_X10_days : okV yX10_days cX10_days 3 (some .int) 1 := ⟨⟨wm_im_X10_days, wm_se_X10_days⟩, ⟨wm_in_X10, wm_co_X10_days, by decide, by decide, by decide +kernel⟩⟩
theorem ok_X10_dismiss : okV yX10_dismiss cX10_dismiss 3 (some .int) 1 := ⟨⟨wm_im_X10_dismiss, wm_se_X10_dismiss⟩, ⟨wm_in_X10, wm_co_X10_dismiss, by decide, by decide, by decide +kernel⟩⟩
theorem ok_X10_doAdvance : okV yX10_doAdvance cX10_doAdvance 3 (some .int) 2 := ⟨⟨wm_im_X10_doAdvance, wm_se_X10_doAdvance⟩, ⟨wm_in_X10, wm_co_X10_doAdvance, by decide, by decide, by decide +kernel⟩⟩
theorem ok_X10_doBack : okV yX10_doBack cX10_doBack 3 (some .int) 2 := ⟨⟨wm_im_X10_doBack, wm_se_X10_doBack⟩, ⟨wm_in_X10, wm_co_X10_doBack, by decide, by decide, by decide +kernel⟩⟩
theorem ok_X10_doDays : okV yX10_doDays cX10_doDays 4 (some .int) 1 := ⟨⟨wm_im_X10_doDays, wm_se_X10_doDays⟩, ⟨wm_in_X10, wm_co_X10_doDays, by decide, by decide, by decide +kernel⟩⟩
theorem ok_X10_doFine : okV yX10_doFine cX10_doFine 3 (some .int) 2 := ⟨⟨wm_im_X10_doFine, wm_se_X10_doFine⟩, ⟨wm_in_X10, wm_co_X10_doFine, by decide, by decide, by decide +kernel⟩⟩
theorem ok_X10_doLeave : okV yX10_doLeave cX10_doLeave 4 (some .int) 1 := ⟨⟨wm_im_X10_doLeave, wm_se_X10_doLeave⟩, ⟨wm_in_X10, wm_co_X10_doLeave, by decide, by decide, by decide +kernel⟩⟩
theorem ok_X10_doOrder : okV yX10_doOrder cX10_doOrder 1 (some .int) 0 := ⟨⟨wm_im_X10_doOrder, wm_se_X10_doOrder⟩, ⟨wm_in_X10, wm_co_X10_doOrder, by decide, by decide, by decide +kernel⟩⟩
theorem ok_X10_doPayOff : okV yX10_doPayOff cX10_doPayOff 4 (some .int) 0 := ⟨⟨wm_im_X10_doPayOff, wm_se_X10_doPayOff⟩, ⟨wm_in_X10, wm_co_X10_doPayOff, by decide, by decide, by decide +kernel⟩⟩
theorem ok_X10_doPort : okV yX10_doPort cX10_doPort 1 (some .int) 0 := ⟨⟨wm_im_X10_doPort, wm_se_X10_doPort⟩, ⟨wm_in_X10, wm_co_X10_doPort, by decide, by decide, by decide +kernel⟩⟩
theorem ok_X10_doSail : okV yX10_doSail cX10_doSail 3 (some .int) 0 := ⟨⟨wm_im_X10_doSail, wm_se_X10_doSail⟩, ⟨wm_in_X10, wm_co_X10_doSail, by decide, by decide, by decide +kernel⟩⟩
theorem ok_X10_doSell : okV yX10_doSell cX10_doSell 6 (some .int) 3 := ⟨⟨wm_im_X10_doSell, wm_se_X10_doSell⟩, ⟨wm_in_X10, wm_co_X10_doSell, by decide, by decide, by decide +kernel⟩⟩
theorem ok_X10_doSign : okV yX10_doSign cX10_doSign 4 (some .int) 2 := ⟨⟨wm_im_X10_doSign, wm_se_X10_doSign⟩, ⟨wm_in_X10, wm_co_X10_doSign, by decide, by decide, by decide +kernel⟩⟩
theorem ok_X10_doStock : okV yX10_doStock cX10_doStock 5 (some .int) 3 := ⟨⟨wm_im_X10_doStock, wm_se_X10_doStock⟩, ⟨wm_in_X10, wm_co_X10_doStock, by decide, by decide, by decide +kernel⟩⟩
theorem ok_X10_doText : okV yX10_doText cX10_doText 3 (some .boolean) 0 := ⟨⟨wm_im_X10_doText, wm_se_X10_doText⟩, ⟨wm_in_X10, wm_co_X10_doText, by decide, by decide, by decide +kernel⟩⟩
theorem ok_X10_earned : okV yX10_earned cX10_earned 2 (some .int) 1 := ⟨⟨wm_im_X10_earned, wm_se_X10_earned⟩, ⟨wm_in_X10, wm_co_X10_earned, by decide, by decide, by decide +kernel⟩⟩
theorem ok_X10_fault : okV yX10_fault cX10_fault 3 (some .int) 1 := ⟨⟨wm_im_X10_fault, wm_se_X10_fault⟩, ⟨wm_in_X10, wm_co_X10_fault, by decide, by decide, by decide +kernel⟩⟩
theorem ok_X10_fine : okV yX10_fine cX10_fine 4 (some .int) 2 := ⟨⟨wm_im_X10_fine, wm_se_X10_fine⟩, ⟨wm_in_X10, wm_co_X10_fine, by decide, by decide, by decide +kernel⟩⟩
theorem ok_X10_fineWatch : okV yX10_fineWatch cX10_fineWatch 6 (some .int) 2 := ⟨⟨wm_im_X10_fineWatch, wm_se_X10_fineWatch⟩, ⟨wm_in_X10, wm_co_X10_fineWatch, by decide, by decide, by decide +kernel⟩⟩
theorem ok_X10_ifPaidOff : okV yX10_ifPaidOff cX10_ifPaidOff 7 (some .int) 1 := ⟨⟨wm_im_X10_ifPaidOff, wm_se_X10_ifPaidOff⟩, ⟨wm_in_X10, wm_co_X10_ifPaidOff, by decide, by decide, by decide +kernel⟩⟩
theorem ok_X10_in : okS yX10_in cX10_in 3 (some .boolean) 3 := ⟨wm_st_X10_in, ⟨wm_in_X10, wm_co_X10_in, by decide, by decide, by decide +kernel⟩⟩
theorem ok_X10_inPlace : okV yX10_inPlace cX10_inPlace 4 (some .int) 1 := ⟨⟨wm_im_X10_inPlace, wm_se_X10_inPlace⟩, ⟨wm_in_X10, wm_co_X10_inPlace, by decide, by decide, by decide +kernel⟩⟩
theorem ok_X10_init : okI yX10_init cX10_init 1 0 := ⟨⟨wm_im_X10_init, rfl⟩, ⟨wm_in_X10, wm_co_X10_init, by decide, by decide, by decide +kernel⟩⟩
theorem ok_X10_isAtSea : okV yX10_isAtSea cX10_isAtSea 1 (some .boolean) 0 := ⟨⟨wm_im_X10_isAtSea, wm_se_X10_isAtSea⟩, ⟨wm_in_X10, wm_co_X10_isAtSea, by decide, by decide, by decide +kernel⟩⟩
theorem ok_X10_isFined : okV yX10_isFined cX10_isFined 3 (some .boolean) 2 := ⟨⟨wm_im_X10_isFined, wm_se_X10_isFined⟩, ⟨wm_in_X10, wm_co_X10_isFined, by decide, by decide, by decide +kernel⟩⟩
theorem ok_X10_isGone : okV yX10_isGone cX10_isGone 2 (some .boolean) 1 := ⟨⟨wm_im_X10_isGone, wm_se_X10_isGone⟩, ⟨wm_in_X10, wm_co_X10_isGone, by decide, by decide, by decide +kernel⟩⟩
theorem ok_X10_isItem : okS yX10_isItem cX10_isItem 1 (some .boolean) 1 := ⟨wm_st_X10_isItem, ⟨wm_in_X10, wm_co_X10_isItem, by decide, by decide, by decide +kernel⟩⟩
theorem ok_X10_isSailor : okV yX10_isSailor cX10_isSailor 2 (some .boolean) 1 := ⟨⟨wm_im_X10_isSailor, wm_se_X10_isSailor⟩, ⟨wm_in_X10, wm_co_X10_isSailor, by decide, by decide, by decide +kernel⟩⟩
theorem ok_X10_item : okV yX10_item cX10_item 3 (some .int) 2 := ⟨⟨wm_im_X10_item, wm_se_X10_item⟩, ⟨wm_in_X10, wm_co_X10_item, by decide, by decide, by decide +kernel⟩⟩
theorem ok_X10_leave : okV yX10_leave cX10_leave 3 (some .int) 1 := ⟨⟨wm_im_X10_leave, wm_se_X10_leave⟩, ⟨wm_in_X10, wm_co_X10_leave, by decide, by decide, by decide +kernel⟩⟩
theorem ok_X10_most : okV yX10_most cX10_most 4 (some .int) 2 := ⟨⟨wm_im_X10_most, wm_se_X10_most⟩, ⟨wm_in_X10, wm_co_X10_most, by decide, by decide, by decide +kernel⟩⟩
theorem ok_X10_noAdvance : okV yX10_noAdvance cX10_noAdvance 3 (some .int) 2 := ⟨⟨wm_im_X10_noAdvance, wm_se_X10_noAdvance⟩, ⟨wm_in_X10, wm_co_X10_noAdvance, by decide, by decide, by decide +kernel⟩⟩
theorem ok_X10_noBack : okV yX10_noBack cX10_noBack 3 (some .int) 2 := ⟨⟨wm_im_X10_noBack, wm_se_X10_noBack⟩, ⟨wm_in_X10, wm_co_X10_noBack, by decide, by decide, by decide +kernel⟩⟩
theorem ok_X10_noDays : okV yX10_noDays cX10_noDays 2 (some .int) 1 := ⟨⟨wm_im_X10_noDays, wm_se_X10_noDays⟩, ⟨wm_in_X10, wm_co_X10_noDays, by decide, by decide, by decide +kernel⟩⟩
theorem ok_X10_noFine : okV yX10_noFine cX10_noFine 3 (some .int) 2 := ⟨⟨wm_im_X10_noFine, wm_se_X10_noFine⟩, ⟨wm_in_X10, wm_co_X10_noFine, by decide, by decide, by decide +kernel⟩⟩
theorem ok_X10_noLeave : okV yX10_noLeave cX10_noLeave 2 (some .int) 1 := ⟨⟨wm_im_X10_noLeave, wm_se_X10_noLeave⟩, ⟨wm_in_X10, wm_co_X10_noLeave, by decide, by decide, by decide +kernel⟩⟩
theorem ok_X10_noOrder : okV yX10_noOrder cX10_noOrder 1 (some .int) 0 := ⟨⟨wm_im_X10_noOrder, wm_se_X10_noOrder⟩, ⟨wm_in_X10, wm_co_X10_noOrder, by decide, by decide, by decide +kernel⟩⟩
theorem ok_X10_noPayOff : okV yX10_noPayOff cX10_noPayOff 1 (some .int) 0 := ⟨⟨wm_im_X10_noPayOff, wm_se_X10_noPayOff⟩, ⟨wm_in_X10, wm_co_X10_noPayOff, by decide, by decide, by decide +kernel⟩⟩
theorem ok_X10_noPort : okV yX10_noPort cX10_noPort 1 (some .int) 0 := ⟨⟨wm_im_X10_noPort, wm_se_X10_noPort⟩, ⟨wm_in_X10, wm_co_X10_noPort, by decide, by decide, by decide +kernel⟩⟩
theorem ok_X10_noSail : okV yX10_noSail cX10_noSail 1 (some .int) 0 := ⟨⟨wm_im_X10_noSail, wm_se_X10_noSail⟩, ⟨wm_in_X10, wm_co_X10_noSail, by decide, by decide, by decide +kernel⟩⟩
theorem ok_X10_noSell : okV yX10_noSell cX10_noSell 4 (some .int) 3 := ⟨⟨wm_im_X10_noSell, wm_se_X10_noSell⟩, ⟨wm_in_X10, wm_co_X10_noSell, by decide, by decide, by decide +kernel⟩⟩
theorem ok_X10_noSign : okV yX10_noSign cX10_noSign 3 (some .int) 2 := ⟨⟨wm_im_X10_noSign, wm_se_X10_noSign⟩, ⟨wm_in_X10, wm_co_X10_noSign, by decide, by decide, by decide +kernel⟩⟩
theorem ok_X10_noStock : okV yX10_noStock cX10_noStock 4 (some .int) 3 := ⟨⟨wm_im_X10_noStock, wm_se_X10_noStock⟩, ⟨wm_in_X10, wm_co_X10_noStock, by decide, by decide, by decide +kernel⟩⟩
theorem ok_X10_numbers : okS yX10_numbers cX10_numbers 1 (some .int) 1 := ⟨wm_st_X10_numbers, ⟨wm_in_X10, wm_co_X10_numbers, by decide, by decide, by decide +kernel⟩⟩
theorem ok_X10_of : okV yX10_of cX10_of 3 (some .int) 2 := ⟨⟨wm_im_X10_of, wm_se_X10_of⟩, ⟨wm_in_X10, wm_co_X10_of, by decide, by decide, by decide +kernel⟩⟩
theorem ok_X10_ofItem : okV yX10_ofItem cX10_ofItem 3 (some .int) 2 := ⟨⟨wm_im_X10_ofItem, wm_se_X10_ofItem⟩, ⟨wm_in_X10, wm_co_X10_ofItem, by decide, by decide, by decide +kernel⟩⟩
theorem ok_X10_ofWatch : okV yX10_ofWatch cX10_ofWatch 5 (some .int) 2 := ⟨⟨wm_im_X10_ofWatch, wm_se_X10_ofWatch⟩, ⟨wm_in_X10, wm_co_X10_ofWatch, by decide, by decide, by decide +kernel⟩⟩
theorem ok_X10_partOf : okV yX10_partOf cX10_partOf 5 (some .int) 3 := ⟨⟨wm_im_X10_partOf, wm_se_X10_partOf⟩, ⟨wm_in_X10, wm_co_X10_partOf, by decide, by decide, by decide +kernel⟩⟩
theorem ok_X10_pay : okV yX10_pay cX10_pay 3 none 2 := ⟨⟨wm_im_X10_pay, wm_se_X10_pay⟩, ⟨wm_in_X10, wm_co_X10_pay, by decide, by decide, by decide +kernel⟩⟩
theorem ok_X10_payOff : okV yX10_payOff cX10_payOff 2 (some .int) 0 := ⟨⟨wm_im_X10_payOff, wm_se_X10_payOff⟩, ⟨wm_in_X10, wm_co_X10_payOff, by decide, by decide, by decide +kernel⟩⟩
theorem ok_X10_play : okV yX10_play cX10_play 1 (some .int) 0 := ⟨⟨wm_im_X10_play, wm_se_X10_play⟩, ⟨wm_in_X10, wm_co_X10_play, by decide, by decide, by decide +kernel⟩⟩
theorem ok_X10_poorest : okV yX10_poorest cX10_poorest 7 (some .int) 1 := ⟨⟨wm_im_X10_poorest, wm_se_X10_poorest⟩, ⟨wm_in_X10, wm_co_X10_poorest, by decide, by decide, by decide +kernel⟩⟩
theorem ok_X10_port : okV yX10_port cX10_port 2 (some .int) 0 := ⟨⟨wm_im_X10_port, wm_se_X10_port⟩, ⟨wm_in_X10, wm_co_X10_port, by decide, by decide, by decide +kernel⟩⟩
theorem ok_X10_put : okV yX10_put cX10_put 4 none 3 := ⟨⟨wm_im_X10_put, wm_se_X10_put⟩, ⟨wm_in_X10, wm_co_X10_put, by decide, by decide, by decide +kernel⟩⟩
theorem ok_X10_putAside : okV yX10_putAside cX10_putAside 2 none 0 := ⟨⟨wm_im_X10_putAside, wm_se_X10_putAside⟩, ⟨wm_in_X10, wm_co_X10_putAside, by decide, by decide, by decide +kernel⟩⟩
theorem ok_X10_putBack : okV yX10_putBack cX10_putBack 2 none 0 := ⟨⟨wm_im_X10_putBack, wm_se_X10_putBack⟩, ⟨wm_in_X10, wm_co_X10_putBack, by decide, by decide, by decide +kernel⟩⟩
theorem ok_X10_readOrder : okV yX10_readOrder cX10_readOrder 6 (some .int) 1 := ⟨⟨wm_im_X10_readOrder, wm_se_X10_readOrder⟩, ⟨wm_in_X10, wm_co_X10_readOrder, by decide, by decide, by decide +kernel⟩⟩
theorem ok_X10_record : okV yX10_record cX10_record 3 none 1 := ⟨⟨wm_im_X10_record, wm_se_X10_record⟩, ⟨wm_in_X10, wm_co_X10_record, by decide, by decide, by decide +kernel⟩⟩
theorem ok_X10_sail : okV yX10_sail cX10_sail 2 (some .int) 0 := ⟨⟨wm_im_X10_sail, wm_se_X10_sail⟩, ⟨wm_in_X10, wm_co_X10_sail, by decide, by decide, by decide +kernel⟩⟩
theorem ok_X10_sailor : okV yX10_sailor cX10_sailor 3 (some .int) 2 := ⟨⟨wm_im_X10_sailor, wm_se_X10_sailor⟩, ⟨wm_in_X10, wm_co_X10_sailor, by decide, by decide, by decide +kernel⟩⟩
theorem ok_X10_sell : okV yX10_sell cX10_sell 5 (some .int) 3 := ⟨⟨wm_im_X10_sell, wm_se_X10_sell⟩, ⟨wm_in_X10, wm_co_X10_sell, by decide, by decide, by decide +kernel⟩⟩
theorem ok_X10_set : okV yX10_set cX10_set 4 (some .int) 2 := ⟨⟨wm_im_X10_set, wm_se_X10_set⟩, ⟨wm_in_X10, wm_co_X10_set, by decide, by decide, by decide +kernel⟩⟩
theorem ok_X10_share : okV yX10_share cX10_share 4 (some .int) 0 := ⟨⟨wm_im_X10_share, wm_se_X10_share⟩, ⟨wm_in_X10, wm_co_X10_share, by decide, by decide, by decide +kernel⟩⟩
theorem ok_X10_sign : okV yX10_sign cX10_sign 4 (some .int) 2 := ⟨⟨wm_im_X10_sign, wm_se_X10_sign⟩, ⟨wm_in_X10, wm_co_X10_sign, by decide, by decide, by decide +kernel⟩⟩
theorem ok_X10_spend : okV yX10_spend cX10_spend 2 none 1 := ⟨⟨wm_im_X10_spend, wm_se_X10_spend⟩, ⟨wm_in_X10, wm_co_X10_spend, by decide, by decide, by decide +kernel⟩⟩
theorem ok_X10_stock : okV yX10_stock cX10_stock 5 (some .int) 3 := ⟨⟨wm_im_X10_stock, wm_se_X10_stock⟩, ⟨wm_in_X10, wm_co_X10_stock, by decide, by decide, by decide +kernel⟩⟩
theorem ok_X10_type : okV yX10_type cX10_type 2 (some .int) 1 := ⟨⟨wm_im_X10_type, wm_se_X10_type⟩, ⟨wm_in_X10, wm_co_X10_type, by decide, by decide, by decide +kernel⟩⟩
theorem ok_X10_undo : okV yX10_undo cX10_undo 2 (some .int) 0 := ⟨⟨wm_im_X10_undo, wm_se_X10_undo⟩, ⟨wm_in_X10, wm_co_X10_undo, by decide, by decide, by decide +kernel⟩⟩
theorem ok_X10_wages : okS yX10_wages cX10_wages 4 (some .int) 3 := ⟨wm_st_X10_wages, ⟨wm_in_X10, wm_co_X10_wages, by decide, by decide, by decide +kernel⟩⟩
theorem ok_X10_why : okV yX10_why cX10_why 4 (some .int) 3 := ⟨⟨wm_im_X10_why, wm_se_X10_why⟩, ⟨wm_in_X10, wm_co_X10_why, by decide, by decide, by decide +kernel⟩⟩
theorem ok_X10_whyNot : okV yX10_whyNot cX10_whyNot 4 (some .int) 3 := ⟨⟨wm_im_X10_whyNot, wm_se_X10_whyNot⟩, ⟨wm_in_X10, wm_co_X10_whyNot, by decide, by decide, by decide +kernel⟩⟩
theorem ok_X10_write : okV yX10_write cX10_write 5 none 3 := ⟨⟨wm_im_X10_write, wm_se_X10_write⟩, ⟨wm_in_X10, wm_co_X10_write, by decide, by decide, by decide +kernel⟩⟩
theorem ok_X1_copyFrom : okV yX1_copyFrom cX1_copyFrom 2 none 1 := ⟨⟨wm_im_X1_copyFrom, wm_se_X1_copyFrom⟩, ⟨wm_in_X1, wm_co_X1_copyFrom, by decide, by decide, by decide +kernel⟩⟩
theorem ok_X1_enter : okV yX1_enter cX1_enter 4 none 3 := ⟨⟨wm_im_X1_enter, wm_se_X1_enter⟩, ⟨wm_in_X1, wm_co_X1_enter, by decide, by decide, by decide +kernel⟩⟩
theorem ok_X1_init : okI yX1_init cX1_init 1 0 := ⟨⟨wm_im_X1_init, rfl⟩, ⟨wm_in_X1, wm_co_X1_init, by decide, by decide, by decide +kernel⟩⟩
theorem ok_X1_numberAt : okS yX1_numberAt cX1_numberAt 2 (some .int) 2 := ⟨wm_st_X1_numberAt, ⟨wm_in_X1, wm_co_X1_numberAt, by decide, by decide, by decide +kernel⟩⟩
theorem ok_X1_putAhead : okS yX1_putAhead cX1_putAhead 3 none 2 := ⟨wm_st_X1_putAhead, ⟨wm_in_X1, wm_co_X1_putAhead, by decide, by decide, by decide +kernel⟩⟩
theorem ok_X1_tell : okV yX1_tell cX1_tell 3 (some .int) 2 := ⟨⟨wm_im_X1_tell, wm_se_X1_tell⟩, ⟨wm_in_X1, wm_co_X1_tell, by decide, by decide, by decide +kernel⟩⟩
theorem ok_X2_init : okI yX2_init cX2_init 2 0 := ⟨⟨wm_im_X2_init, rfl⟩, ⟨wm_in_X2, wm_co_X2_init, by decide, by decide, by decide +kernel⟩⟩
theorem ok_X2_record : okV yX2_record cX2_record 5 none 1 := ⟨⟨wm_im_X2_record, wm_se_X2_record⟩, ⟨wm_in_X2, wm_co_X2_record, by decide, by decide, by decide +kernel⟩⟩
theorem ok_X2_restoreInto : okV yX2_restoreInto cX2_restoreInto 5 (some .int) 1 := ⟨⟨wm_im_X2_restoreInto, wm_se_X2_restoreInto⟩, ⟨wm_in_X2, wm_co_X2_restoreInto, by decide, by decide, by decide +kernel⟩⟩
theorem ok_X3_copyFrom : okV yX3_copyFrom cX3_copyFrom 2 none 1 := ⟨⟨wm_im_X3_copyFrom, wm_se_X3_copyFrom⟩, ⟨wm_in_X3, wm_co_X3_copyFrom, by decide, by decide, by decide +kernel⟩⟩
theorem ok_X3_giveOut : okV yX3_giveOut cX3_giveOut 3 none 2 := ⟨⟨wm_im_X3_giveOut, wm_se_X3_giveOut⟩, ⟨wm_in_X3, wm_co_X3_giveOut, by decide, by decide, by decide +kernel⟩⟩
theorem ok_X3_init : okI yX3_init cX3_init 1 0 := ⟨⟨wm_im_X3_init, rfl⟩, ⟨wm_in_X3, wm_co_X3_init, by decide, by decide, by decide +kernel⟩⟩
theorem ok_X3_takeIn : okV yX3_takeIn cX3_takeIn 3 none 2 := ⟨⟨wm_im_X3_takeIn, wm_se_X3_takeIn⟩, ⟨wm_in_X3, wm_co_X3_takeIn, by decide, by decide, by decide +kernel⟩⟩
theorem ok_X3_tell : okV yX3_tell cX3_tell 2 (some .int) 1 := ⟨⟨wm_im_X3_tell, wm_se_X3_tell⟩, ⟨wm_in_X3, wm_co_X3_tell, by decide, by decide, by decide +kernel⟩⟩
theorem ok_X4_carryOut : okV yX4_carryOut cX4_carryOut 2 (some .int) 1 := ⟨⟨wm_im_X4_carryOut, wm_se_X4_carryOut⟩, ⟨wm_in_X4, wm_co_X4_carryOut, by decide, by decide, by decide +kernel⟩⟩
theorem ok_X4_init : okI yX4_init cX4_init 1 0 := ⟨⟨wm_im_X4_init, rfl⟩, ⟨wm_in_X4, wm_co_X4_init, by decide, by decide, by decide +kernel⟩⟩
theorem ok_X4_number : okV yX4_number cX4_number 2 (some .int) 1 := ⟨⟨wm_im_X4_number, wm_se_X4_number⟩, ⟨wm_in_X4, wm_co_X4_number, by decide, by decide, by decide +kernel⟩⟩
theorem ok_X4_numbersOf : okS yX4_numbersOf cX4_numbersOf 1 (some .int) 1 := ⟨wm_st_X4_numbersOf, ⟨wm_in_X4, wm_co_X4_numbersOf, by decide, by decide, by decide +kernel⟩⟩
theorem ok_X4_readFrom : okV yX4_readFrom cX4_readFrom 6 (some .boolean) 2 := ⟨⟨wm_im_X4_readFrom, wm_se_X4_readFrom⟩, ⟨wm_in_X4, wm_co_X4_readFrom, by decide, by decide, by decide +kernel⟩⟩
theorem ok_X4_readNumber : okV yX4_readNumber cX4_readNumber 4 (some .int) 1 := ⟨⟨wm_im_X4_readNumber, wm_se_X4_readNumber⟩, ⟨wm_in_X4, wm_co_X4_readNumber, by decide, by decide, by decide +kernel⟩⟩
theorem ok_X4_readSign : okV yX4_readSign cX4_readSign 3 (some .boolean) 2 := ⟨⟨wm_im_X4_readSign, wm_se_X4_readSign⟩, ⟨wm_in_X4, wm_co_X4_readSign, by decide, by decide, by decide +kernel⟩⟩
theorem ok_X5_init : okI yX5_init cX5_init 1 0 := ⟨⟨wm_im_X5_init, rfl⟩, ⟨wm_in_X5, wm_co_X5_init, by decide, by decide, by decide +kernel⟩⟩
theorem ok_X5_isFaulty : okV yX5_isFaulty cX5_isFaulty 1 (some .boolean) 0 := ⟨⟨wm_im_X5_isFaulty, wm_se_X5_isFaulty⟩, ⟨wm_in_X5, wm_co_X5_isFaulty, by decide, by decide, by decide +kernel⟩⟩
theorem ok_X5_runThrough : okV yX5_runThrough cX5_runThrough 5 none 2 := ⟨⟨wm_im_X5_runThrough, wm_se_X5_runThrough⟩, ⟨wm_in_X5, wm_co_X5_runThrough, by decide, by decide, by decide +kernel⟩⟩
theorem ok_X5_tellFault : okV yX5_tellFault cX5_tellFault 2 (some .int) 1 := ⟨⟨wm_im_X5_tellFault, wm_se_X5_tellFault⟩, ⟨wm_in_X5, wm_co_X5_tellFault, by decide, by decide, by decide +kernel⟩⟩
theorem ok_X6_balance : okV yX6_balance cX6_balance 1 (some .int) 0 := ⟨⟨wm_im_X6_balance, wm_se_X6_balance⟩, ⟨wm_in_X6, wm_co_X6_balance, by decide, by decide, by decide +kernel⟩⟩
theorem ok_X6_beginVoyage : okV yX6_beginVoyage cX6_beginVoyage 2 none 1 := ⟨⟨wm_im_X6_beginVoyage, wm_se_X6_beginVoyage⟩, ⟨wm_in_X6, wm_co_X6_beginVoyage, by decide, by decide, by decide +kernel⟩⟩
theorem ok_X6_charged : okV yX6_charged cX6_charged 1 (some .int) 0 := ⟨⟨wm_im_X6_charged, wm_se_X6_charged⟩, ⟨wm_in_X6, wm_co_X6_charged, by decide, by decide, by decide +kernel⟩⟩
theorem ok_X6_comeAboard : okV yX6_comeAboard cX6_comeAboard 3 none 2 := ⟨⟨wm_im_X6_comeAboard, wm_se_X6_comeAboard⟩, ⟨wm_in_X6, wm_co_X6_comeAboard, by decide, by decide, by decide +kernel⟩⟩
theorem ok_X6_copyFrom : okV yX6_copyFrom cX6_copyFrom 2 none 1 := ⟨⟨wm_im_X6_copyFrom, wm_se_X6_copyFrom⟩, ⟨wm_in_X6, wm_co_X6_copyFrom, by decide, by decide, by decide +kernel⟩⟩
theorem ok_X6_couldBeFined : okV yX6_couldBeFined cX6_couldBeFined 2 (some .boolean) 1 := ⟨⟨wm_im_X6_couldBeFined, wm_se_X6_couldBeFined⟩, ⟨wm_in_X6, wm_co_X6_couldBeFined, by decide, by decide, by decide +kernel⟩⟩
theorem ok_X6_earned : okV yX6_earned cX6_earned 1 (some .int) 0 := ⟨⟨wm_im_X6_earned, wm_se_X6_earned⟩, ⟨wm_in_X6, wm_co_X6_earned, by decide, by decide, by decide +kernel⟩⟩
theorem ok_X6_earnedAfter : okV yX6_earnedAfter cX6_earnedAfter 3 (some .int) 2 := ⟨⟨wm_im_X6_earnedAfter, wm_se_X6_earnedAfter⟩, ⟨wm_in_X6, wm_co_X6_earnedAfter, by decide, by decide, by decide +kernel⟩⟩
theorem ok_X6_goAway : okV yX6_goAway cX6_goAway 1 none 0 := ⟨⟨wm_im_X6_goAway, wm_se_X6_goAway⟩, ⟨wm_in_X6, wm_co_X6_goAway, by decide, by decide, by decide +kernel⟩⟩
theorem ok_X6_init : okI yX6_init cX6_init 1 0 := ⟨⟨wm_im_X6_init, rfl⟩, ⟨wm_in_X6, wm_co_X6_init, by decide, by decide, by decide +kernel⟩⟩
theorem ok_X6_isGone : okV yX6_isGone cX6_isGone 1 (some .boolean) 0 := ⟨⟨wm_im_X6_isGone, wm_se_X6_isGone⟩, ⟨wm_in_X6, wm_co_X6_isGone, by decide, by decide, by decide +kernel⟩⟩
theorem ok_X6_isOfWatch : okV yX6_isOfWatch cX6_isOfWatch 2 (some .boolean) 1 := ⟨⟨wm_im_X6_isOfWatch, wm_se_X6_isOfWatch⟩, ⟨wm_in_X6, wm_co_X6_isOfWatch, by decide, by decide, by decide +kernel⟩⟩
theorem ok_X6_passDays : okV yX6_passDays cX6_passDays 3 none 2 := ⟨⟨wm_im_X6_passDays, wm_se_X6_passDays⟩, ⟨wm_in_X6, wm_co_X6_passDays, by decide, by decide, by decide +kernel⟩⟩
theorem ok_X6_tell : okV yX6_tell cX6_tell 2 (some .int) 1 := ⟨⟨wm_im_X6_tell, wm_se_X6_tell⟩, ⟨wm_in_X6, wm_co_X6_tell, by decide, by decide, by decide +kernel⟩⟩
theorem ok_X6_wages : okV yX6_wages cX6_wages 3 (some .int) 2 := ⟨⟨wm_im_X6_wages, wm_se_X6_wages⟩, ⟨wm_in_X6, wm_co_X6_wages, by decide, by decide, by decide +kernel⟩⟩
theorem ok_X7_append : okV yX7_append cX7_append 2 (some .int) 1 := ⟨⟨wm_im_X7_append, wm_se_X7_append⟩, ⟨wm_in_X7, wm_co_X7_append, by decide, by decide, by decide +kernel⟩⟩
theorem ok_X7_at : okV yX7_at cX7_at 2 (some .int) 1 := ⟨⟨wm_im_X7_at, wm_se_X7_at⟩, ⟨wm_in_X7, wm_co_X7_at, by decide, by decide, by decide +kernel⟩⟩
theorem ok_X7_empty : okV yX7_empty cX7_empty 2 (some .int) 0 := ⟨⟨wm_im_X7_empty, wm_se_X7_empty⟩, ⟨wm_in_X7, wm_co_X7_empty, by decide, by decide, by decide +kernel⟩⟩
theorem ok_X7_init : okI yX7_init cX7_init 1 0 := ⟨⟨wm_im_X7_init, rfl⟩, ⟨wm_in_X7, wm_co_X7_init, by decide, by decide, by decide +kernel⟩⟩
theorem ok_X8_copyFrom : okV yX8_copyFrom cX8_copyFrom 2 none 1 := ⟨⟨wm_im_X8_copyFrom, wm_se_X8_copyFrom⟩, ⟨wm_in_X8, wm_co_X8_copyFrom, by decide, by decide, by decide +kernel⟩⟩
theorem ok_X8_init : okI yX8_init cX8_init 1 0 := ⟨⟨wm_im_X8_init, rfl⟩, ⟨wm_in_X8, wm_co_X8_init, by decide, by decide, by decide +kernel⟩⟩
theorem ok_X8_missingFor : okV yX8_missingFor cX8_missingFor 2 (some .int) 1 := ⟨⟨wm_im_X8_missingFor, wm_se_X8_missingFor⟩, ⟨wm_in_X8, wm_co_X8_missingFor, by decide, by decide, by decide +kernel⟩⟩
theorem ok_X8_takeCash : okV yX8_takeCash cX8_takeCash 3 none 1 := ⟨⟨wm_im_X8_takeCash, wm_se_X8_takeCash⟩, ⟨wm_in_X8, wm_co_X8_takeCash, by decide, by decide, by decide +kernel⟩⟩
theorem ok_X9_advance : okV yX9_advance cX9_advance 3 (some .int) 2 := ⟨⟨wm_im_X9_advance, wm_se_X9_advance⟩, ⟨wm_in_X9, wm_co_X9_advance, by decide, by decide, by decide +kernel⟩⟩
theorem ok_X9_back : okV yX9_back cX9_back 3 (some .int) 2 := ⟨⟨wm_im_X9_back, wm_se_X9_back⟩, ⟨wm_in_X9, wm_co_X9_back, by decide, by decide, by decide +kernel⟩⟩
theorem ok_X9_bitsOf : okS yX9_bitsOf cX9_bitsOf 4 (some .int) 1 := ⟨wm_st_X9_bitsOf, ⟨wm_in_X9, wm_co_X9_bitsOf, by decide, by decide, by decide +kernel⟩⟩
theorem ok_X9_book : okV yX9_book cX9_book 3 (some .int) 2 := ⟨⟨wm_im_X9_book, wm_se_X9_book⟩, ⟨wm_in_X9, wm_co_X9_book, by decide, by decide, by decide +kernel⟩⟩
theorem ok_X9_clearIn : okV yX9_clearIn cX9_clearIn 2 (some .int) 1 := ⟨⟨wm_im_X9_clearIn, wm_se_X9_clearIn⟩, ⟨wm_in_X9, wm_co_X9_clearIn, by decide, by decide, by decide +kernel⟩⟩
theorem ok_X9_clearText : okV yX9_clearText cX9_clearText 1 (some .int) 0 := ⟨⟨wm_im_X9_clearText, wm_se_X9_clearText⟩, ⟨wm_in_X9, wm_co_X9_clearText, by decide, by decide, by decide +kernel⟩⟩
theorem ok_X9_copyNumbers : okS yX9_copyNumbers cX9_copyNumbers 3 none 2 := ⟨wm_st_X9_copyNumbers, ⟨wm_in_X9, wm_co_X9_copyNumbers, by decide, by decide, by decide +kernel⟩⟩
theorem ok_X9_count : okV yX9_count cX9_count 2 (some .int) 1 := ⟨⟨wm_im_X9_count, wm_se_X9_count⟩, ⟨wm_in_X9, wm_co_X9_count, by decide, by decide, by decide +kernel⟩⟩
theorem ok_X9_days : okV yX9_days cX9_days 2 (some .int) 1 := ⟨⟨wm_im_X9_days, wm_se_X9_days⟩, ⟨wm_in_X9, wm_co_X9_days, by decide, by decide, by decide +kernel⟩⟩
theorem ok_X9_dismiss : okV yX9_dismiss cX9_dismiss 2 (some .int) 1 := ⟨⟨wm_im_X9_dismiss, wm_se_X9_dismiss⟩, ⟨wm_in_X9, wm_co_X9_dismiss, by decide, by decide, by decide +kernel⟩⟩
theorem ok_X9_fault : okV yX9_fault cX9_fault 2 (some .int) 1 := ⟨⟨wm_im_X9_fault, wm_se_X9_fault⟩, ⟨wm_in_X9, wm_co_X9_fault, by decide, by decide, by decide +kernel⟩⟩
theorem ok_X9_fine : okV yX9_fine cX9_fine 3 (some .int) 2 := ⟨⟨wm_im_X9_fine, wm_se_X9_fine⟩, ⟨wm_in_X9, wm_co_X9_fine, by decide, by decide, by decide +kernel⟩⟩
theorem ok_X9_fineWatch : okV yX9_fineWatch cX9_fineWatch 3 (some .int) 2 := ⟨⟨wm_im_X9_fineWatch, wm_se_X9_fineWatch⟩, ⟨wm_in_X9, wm_co_X9_fineWatch, by decide, by decide, by decide +kernel⟩⟩
theorem ok_X9_ifPaidOff : okV yX9_ifPaidOff cX9_ifPaidOff 2 (some .int) 1 := ⟨⟨wm_im_X9_ifPaidOff, wm_se_X9_ifPaidOff⟩, ⟨wm_in_X9, wm_co_X9_ifPaidOff, by decide, by decide, by decide +kernel⟩⟩
theorem ok_X9_init : okI yX9_init cX9_init 1 0 := ⟨⟨wm_im_X9_init, rfl⟩, ⟨wm_in_X9, wm_co_X9_init, by decide, by decide, by decide +kernel⟩⟩
theorem ok_X9_item : okV yX9_item cX9_item 4 (some .int) 2 := ⟨⟨wm_im_X9_item, wm_se_X9_item⟩, ⟨wm_in_X9, wm_co_X9_item, by decide, by decide, by decide +kernel⟩⟩
theorem ok_X9_leave : okV yX9_leave cX9_leave 2 (some .int) 1 := ⟨⟨wm_im_X9_leave, wm_se_X9_leave⟩, ⟨wm_in_X9, wm_co_X9_leave, by decide, by decide, by decide +kernel⟩⟩
theorem ok_X9_most : okV yX9_most cX9_most 3 (some .int) 2 := ⟨⟨wm_im_X9_most, wm_se_X9_most⟩, ⟨wm_in_X9, wm_co_X9_most, by decide, by decide, by decide +kernel⟩⟩
theorem ok_X9_newTrial : okV yX9_newTrial cX9_newTrial 1 (some (.object "PurserLedgers$Books")) 0 := ⟨⟨wm_im_X9_newTrial, wm_se_X9_newTrial⟩, ⟨wm_in_X9, wm_co_X9_newTrial, by decide, by decide, by decide +kernel⟩⟩
theorem ok_X9_payOff : okV yX9_payOff cX9_payOff 1 (some .int) 0 := ⟨⟨wm_im_X9_payOff, wm_se_X9_payOff⟩, ⟨wm_in_X9, wm_co_X9_payOff, by decide, by decide, by decide +kernel⟩⟩
theorem ok_X9_play : okV yX9_play cX9_play 1 (some .int) 0 := ⟨⟨wm_im_X9_play, wm_se_X9_play⟩, ⟨wm_in_X9, wm_co_X9_play, by decide, by decide, by decide +kernel⟩⟩
theorem ok_X9_poorest : okV yX9_poorest cX9_poorest 2 (some .int) 1 := ⟨⟨wm_im_X9_poorest, wm_se_X9_poorest⟩, ⟨wm_in_X9, wm_co_X9_poorest, by decide, by decide, by decide +kernel⟩⟩
theorem ok_X9_port : okV yX9_port cX9_port 1 (some .int) 0 := ⟨⟨wm_im_X9_port, wm_se_X9_port⟩, ⟨wm_in_X9, wm_co_X9_port, by decide, by decide, by decide +kernel⟩⟩
theorem ok_X9_sail : okV yX9_sail cX9_sail 1 (some .int) 0 := ⟨⟨wm_im_X9_sail, wm_se_X9_sail⟩, ⟨wm_in_X9, wm_co_X9_sail, by decide, by decide, by decide +kernel⟩⟩
theorem ok_X9_sailor : okV yX9_sailor cX9_sailor 4 (some .int) 2 := ⟨⟨wm_im_X9_sailor, wm_se_X9_sailor⟩, ⟨wm_in_X9, wm_co_X9_sailor, by decide, by decide, by decide +kernel⟩⟩
theorem ok_X9_sell : okV yX9_sell cX9_sell 4 (some .int) 3 := ⟨⟨wm_im_X9_sell, wm_se_X9_sell⟩, ⟨wm_in_X9, wm_co_X9_sell, by decide, by decide, by decide +kernel⟩⟩
theorem ok_X9_set : okV yX9_set cX9_set 3 (some .int) 2 := ⟨⟨wm_im_X9_set, wm_se_X9_set⟩, ⟨wm_in_X9, wm_co_X9_set, by decide, by decide, by decide +kernel⟩⟩
theorem ok_X9_settleTrial : okV yX9_settleTrial cX9_settleTrial 2 (some .int) 1 := ⟨⟨wm_im_X9_settleTrial, wm_se_X9_settleTrial⟩, ⟨wm_in_X9, wm_co_X9_settleTrial, by decide, by decide, by decide +kernel⟩⟩
theorem ok_X9_share : okV yX9_share cX9_share 1 (some .int) 0 := ⟨⟨wm_im_X9_share, wm_se_X9_share⟩, ⟨wm_in_X9, wm_co_X9_share, by decide, by decide, by decide +kernel⟩⟩
theorem ok_X9_sign : okV yX9_sign cX9_sign 3 (some .int) 2 := ⟨⟨wm_im_X9_sign, wm_se_X9_sign⟩, ⟨wm_in_X9, wm_co_X9_sign, by decide, by decide, by decide +kernel⟩⟩
theorem ok_X9_stock : okV yX9_stock cX9_stock 4 (some .int) 3 := ⟨⟨wm_im_X9_stock, wm_se_X9_stock⟩, ⟨wm_in_X9, wm_co_X9_stock, by decide, by decide, by decide +kernel⟩⟩
theorem ok_X9_type : okV yX9_type cX9_type 2 (some .int) 1 := ⟨⟨wm_im_X9_type, wm_se_X9_type⟩, ⟨wm_in_X9, wm_co_X9_type, by decide, by decide, by decide +kernel⟩⟩
theorem ok_X9_undo : okV yX9_undo cX9_undo 1 (some .int) 0 := ⟨⟨wm_im_X9_undo, wm_se_X9_undo⟩, ⟨wm_in_X9, wm_co_X9_undo, by decide, by decide, by decide +kernel⟩⟩
theorem ok_X9_why : okV yX9_why cX9_why 4 (some .int) 3 := ⟨⟨wm_im_X9_why, wm_se_X9_why⟩, ⟨wm_in_X9, wm_co_X9_why, by decide, by decide, by decide +kernel⟩⟩
theorem ok_X9_within : okS yX9_within cX9_within 3 (some .boolean) 3 := ⟨wm_st_X9_within, ⟨wm_in_X9, wm_co_X9_within, by decide, by decide, by decide +kernel⟩⟩
end
section
/-! THE BOOKS AS NUMBERS: what each call answers and leaves, said of z alone -/
def zWages (r a b : Int32) : Int32 := if r = 0 then (a + b) / 2 else if r = 1 then 2 * a + b else if r = 2 then 2 * (a + b) + (a + b) / 7 else 4 * a + 2 * b
def zEarn (z : Zt) (k : Nat) : Int32 := zWages (z (10 * k)) (z (10 * k + 3)) (z (10 * k + 4))
def zChg (z : Zt) (k : Nat) : Int32 := z (10 * k + 5) + z (10 * k + 6) + z (10 * k + 7)
def zBal (z : Zt) (k : Nat) : Int32 := if z (10 * k + 2) = 2 then 0 else zEarn z k + z (10 * k + 8) - zChg z k
def zSpend (z : Zt) (x : Int32) : Zt := upd (upd z 196 (z 196 + (if z 195 < x then x - z 195 else 0))) 195 (if z 195 < x then 0 else z 195 - x)
/-- the book's rows move on by one, down to the place lo -/
def zShift (z : Zt) (lo : Nat) : Zt := fun i => if 207 + lo ≤ i ∧ i < 231 then z (i - 3) else z i
def zWrite (z : Zt) (a kind x : Int32) : Zt := if x = 0 then z else upd (upd (upd (upd (zShift z 3) 207 a) 208 kind) 209 x) 206 (z 206 + (if z 206 < 8 then 1 else 0))
theorem zShift_top (z : Zt) : zShift z 24 = z := by
  funext i; unfold zShift; rw [if_neg (by omega)]
theorem zShift_step (z : Zt) {lo : Nat} (h : 3 ≤ lo) (h2 : lo < 24) : upd (zShift z (lo + 1)) (207 + lo) (zShift z (lo + 1) (207 + lo - 3)) = zShift z lo := by
  funext i; simp only [zShift, upd]
  by_cases h1 : i = 207 + lo
  · subst h1; rw [if_pos rfl, if_neg (by omega), if_pos (by omega)]
  · rw [if_neg h1]
    by_cases h3 : 207 + lo ≤ i ∧ i < 231
    · rw [if_pos h3, if_pos (by omega)]
    · rw [if_neg h3, if_neg (by omega)]
def zClear (z : Zt) (k : Nat) : Zt := fun i => if 10 * k + 3 ≤ i ∧ i ≤ 10 * k + 8 then 0 else z i
end
section
set_option maxHeartbeats 4000000 in
set_option maxRecDepth 100000 in
theorem c_X10_in (l : Launch) (K : KT) (sz : Nat) (v : Int32) (lo : Int32) (hi : Int32) (V : VW)  : Ct l K yX10_in cX10_in 3 (some .boolean) 0 [.int v, .int lo, .int hi] V sz (some (.int (b2 (lo ≤ v ∧ v ≤ hi)))) V sz 0 0 := by
  refine Ct.ofG (by decide) (Nat.le_of_ble_eq_true rfl) ?_
  intro p9 e9 s9 m9 a9 b9 t9 c9 cx hin9
  refine G.lv0 (lv2 := [(0, .int v), (1, .int lo), (2, .int hi)]) rfl ?_
  refine G.iload_n (pc := 0) cx dX10_in_0 rfl 0 rfl ?_
  refine G.iload_n (pc := 1) cx dX10_in_1 rfl 1 rfl ?_
  refine G.icmp_lt (pc := 2) cx dX10_in_2 (tgt := 14) (by decide) (fun c2 => ?_) (fun c2 => ?_)
  · skip
    refine G.iconst (pc := 14) cx dX10_in_14 (v := 0) (by decide) ?_
    refine G.zret (pc := 15) cx rfl dX10_in_15 rfl ?_ ?_ rfl
    · refine congrArg (fun x => some (Value.int x)) ?_
      first | rfl | (refine b2_t ?_; grind) | (refine b2_f ?_; grind) | (simp [*, b2, Int32.not_lt, Int32.not_le]; done) | (simp_all [b2, Int32.not_lt, Int32.not_le]; done) | grind [b2, Int32.not_lt, Int32.not_le]
    · rfl
  · skip
    refine G.iload_n (pc := 5) cx dX10_in_5 rfl 0 rfl ?_
    refine G.iload_n (pc := 6) cx dX10_in_6 rfl 2 rfl ?_
    refine G.icmp_gt (pc := 7) cx dX10_in_7 (tgt := 14) (by decide) (fun c7 => ?_) (fun c7 => ?_)
    · skip
      refine G.iconst (pc := 14) cx dX10_in_14 (v := 0) (by decide) ?_
      refine G.zret (pc := 15) cx rfl dX10_in_15 rfl ?_ ?_ rfl
      · refine congrArg (fun x => some (Value.int x)) ?_
        first | rfl | (refine b2_t ?_; grind) | (refine b2_f ?_; grind) | (simp [*, b2, Int32.not_lt, Int32.not_le]; done) | (simp_all [b2, Int32.not_lt, Int32.not_le]; done) | grind [b2, Int32.not_lt, Int32.not_le]
      · rfl
    · skip
      refine G.iconst (pc := 10) cx dX10_in_10 (v := 1) (by decide) ?_
      refine G.goto (pc := 11) cx dX10_in_11 (tgt := 15) (by decide) ?_
      refine G.zret (pc := 15) cx rfl dX10_in_15 rfl ?_ ?_ rfl
      · refine congrArg (fun x => some (Value.int x)) ?_
        first | rfl | (refine b2_t ?_; grind) | (refine b2_f ?_; grind) | (simp [*, b2, Int32.not_lt, Int32.not_le]; done) | (simp_all [b2, Int32.not_lt, Int32.not_le]; done) | grind [b2, Int32.not_lt, Int32.not_le]
      · rfl
set_option maxHeartbeats 4000000 in
set_option maxRecDepth 100000 in
theorem c_X10_of (l : Launch) (K : KT) (sz : Nat) (o : Nat) (z : Zt) (r : Rt) (V : VW) (k : Nat) (w : Nat) (h : 10 * k + w < 231) : Ct l K yX10_of cX10_of 3 (some .int) 0 [.ref o, .int (nI k), .int (nI w)] (mw K o z r V) sz (some (.int (z (10 * k + w)))) (mw K o z r V) sz 0 0 := by
  refine Ct.ofG (by decide) (Nat.le_of_ble_eq_true rfl) ?_
  intro p9 e9 s9 m9 a9 b9 t9 c9 cx hin9
  refine G.lv0 (lv2 := [(0, .ref o), (1, .int (nI k)), (2, .int (nI w))]) rfl ?_
  refine G.aload_n (pc := 0) cx dX10_of_0 rfl 0 rfl ?_
  refine G.getM (pc := 1) cx dX10_of_1 0 wm_fl_X10_7 (by decide) rfl ?_
  refine G.bipush (pc := 4) cx dX10_of_4 (v := 10) (by decide) ?_
  refine G.iload_n (pc := 6) cx dX10_of_6 rfl 1 rfl ?_
  refine G.imulN (pc := 7) cx dX10_of_7 10 k ?_
  refine G.iload_n (pc := 8) cx dX10_of_8 rfl 2 rfl ?_
  refine G.iaddN (pc := 9) cx dX10_of_9 (10 * k) w ?_
  refine G.ialdV (pc := 10) cx dX10_of_10 mw_z (j := ((10 * k) + w)) rfl (by omega) (by decide) (cut_at (by omega)) ?_
  refine G.iret (pc := 11) cx rfl dX10_of_11 ?_ ?_ rfl
  · refine congrArg (fun x => some (Value.int x)) ?_
    first | rfl | (refine b2_t ?_; grind) | (refine b2_f ?_; grind) | (simp [*]; done) | (simp_all; done) | grind
  · rfl
set_option maxHeartbeats 4000000 in
set_option maxRecDepth 100000 in
theorem c_X10_put (l : Launch) (K : KT) (sz : Nat) (o : Nat) (z : Zt) (r : Rt) (V : VW) (k : Nat) (w : Nat) (x : Int32) (h : 10 * k + w < 231) : Ct l K yX10_put cX10_put 4 none 0 [.ref o, .int (nI k), .int (nI w), .int x] (mw K o z r V) sz none (mw K o (upd z (10 * k + w) x) r V) sz 0 0 := by
  refine Ct.ofG (by decide) (Nat.le_of_ble_eq_true rfl) ?_
  intro p9 e9 s9 m9 a9 b9 t9 c9 cx hin9
  refine G.lv0 (lv2 := [(0, .ref o), (1, .int (nI k)), (2, .int (nI w)), (3, .int x)]) rfl ?_
  refine G.aload_n (pc := 0) cx dX10_put_0 rfl 0 rfl ?_
  refine G.getM (pc := 1) cx dX10_put_1 0 wm_fl_X10_7 (by decide) rfl ?_
  refine G.bipush (pc := 4) cx dX10_put_4 (v := 10) (by decide) ?_
  refine G.iload_n (pc := 6) cx dX10_put_6 rfl 1 rfl ?_
  refine G.imulN (pc := 7) cx dX10_put_7 10 k ?_
  refine G.iload_n (pc := 8) cx dX10_put_8 rfl 2 rfl ?_
  refine G.iaddN (pc := 9) cx dX10_put_9 (10 * k) w ?_
  refine G.iload_n (pc := 10) cx dX10_put_10 rfl 3 rfl ?_
  refine G.iastC (pc := 11) cx dX10_put_11 mw_z (j := ((10 * k) + w)) rfl (by omega) (by decide) mwZ ?_
  refine G.vret (pc := 12) cx rfl dX10_put_12 rfl ?_ rfl
  · refine congrArg (fun x => mw K o x r V) ?_
    first | rfl | (refine b2_t ?_; grind) | (refine b2_f ?_; grind) | (simp [*]; done) | (simp_all; done) | grind
set_option maxHeartbeats 4000000 in
set_option maxRecDepth 100000 in
theorem c_X10_ofItem (l : Launch) (K : KT) (sz : Nat) (o : Nat) (z : Zt) (r : Rt) (V : VW) (k : Nat) (w : Nat) (h : 160 + 5 * k + w < 231) : Ct l K yX10_ofItem cX10_ofItem 3 (some .int) 0 [.ref o, .int (nI k), .int (nI w)] (mw K o z r V) sz (some (.int (z (160 + 5 * k + w)))) (mw K o z r V) sz 0 0 := by
  refine Ct.ofG (by decide) (Nat.le_of_ble_eq_true rfl) ?_
  intro p9 e9 s9 m9 a9 b9 t9 c9 cx hin9
  refine G.lv0 (lv2 := [(0, .ref o), (1, .int (nI k)), (2, .int (nI w))]) rfl ?_
  refine G.aload_n (pc := 0) cx dX10_ofItem_0 rfl 0 rfl ?_
  refine G.getM (pc := 1) cx dX10_ofItem_1 0 wm_fl_X10_7 (by decide) rfl ?_
  refine G.sipush (pc := 4) cx dX10_ofItem_4 (v := 160) (by decide) ?_
  refine G.iconst (pc := 7) cx dX10_ofItem_7 (v := 5) (by decide) ?_
  refine G.iload_n (pc := 8) cx dX10_ofItem_8 rfl 1 rfl ?_
  refine G.imulN (pc := 9) cx dX10_ofItem_9 5 k ?_
  refine G.iaddN (pc := 10) cx dX10_ofItem_10 160 (5 * k) ?_
  refine G.iload_n (pc := 11) cx dX10_ofItem_11 rfl 2 rfl ?_
  refine G.iaddN (pc := 12) cx dX10_ofItem_12 (160 + (5 * k)) w ?_
  refine G.ialdV (pc := 13) cx dX10_ofItem_13 mw_z (j := ((160 + (5 * k)) + w)) rfl (by omega) (by decide) (cut_at (by omega)) ?_
  refine G.iret (pc := 14) cx rfl dX10_ofItem_14 ?_ ?_ rfl
  · refine congrArg (fun x => some (Value.int x)) ?_
    first | rfl | (refine b2_t ?_; grind) | (refine b2_f ?_; grind) | (simp [*]; done) | (simp_all; done) | grind
  · rfl
set_option maxHeartbeats 4000000 in
set_option maxRecDepth 100000 in
theorem c_X10_isAtSea (l : Launch) (K : KT) (sz : Nat) (o : Nat) (z : Zt) (r : Rt) (V : VW)  : Ct l K yX10_isAtSea cX10_isAtSea 1 (some .boolean) 0 [.ref o] (mw K o z r V) sz (some (.int (b2 (z 191 = 1)))) (mw K o z r V) sz 0 0 := by
  refine Ct.ofG (by decide) (Nat.le_of_ble_eq_true rfl) ?_
  intro p9 e9 s9 m9 a9 b9 t9 c9 cx hin9
  refine G.lv0 (lv2 := [(0, .ref o)]) rfl ?_
  refine G.aload_n (pc := 0) cx dX10_isAtSea_0 rfl 0 rfl ?_
  refine G.getM (pc := 1) cx dX10_isAtSea_1 0 wm_fl_X10_7 (by decide) rfl ?_
  refine G.sipush (pc := 4) cx dX10_isAtSea_4 (v := 191) (by decide) ?_
  refine G.ialdV (pc := 7) cx dX10_isAtSea_7 mw_z (j := 191) rfl (by omega) (by decide) (cut_at (by omega)) ?_
  refine G.iconst (pc := 8) cx dX10_isAtSea_8 (v := 1) (by decide) ?_
  refine G.icmp_ne (pc := 9) cx dX10_isAtSea_9 (tgt := 16) (by decide) (fun c9 => ?_) (fun c9 => ?_)
  · skip
    refine G.iconst (pc := 16) cx dX10_isAtSea_16 (v := 0) (by decide) ?_
    refine G.zret (pc := 17) cx rfl dX10_isAtSea_17 rfl ?_ ?_ rfl
    · refine congrArg (fun x => some (Value.int x)) ?_
      first | rfl | (refine b2_t ?_; grind) | (refine b2_f ?_; grind) | (simp [*, b2]; done) | (simp_all [b2]; done) | grind [b2]
    · rfl
  · skip
    refine G.iconst (pc := 12) cx dX10_isAtSea_12 (v := 1) (by decide) ?_
    refine G.goto (pc := 13) cx dX10_isAtSea_13 (tgt := 17) (by decide) ?_
    refine G.zret (pc := 17) cx rfl dX10_isAtSea_17 rfl ?_ ?_ rfl
    · refine congrArg (fun x => some (Value.int x)) ?_
      first | rfl | (refine b2_t ?_; grind) | (refine b2_f ?_; grind) | (simp [*, b2]; done) | (simp_all [b2]; done) | grind [b2]
    · rfl
set_option maxHeartbeats 4000000 in
set_option maxRecDepth 100000 in
theorem c_X10_isGone (l : Launch) (K : KT) (sz : Nat) (o : Nat) (z : Zt) (r : Rt) (V : VW) (k : Nat) (h : k < 16) : Ct l K yX10_isGone cX10_isGone 2 (some .boolean) 1 [.ref o, .int (nI k)] (mw K o z r V) sz (some (.int (b2 (z (10 * k + 2) = 2)))) (mw K o z r V) sz 0 0 := by
  refine Ct.ofG (by decide) (Nat.le_of_ble_eq_true rfl) ?_
  intro p9 e9 s9 m9 a9 b9 t9 c9 cx hin9
  refine G.lv0 (lv2 := [(0, .ref o), (1, .int (nI k))]) rfl ?_
  refine G.aload_n (pc := 0) cx dX10_isGone_0 rfl 0 rfl ?_
  refine G.iload_n (pc := 1) cx dX10_isGone_1 rfl 1 rfl ?_
  refine G.iconst (pc := 2) cx dX10_isGone_2 (v := 2) (by decide) ?_
  refine G.callV0 (pc := 3) (rest := []) (st1 := [.int (z (10 * k + 2))]) cx (c_X10_of l K sz o z r V k 2 (by omega)) ok_X10_of dX10_isGone_3 wm_ml_X10_29 rfl mw_m rfl rfl (Nat.le_of_ble_eq_true rfl) ⟨Nat.le_of_ble_eq_true rfl, Nat.le_of_ble_eq_true rfl⟩ rfl ?_
  refine G.iconst (pc := 6) cx dX10_isGone_6 (v := 2) (by decide) ?_
  refine G.icmp_ne (pc := 7) cx dX10_isGone_7 (tgt := 14) (by decide) (fun c7 => ?_) (fun c7 => ?_)
  · skip
    refine G.iconst (pc := 14) cx dX10_isGone_14 (v := 0) (by decide) ?_
    refine G.zret (pc := 15) cx rfl dX10_isGone_15 rfl ?_ ?_ rfl
    · refine congrArg (fun x => some (Value.int x)) ?_
      first | rfl | (refine b2_t ?_; grind) | (refine b2_f ?_; grind) | (simp [*, b2]; done) | (simp_all [b2]; done) | grind [b2]
    · rfl
  · skip
    refine G.iconst (pc := 10) cx dX10_isGone_10 (v := 1) (by decide) ?_
    refine G.goto (pc := 11) cx dX10_isGone_11 (tgt := 15) (by decide) ?_
    refine G.zret (pc := 15) cx rfl dX10_isGone_15 rfl ?_ ?_ rfl
    · refine congrArg (fun x => some (Value.int x)) ?_
      first | rfl | (refine b2_t ?_; grind) | (refine b2_f ?_; grind) | (simp [*, b2]; done) | (simp_all [b2]; done) | grind [b2]
    · rfl
set_option maxHeartbeats 4000000 in
set_option maxRecDepth 100000 in
theorem c_X10_isSailor (l : Launch) (K : KT) (sz : Nat) (o : Nat) (z : Zt) (r : Rt) (V : VW) (a : Int32)  : Ct l K yX10_isSailor cX10_isSailor 2 (some .boolean) 1 [.ref o, .int a] (mw K o z r V) sz (some (.int (b2 (0 ≤ a ∧ a ≤ z 194 - 1)))) (mw K o z r V) sz 0 0 := by
  refine Ct.ofG (by decide) (Nat.le_of_ble_eq_true rfl) ?_
  intro p9 e9 s9 m9 a9 b9 t9 c9 cx hin9
  refine G.lv0 (lv2 := [(0, .ref o), (1, .int a)]) rfl ?_
  refine G.iload_n (pc := 0) cx dX10_isSailor_0 rfl 1 rfl ?_
  refine G.iconst (pc := 1) cx dX10_isSailor_1 (v := 0) (by decide) ?_
  refine G.aload_n (pc := 2) cx dX10_isSailor_2 rfl 0 rfl ?_
  refine G.getM (pc := 3) cx dX10_isSailor_3 0 wm_fl_X10_7 (by decide) rfl ?_
  refine G.sipush (pc := 6) cx dX10_isSailor_6 (v := 194) (by decide) ?_
  refine G.ialdV (pc := 9) cx dX10_isSailor_9 mw_z (j := 194) rfl (by omega) (by decide) (cut_at (by omega)) ?_
  refine G.iconst (pc := 10) cx dX10_isSailor_10 (v := 1) (by decide) ?_
  refine G.isub (pc := 11) cx dX10_isSailor_11 ?_
  refine G.callS0 (pc := 12) (rest := []) (st1 := [.int (b2 (0 ≤ a ∧ a ≤ ((z 194) - 1)))]) cx (c_X10_in l K sz a 0 ((z 194) - 1) (mw K o z r V)) ok_X10_in dX10_isSailor_12 wm_ml_X10_25 rfl rfl (Nat.le_of_ble_eq_true rfl) ⟨Nat.le_of_ble_eq_true rfl, Nat.le_of_ble_eq_true rfl⟩ rfl ?_
  refine G.zret (pc := 15) cx rfl dX10_isSailor_15 b2_narrow ?_ ?_ rfl
  · refine congrArg (fun x => some (Value.int x)) ?_
    first | rfl | (refine b2_t ?_; grind) | (refine b2_f ?_; grind) | (simp [*]; done) | (simp_all; done) | grind
  · rfl
set_option maxHeartbeats 4000000 in
set_option maxRecDepth 100000 in
theorem c_X10_isItem (l : Launch) (K : KT) (sz : Nat) (a : Int32) (V : VW)  : Ct l K yX10_isItem cX10_isItem 1 (some .boolean) 1 [.int a] V sz (some (.int (b2 (0 ≤ a ∧ a ≤ 5)))) V sz 0 0 := by
  refine Ct.ofG (by decide) (Nat.le_of_ble_eq_true rfl) ?_
  intro p9 e9 s9 m9 a9 b9 t9 c9 cx hin9
  refine G.lv0 (lv2 := [(0, .int a)]) rfl ?_
  refine G.iload_n (pc := 0) cx dX10_isItem_0 rfl 0 rfl ?_
  refine G.iconst (pc := 1) cx dX10_isItem_1 (v := 0) (by decide) ?_
  refine G.iconst (pc := 2) cx dX10_isItem_2 (v := 5) (by decide) ?_
  refine G.callS0 (pc := 3) (rest := []) (st1 := [.int (b2 (0 ≤ a ∧ a ≤ 5))]) cx (c_X10_in l K sz a 0 5 V) ok_X10_in dX10_isItem_3 wm_ml_X10_25 rfl rfl (Nat.le_of_ble_eq_true rfl) ⟨Nat.le_of_ble_eq_true rfl, Nat.le_of_ble_eq_true rfl⟩ rfl ?_
  refine G.zret (pc := 6) cx rfl dX10_isItem_6 b2_narrow ?_ ?_ rfl
  · rfl
  · rfl
set_option maxHeartbeats 4000000 in
set_option maxRecDepth 100000 in
theorem c_X10_wages (l : Launch) (K : KT) (sz : Nat) (q : Int32) (x : Int32) (y : Int32) (V : VW)  : Ct l K yX10_wages cX10_wages 4 (some .int) 0 [.int q, .int x, .int y] V sz (some (.int (zWages q x y))) V sz 0 0 := by
  refine Ct.ofG (by decide) (Nat.le_of_ble_eq_true rfl) ?_
  intro p9 e9 s9 m9 a9 b9 t9 c9 cx hin9
  refine G.lv0 (lv2 := [(0, .int q), (1, .int x), (2, .int y)]) rfl ?_
  refine G.iload_n (pc := 0) cx dX10_wages_0 rfl 1 rfl ?_
  refine G.iload_n (pc := 1) cx dX10_wages_1 rfl 2 rfl ?_
  refine G.iadd (pc := 2) cx dX10_wages_2 ?_
  refine G.istore_n (pc := 3) cx dX10_wages_3 rfl (by decide) rfl ?_
  refine G.iload_n (pc := 4) cx dX10_wages_4 rfl 1 rfl ?_
  refine G.if_ne (pc := 5) cx dX10_wages_5 (tgt := 14) (by decide) (fun c5 => ?_) (fun c5 => ?_)
  · skip
    refine G.iload_n (pc := 14) cx dX10_wages_14 rfl 1 rfl ?_
    refine G.iconst (pc := 15) cx dX10_wages_15 (v := 1) (by decide) ?_
    refine G.icmp_ne (pc := 16) cx dX10_wages_16 (tgt := 27) (by decide) (fun c16 => ?_) (fun c16 => ?_)
    · skip
      refine G.iload_n (pc := 27) cx dX10_wages_27 rfl 1 rfl ?_
      refine G.iconst (pc := 28) cx dX10_wages_28 (v := 2) (by decide) ?_
      refine G.icmp_ne (pc := 29) cx dX10_wages_29 (tgt := 43) (by decide) (fun c29 => ?_) (fun c29 => ?_)
      · skip
        refine G.iconst (pc := 43) cx dX10_wages_43 (v := 4) (by decide) ?_
        refine G.iload_n (pc := 44) cx dX10_wages_44 rfl 2 rfl ?_
        refine G.imul (pc := 45) cx dX10_wages_45 ?_
        refine G.iconst (pc := 46) cx dX10_wages_46 (v := 2) (by decide) ?_
        refine G.iload_n (pc := 47) cx dX10_wages_47 rfl 3 rfl ?_
        refine G.imul (pc := 48) cx dX10_wages_48 ?_
        refine G.iadd (pc := 49) cx dX10_wages_49 ?_
        refine G.iret (pc := 50) cx rfl dX10_wages_50 ?_ ?_ rfl
        · refine congrArg (fun x => some (Value.int x)) ?_
          first | rfl | (refine b2_t ?_; grind) | (refine b2_f ?_; grind) | (simp [*, zWages]; done) | (simp_all [zWages]; done) | grind [zWages]
        · rfl
      · skip
        refine G.iconst (pc := 32) cx dX10_wages_32 (v := 2) (by decide) ?_
        refine G.iload_n (pc := 33) cx dX10_wages_33 rfl 0 rfl ?_
        refine G.imul (pc := 34) cx dX10_wages_34 ?_
        refine G.iload_n (pc := 35) cx dX10_wages_35 rfl 0 rfl ?_
        refine G.bipush (pc := 36) cx dX10_wages_36 (v := 7) (by decide) ?_
        refine G.idiv (pc := 38) cx dX10_wages_38 (by decide) ?_
        refine G.iadd (pc := 39) cx dX10_wages_39 ?_
        refine G.goto (pc := 40) cx dX10_wages_40 (tgt := 50) (by decide) ?_
        refine G.iret (pc := 50) cx rfl dX10_wages_50 ?_ ?_ rfl
        · refine congrArg (fun x => some (Value.int x)) ?_
          first | rfl | (refine b2_t ?_; grind) | (refine b2_f ?_; grind) | (simp [*, zWages]; done) | (simp_all [zWages]; done) | grind [zWages]
        · rfl
    · skip
      refine G.iconst (pc := 19) cx dX10_wages_19 (v := 2) (by decide) ?_
      refine G.iload_n (pc := 20) cx dX10_wages_20 rfl 2 rfl ?_
      refine G.imul (pc := 21) cx dX10_wages_21 ?_
      refine G.iload_n (pc := 22) cx dX10_wages_22 rfl 3 rfl ?_
      refine G.iadd (pc := 23) cx dX10_wages_23 ?_
      refine G.goto (pc := 24) cx dX10_wages_24 (tgt := 50) (by decide) ?_
      refine G.iret (pc := 50) cx rfl dX10_wages_50 ?_ ?_ rfl
      · refine congrArg (fun x => some (Value.int x)) ?_
        first | rfl | (refine b2_t ?_; grind) | (refine b2_f ?_; grind) | (simp [*, zWages]; done) | (simp_all [zWages]; done) | grind [zWages]
      · rfl
  · skip
    refine G.iload_n (pc := 8) cx dX10_wages_8 rfl 0 rfl ?_
    refine G.iconst (pc := 9) cx dX10_wages_9 (v := 2) (by decide) ?_
    refine G.idiv (pc := 10) cx dX10_wages_10 (by decide) ?_
    refine G.goto (pc := 11) cx dX10_wages_11 (tgt := 50) (by decide) ?_
    refine G.iret (pc := 50) cx rfl dX10_wages_50 ?_ ?_ rfl
    · refine congrArg (fun x => some (Value.int x)) ?_
      first | rfl | (refine b2_t ?_; grind) | (refine b2_f ?_; grind) | (simp [*, zWages]; done) | (simp_all [zWages]; done) | grind [zWages]
    · rfl
set_option maxHeartbeats 4000000 in
set_option maxRecDepth 100000 in
theorem c_X10_earned (l : Launch) (K : KT) (sz : Nat) (o : Nat) (z : Zt) (r : Rt) (V : VW) (k : Nat) (h : k < 16) : Ct l K yX10_earned cX10_earned 2 (some .int) 1 [.ref o, .int (nI k)] (mw K o z r V) sz (some (.int (zEarn z k))) (mw K o z r V) sz 0 0 := by
  refine Ct.ofG (by decide) (Nat.le_of_ble_eq_true rfl) ?_
  intro p9 e9 s9 m9 a9 b9 t9 c9 cx hin9
  refine G.lv0 (lv2 := [(0, .ref o), (1, .int (nI k))]) rfl ?_
  refine G.aload_n (pc := 0) cx dX10_earned_0 rfl 0 rfl ?_
  refine G.iload_n (pc := 1) cx dX10_earned_1 rfl 1 rfl ?_
  refine G.iconst (pc := 2) cx dX10_earned_2 (v := 0) (by decide) ?_
  refine G.callV0 (pc := 3) (rest := []) (st1 := [.int (z (10 * k + 0))]) cx (c_X10_of l K sz o z r V k 0 (by omega)) ok_X10_of dX10_earned_3 wm_ml_X10_29 rfl mw_m rfl rfl (Nat.le_of_ble_eq_true rfl) ⟨Nat.le_of_ble_eq_true rfl, Nat.le_of_ble_eq_true rfl⟩ rfl ?_
  refine G.aload_n (pc := 6) cx dX10_earned_6 rfl 0 rfl ?_
  refine G.iload_n (pc := 7) cx dX10_earned_7 rfl 1 rfl ?_
  refine G.iconst (pc := 8) cx dX10_earned_8 (v := 3) (by decide) ?_
  refine G.callV0 (pc := 9) (rest := [.int (z (10 * k + 0))]) (st1 := [.int (z (10 * k + 3)), .int (z (10 * k + 0))]) cx (c_X10_of l K sz o z r V k 3 (by omega)) ok_X10_of dX10_earned_9 wm_ml_X10_29 rfl mw_m rfl rfl (Nat.le_of_ble_eq_true rfl) ⟨Nat.le_of_ble_eq_true rfl, Nat.le_of_ble_eq_true rfl⟩ rfl ?_
  refine G.aload_n (pc := 12) cx dX10_earned_12 rfl 0 rfl ?_
  refine G.iload_n (pc := 13) cx dX10_earned_13 rfl 1 rfl ?_
  refine G.iconst (pc := 14) cx dX10_earned_14 (v := 4) (by decide) ?_
  refine G.callV0 (pc := 15) (rest := [.int (z (10 * k + 3)), .int (z (10 * k + 0))]) (st1 := [.int (z (10 * k + 4)), .int (z (10 * k + 3)), .int (z (10 * k + 0))]) cx (c_X10_of l K sz o z r V k 4 (by omega)) ok_X10_of dX10_earned_15 wm_ml_X10_29 rfl mw_m rfl rfl (Nat.le_of_ble_eq_true rfl) ⟨Nat.le_of_ble_eq_true rfl, Nat.le_of_ble_eq_true rfl⟩ rfl ?_
  refine G.callS0 (pc := 18) (rest := []) (st1 := [.int (zWages (z (10 * k + 0)) (z (10 * k + 3)) (z (10 * k + 4)))]) cx (c_X10_wages l K sz (z (10 * k + 0)) (z (10 * k + 3)) (z (10 * k + 4)) (mw K o z r V)) ok_X10_wages dX10_earned_18 wm_ml_X10_38 rfl rfl (Nat.le_of_ble_eq_true rfl) ⟨Nat.le_of_ble_eq_true rfl, Nat.le_of_ble_eq_true rfl⟩ rfl ?_
  refine G.iret (pc := 21) cx rfl dX10_earned_21 ?_ ?_ rfl
  · refine congrArg (fun x => some (Value.int x)) ?_
    first | rfl | (refine b2_t ?_; grind) | (refine b2_f ?_; grind) | (simp [*]; done) | (simp_all; done) | grind
  · rfl
set_option maxHeartbeats 4000000 in
set_option maxRecDepth 100000 in
theorem c_X10_charged (l : Launch) (K : KT) (sz : Nat) (o : Nat) (z : Zt) (r : Rt) (V : VW) (k : Nat) (h : k < 16) : Ct l K yX10_charged cX10_charged 2 (some .int) 1 [.ref o, .int (nI k)] (mw K o z r V) sz (some (.int (zChg z k))) (mw K o z r V) sz 0 0 := by
  refine Ct.ofG (by decide) (Nat.le_of_ble_eq_true rfl) ?_
  intro p9 e9 s9 m9 a9 b9 t9 c9 cx hin9
  refine G.lv0 (lv2 := [(0, .ref o), (1, .int (nI k))]) rfl ?_
  refine G.aload_n (pc := 0) cx dX10_charged_0 rfl 0 rfl ?_
  refine G.iload_n (pc := 1) cx dX10_charged_1 rfl 1 rfl ?_
  refine G.iconst (pc := 2) cx dX10_charged_2 (v := 5) (by decide) ?_
  refine G.callV0 (pc := 3) (rest := []) (st1 := [.int (z (10 * k + 5))]) cx (c_X10_of l K sz o z r V k 5 (by omega)) ok_X10_of dX10_charged_3 wm_ml_X10_29 rfl mw_m rfl rfl (Nat.le_of_ble_eq_true rfl) ⟨Nat.le_of_ble_eq_true rfl, Nat.le_of_ble_eq_true rfl⟩ rfl ?_
  refine G.aload_n (pc := 6) cx dX10_charged_6 rfl 0 rfl ?_
  refine G.iload_n (pc := 7) cx dX10_charged_7 rfl 1 rfl ?_
  refine G.bipush (pc := 8) cx dX10_charged_8 (v := 6) (by decide) ?_
  refine G.callV0 (pc := 10) (rest := [.int (z (10 * k + 5))]) (st1 := [.int (z (10 * k + 6)), .int (z (10 * k + 5))]) cx (c_X10_of l K sz o z r V k 6 (by omega)) ok_X10_of dX10_charged_10 wm_ml_X10_29 rfl mw_m rfl rfl (Nat.le_of_ble_eq_true rfl) ⟨Nat.le_of_ble_eq_true rfl, Nat.le_of_ble_eq_true rfl⟩ rfl ?_
  refine G.iadd (pc := 13) cx dX10_charged_13 ?_
  refine G.aload_n (pc := 14) cx dX10_charged_14 rfl 0 rfl ?_
  refine G.iload_n (pc := 15) cx dX10_charged_15 rfl 1 rfl ?_
  refine G.bipush (pc := 16) cx dX10_charged_16 (v := 7) (by decide) ?_
  refine G.callV0 (pc := 18) (rest := [.int ((z (10 * k + 5)) + (z (10 * k + 6)))]) (st1 := [.int (z (10 * k + 7)), .int ((z (10 * k + 5)) + (z (10 * k + 6)))]) cx (c_X10_of l K sz o z r V k 7 (by omega)) ok_X10_of dX10_charged_18 wm_ml_X10_29 rfl mw_m rfl rfl (Nat.le_of_ble_eq_true rfl) ⟨Nat.le_of_ble_eq_true rfl, Nat.le_of_ble_eq_true rfl⟩ rfl ?_
  refine G.iadd (pc := 21) cx dX10_charged_21 ?_
  refine G.iret (pc := 22) cx rfl dX10_charged_22 ?_ ?_ rfl
  · refine congrArg (fun x => some (Value.int x)) ?_
    first | rfl | (refine b2_t ?_; grind) | (refine b2_f ?_; grind) | (simp [*]; done) | (simp_all; done) | grind
  · rfl
set_option maxHeartbeats 4000000 in
set_option maxRecDepth 100000 in
theorem c_X10_balance (l : Launch) (K : KT) (sz : Nat) (o : Nat) (z : Zt) (r : Rt) (V : VW) (k : Nat) (h : k < 16) : Ct l K yX10_balance cX10_balance 2 (some .int) 2 [.ref o, .int (nI k)] (mw K o z r V) sz (some (.int (zBal z k))) (mw K o z r V) sz 0 0 := by
  refine Ct.ofG (by decide) (Nat.le_of_ble_eq_true rfl) ?_
  intro p9 e9 s9 m9 a9 b9 t9 c9 cx hin9
  refine G.lv0 (lv2 := [(0, .ref o), (1, .int (nI k))]) rfl ?_
  refine G.aload_n (pc := 0) cx dX10_balance_0 rfl 0 rfl ?_
  refine G.iload_n (pc := 1) cx dX10_balance_1 rfl 1 rfl ?_
  refine G.callV0 (pc := 2) (rest := []) (st1 := [.int (b2 (z (10 * k + 2) = 2))]) cx (c_X10_isGone l K sz o z r V k (by omega)) ok_X10_isGone dX10_balance_2 wm_ml_X10_42 rfl mw_m rfl rfl (Nat.le_of_ble_eq_true rfl) ⟨Nat.le_of_ble_eq_true rfl, Nat.le_of_ble_eq_true rfl⟩ rfl ?_
  refine G.if_eqB (pc := 5) cx dX10_balance_5 (tgt := 12) (by decide) (fun c5 => ?_) (fun c5 => ?_)
  · skip
    refine G.aload_n (pc := 12) cx dX10_balance_12 rfl 0 rfl ?_
    refine G.iload_n (pc := 13) cx dX10_balance_13 rfl 1 rfl ?_
    refine G.callV0 (pc := 14) (rest := []) (st1 := [.int (zEarn z k)]) cx (c_X10_earned l K sz o z r V k (by omega)) ok_X10_earned dX10_balance_14 wm_ml_X10_46 rfl mw_m rfl rfl (Nat.le_of_ble_eq_true rfl) ⟨Nat.le_of_ble_eq_true rfl, Nat.le_of_ble_eq_true rfl⟩ rfl ?_
    refine G.aload_n (pc := 17) cx dX10_balance_17 rfl 0 rfl ?_
    refine G.iload_n (pc := 18) cx dX10_balance_18 rfl 1 rfl ?_
    refine G.bipush (pc := 19) cx dX10_balance_19 (v := 8) (by decide) ?_
    refine G.callV0 (pc := 21) (rest := [.int (zEarn z k)]) (st1 := [.int (z (10 * k + 8)), .int (zEarn z k)]) cx (c_X10_of l K sz o z r V k 8 (by omega)) ok_X10_of dX10_balance_21 wm_ml_X10_29 rfl mw_m rfl rfl (Nat.le_of_ble_eq_true rfl) ⟨Nat.le_of_ble_eq_true rfl, Nat.le_of_ble_eq_true rfl⟩ rfl ?_
    refine G.iadd (pc := 24) cx dX10_balance_24 ?_
    refine G.aload_n (pc := 25) cx dX10_balance_25 rfl 0 rfl ?_
    refine G.iload_n (pc := 26) cx dX10_balance_26 rfl 1 rfl ?_
    refine G.callV0 (pc := 27) (rest := [.int ((zEarn z k) + (z (10 * k + 8)))]) (st1 := [.int (zChg z k), .int ((zEarn z k) + (z (10 * k + 8)))]) cx (c_X10_charged l K sz o z r V k (by omega)) ok_X10_charged dX10_balance_27 wm_ml_X10_50 rfl mw_m rfl rfl (Nat.le_of_ble_eq_true rfl) ⟨Nat.le_of_ble_eq_true rfl, Nat.le_of_ble_eq_true rfl⟩ rfl ?_
    refine G.isub (pc := 30) cx dX10_balance_30 ?_
    refine G.iret (pc := 31) cx rfl dX10_balance_31 ?_ ?_ rfl
    · refine congrArg (fun x => some (Value.int x)) ?_
      first | rfl | (refine b2_t ?_; grind) | (refine b2_f ?_; grind) | (simp [*, zBal]; done) | (simp_all [zBal]; done) | grind [zBal]
    · rfl
  · skip
    refine G.iconst (pc := 8) cx dX10_balance_8 (v := 0) (by decide) ?_
    refine G.goto (pc := 9) cx dX10_balance_9 (tgt := 31) (by decide) ?_
    refine G.iret (pc := 31) cx rfl dX10_balance_31 ?_ ?_ rfl
    · refine congrArg (fun x => some (Value.int x)) ?_
      first | rfl | (refine b2_t ?_; grind) | (refine b2_f ?_; grind) | (simp [*, zBal]; done) | (simp_all [zBal]; done) | grind [zBal]
    · rfl
end
