-- ===== PART A: goes FIRST, ahead of the names: the tables' words, and 'selects' of the private methods out of them =====
/-- a private method of a class that the tables say can be made, by its rows of tables_1 -/
def lw_okq (q : MethodName × Nat) : Prop := (q.1.cls ≠ "java/lang/invoke/MethodHandle" ∧ q.1.cls ≠ "java/lang/invoke/VarHandle") ∧ Cond.instantiable q.1.cls q.2 ∈ tables_1 ∧ Cond.privateMethod q.1 ∈ tables_1 ∧ Cond.instanceMethod q.1 ∈ tables_1
theorem lw_p0 : lw_okq (⟨"ShareLife", "refused", "(I)Z"⟩, 20) := ⟨⟨by decide +kernel, by decide +kernel⟩, List.mem_of_getElem? (i := 28) (by decide +kernel), List.mem_of_getElem? (i := 465) (by decide +kernel), List.mem_of_getElem? (i := 466) (by decide +kernel)⟩
theorem lw_p1 : lw_okq (⟨"ShareLife", "hasAccount", "(I)Z"⟩, 20) := ⟨⟨by decide +kernel, by decide +kernel⟩, List.mem_of_getElem? (i := 28) (by decide +kernel), List.mem_of_getElem? (i := 473) (by decide +kernel), List.mem_of_getElem? (i := 474) (by decide +kernel)⟩
theorem lw_p2 : lw_okq (⟨"java/util/ArrayList", "add", "(Ljava/lang/Object;[Ljava/lang/Object;I)V"⟩, 3) := ⟨⟨by decide +kernel, by decide +kernel⟩, List.mem_of_getElem? (i := 126) (by decide +kernel), List.mem_of_getElem? (i := 554) (by decide +kernel), List.mem_of_getElem? (i := 555) (by decide +kernel)⟩
theorem lw_p3 : lw_okq (⟨"java/util/ArrayList", "grow", "()[Ljava/lang/Object;"⟩, 3) := ⟨⟨by decide +kernel, by decide +kernel⟩, List.mem_of_getElem? (i := 126) (by decide +kernel), List.mem_of_getElem? (i := 558) (by decide +kernel), List.mem_of_getElem? (i := 559) (by decide +kernel)⟩
theorem lw_p4 : lw_okq (⟨"java/util/ArrayList", "grow", "(I)[Ljava/lang/Object;"⟩, 3) := ⟨⟨by decide +kernel, by decide +kernel⟩, List.mem_of_getElem? (i := 126) (by decide +kernel), List.mem_of_getElem? (i := 562) (by decide +kernel), List.mem_of_getElem? (i := 563) (by decide +kernel)⟩
theorem lw_p5 : lw_okq (⟨"ShareLife", "tell", "(I)V"⟩, 20) := ⟨⟨by decide +kernel, by decide +kernel⟩, List.mem_of_getElem? (i := 28) (by decide +kernel), List.mem_of_getElem? (i := 610) (by decide +kernel), List.mem_of_getElem? (i := 611) (by decide +kernel)⟩
theorem lw_p6 : lw_okq (⟨"ShareLife$Reader", "begin", "(I)V"⟩, 17) := ⟨⟨by decide +kernel, by decide +kernel⟩, List.mem_of_getElem? (i := 265) (by decide +kernel), List.mem_of_getElem? (i := 637) (by decide +kernel), List.mem_of_getElem? (i := 638) (by decide +kernel)⟩
theorem lw_p7 : lw_okq (⟨"ShareLife$Reader", "advance", "()V"⟩, 17) := ⟨⟨by decide +kernel, by decide +kernel⟩, List.mem_of_getElem? (i := 265) (by decide +kernel), List.mem_of_getElem? (i := 748) (by decide +kernel), List.mem_of_getElem? (i := 749) (by decide +kernel)⟩
theorem lw_p8 : lw_okq (⟨"ShareLife$Reader", "isLetter", "(I)Z"⟩, 17) := ⟨⟨by decide +kernel, by decide +kernel⟩, List.mem_of_getElem? (i := 265) (by decide +kernel), List.mem_of_getElem? (i := 752) (by decide +kernel), List.mem_of_getElem? (i := 753) (by decide +kernel)⟩
theorem lw_p9 : lw_okq (⟨"ShareLife$Reader", "isDigit", "(I)Z"⟩, 17) := ⟨⟨by decide +kernel, by decide +kernel⟩, List.mem_of_getElem? (i := 265) (by decide +kernel), List.mem_of_getElem? (i := 756) (by decide +kernel), List.mem_of_getElem? (i := 757) (by decide +kernel)⟩
theorem lw_p10 : lw_okq (⟨"ShareLife$Reader", "fail", "(I)Z"⟩, 17) := ⟨⟨by decide +kernel, by decide +kernel⟩, List.mem_of_getElem? (i := 265) (by decide +kernel), List.mem_of_getElem? (i := 760) (by decide +kernel), List.mem_of_getElem? (i := 761) (by decide +kernel)⟩
theorem lw_p11 : lw_okq (⟨"ShareLife$Reader", "close", "()V"⟩, 17) := ⟨⟨by decide +kernel, by decide +kernel⟩, List.mem_of_getElem? (i := 265) (by decide +kernel), List.mem_of_getElem? (i := 764) (by decide +kernel), List.mem_of_getElem? (i := 765) (by decide +kernel)⟩
theorem lw_p12 : lw_okq (⟨"ShareLife$Reader", "is", "(Ljava/lang/String;)Z"⟩, 17) := ⟨⟨by decide +kernel, by decide +kernel⟩, List.mem_of_getElem? (i := 265) (by decide +kernel), List.mem_of_getElem? (i := 769) (by decide +kernel), List.mem_of_getElem? (i := 770) (by decide +kernel)⟩
theorem lw_p13 : lw_okq (⟨"ShareLife$Reader", "push", "(I)V"⟩, 17) := ⟨⟨by decide +kernel, by decide +kernel⟩, List.mem_of_getElem? (i := 265) (by decide +kernel), List.mem_of_getElem? (i := 821) (by decide +kernel), List.mem_of_getElem? (i := 822) (by decide +kernel)⟩
theorem lw_p14 : lw_okq (⟨"ShareLife$Reader", "sign", "(I)Z"⟩, 17) := ⟨⟨by decide +kernel, by decide +kernel⟩, List.mem_of_getElem? (i := 265) (by decide +kernel), List.mem_of_getElem? (i := 825) (by decide +kernel), List.mem_of_getElem? (i := 826) (by decide +kernel)⟩
theorem lw_p15 : lw_okq (⟨"ShareLife$Reader", "expect", "(I)Z"⟩, 17) := ⟨⟨by decide +kernel, by decide +kernel⟩, List.mem_of_getElem? (i := 265) (by decide +kernel), List.mem_of_getElem? (i := 829) (by decide +kernel), List.mem_of_getElem? (i := 830) (by decide +kernel)⟩
def lw_privs_1 : List (MethodName × Nat) := [(⟨"ShareLife", "refused", "(I)Z"⟩, 20), (⟨"ShareLife", "hasAccount", "(I)Z"⟩, 20), (⟨"java/util/ArrayList", "add", "(Ljava/lang/Object;[Ljava/lang/Object;I)V"⟩, 3), (⟨"java/util/ArrayList", "grow", "()[Ljava/lang/Object;"⟩, 3), (⟨"java/util/ArrayList", "grow", "(I)[Ljava/lang/Object;"⟩, 3), (⟨"ShareLife", "tell", "(I)V"⟩, 20), (⟨"ShareLife$Reader", "begin", "(I)V"⟩, 17), (⟨"ShareLife$Reader", "advance", "()V"⟩, 17), (⟨"ShareLife$Reader", "isLetter", "(I)Z"⟩, 17), (⟨"ShareLife$Reader", "isDigit", "(I)Z"⟩, 17), (⟨"ShareLife$Reader", "fail", "(I)Z"⟩, 17), (⟨"ShareLife$Reader", "close", "()V"⟩, 17), (⟨"ShareLife$Reader", "is", "(Ljava/lang/String;)Z"⟩, 17), (⟨"ShareLife$Reader", "push", "(I)V"⟩, 17), (⟨"ShareLife$Reader", "sign", "(I)Z"⟩, 17), (⟨"ShareLife$Reader", "expect", "(I)Z"⟩, 17)]
theorem lw_r1 : ∀ q ∈ lw_privs_1, lw_okq q := List.forall_mem_cons.mpr ⟨lw_p0, List.forall_mem_cons.mpr ⟨lw_p1, List.forall_mem_cons.mpr ⟨lw_p2, List.forall_mem_cons.mpr ⟨lw_p3, List.forall_mem_cons.mpr ⟨lw_p4, List.forall_mem_cons.mpr ⟨lw_p5, List.forall_mem_cons.mpr ⟨lw_p6, List.forall_mem_cons.mpr ⟨lw_p7, List.forall_mem_cons.mpr ⟨lw_p8, List.forall_mem_cons.mpr ⟨lw_p9, List.forall_mem_cons.mpr ⟨lw_p10, List.forall_mem_cons.mpr ⟨lw_p11, List.forall_mem_cons.mpr ⟨lw_p12, List.forall_mem_cons.mpr ⟨lw_p13, List.forall_mem_cons.mpr ⟨lw_p14, List.forall_mem_cons.mpr ⟨lw_p15, fun _ h => absurd h List.not_mem_nil⟩⟩⟩⟩⟩⟩⟩⟩⟩⟩⟩⟩⟩⟩⟩⟩
theorem lw_p16 : lw_okq (⟨"ShareLife$Reader", "clause", "()V"⟩, 17) := ⟨⟨by decide +kernel, by decide +kernel⟩, List.mem_of_getElem? (i := 265) (by decide +kernel), List.mem_of_getElem? (i := 833) (by decide +kernel), List.mem_of_getElem? (i := 834) (by decide +kernel)⟩
theorem lw_p17 : lw_okq (⟨"ShareLife$Reader", "clauseWord", "()I"⟩, 17) := ⟨⟨by decide +kernel, by decide +kernel⟩, List.mem_of_getElem? (i := 265) (by decide +kernel), List.mem_of_getElem? (i := 837) (by decide +kernel), List.mem_of_getElem? (i := 838) (by decide +kernel)⟩
theorem lw_p18 : lw_okq (⟨"ShareLife$Reader", "wordFault", "(I)I"⟩, 17) := ⟨⟨by decide +kernel, by decide +kernel⟩, List.mem_of_getElem? (i := 265) (by decide +kernel), List.mem_of_getElem? (i := 851) (by decide +kernel), List.mem_of_getElem? (i := 852) (by decide +kernel)⟩
theorem lw_p19 : lw_okq (⟨"ShareLife$Reader", "isMisplaced", "(I)Z"⟩, 17) := ⟨⟨by decide +kernel, by decide +kernel⟩, List.mem_of_getElem? (i := 265) (by decide +kernel), List.mem_of_getElem? (i := 855) (by decide +kernel), List.mem_of_getElem? (i := 856) (by decide +kernel)⟩
theorem lw_p20 : lw_okq (⟨"ShareLife$Reader", "row", "()I"⟩, 17) := ⟨⟨by decide +kernel, by decide +kernel⟩, List.mem_of_getElem? (i := 265) (by decide +kernel), List.mem_of_getElem? (i := 859) (by decide +kernel), List.mem_of_getElem? (i := 860) (by decide +kernel)⟩
theorem lw_p21 : lw_okq (⟨"ShareLife$Reader", "moveWorth", "()V"⟩, 17) := ⟨⟨by decide +kernel, by decide +kernel⟩, List.mem_of_getElem? (i := 265) (by decide +kernel), List.mem_of_getElem? (i := 863) (by decide +kernel), List.mem_of_getElem? (i := 864) (by decide +kernel)⟩
theorem lw_p22 : lw_okq (⟨"ShareLife$Reader", "number", "(II)I"⟩, 17) := ⟨⟨by decide +kernel, by decide +kernel⟩, List.mem_of_getElem? (i := 265) (by decide +kernel), List.mem_of_getElem? (i := 867) (by decide +kernel), List.mem_of_getElem? (i := 868) (by decide +kernel)⟩
theorem lw_p23 : lw_okq (⟨"ShareLife$Reader", "keyword", "(Ljava/lang/String;)V"⟩, 17) := ⟨⟨by decide +kernel, by decide +kernel⟩, List.mem_of_getElem? (i := 265) (by decide +kernel), List.mem_of_getElem? (i := 872) (by decide +kernel), List.mem_of_getElem? (i := 873) (by decide +kernel)⟩
theorem lw_p24 : lw_okq (⟨"ShareLife$Reader", "store", "(IIII)V"⟩, 17) := ⟨⟨by decide +kernel, by decide +kernel⟩, List.mem_of_getElem? (i := 265) (by decide +kernel), List.mem_of_getElem? (i := 876) (by decide +kernel), List.mem_of_getElem? (i := 877) (by decide +kernel)⟩
theorem lw_p25 : lw_okq (⟨"ShareLife$Reader", "fraction", "()V"⟩, 17) := ⟨⟨by decide +kernel, by decide +kernel⟩, List.mem_of_getElem? (i := 265) (by decide +kernel), List.mem_of_getElem? (i := 880) (by decide +kernel), List.mem_of_getElem? (i := 881) (by decide +kernel)⟩
theorem lw_p26 : lw_okq (⟨"ShareLife$Reader", "when", "()V"⟩, 17) := ⟨⟨by decide +kernel, by decide +kernel⟩, List.mem_of_getElem? (i := 265) (by decide +kernel), List.mem_of_getElem? (i := 888) (by decide +kernel), List.mem_of_getElem? (i := 889) (by decide +kernel)⟩
theorem lw_p27 : lw_okq (⟨"ShareLife$Reader", "choice", "()V"⟩, 17) := ⟨⟨by decide +kernel, by decide +kernel⟩, List.mem_of_getElem? (i := 265) (by decide +kernel), List.mem_of_getElem? (i := 893) (by decide +kernel), List.mem_of_getElem? (i := 894) (by decide +kernel)⟩
theorem lw_p28 : lw_okq (⟨"ShareLife$Reader", "isName", "()Z"⟩, 17) := ⟨⟨by decide +kernel, by decide +kernel⟩, List.mem_of_getElem? (i := 265) (by decide +kernel), List.mem_of_getElem? (i := 897) (by decide +kernel), List.mem_of_getElem? (i := 898) (by decide +kernel)⟩
theorem lw_p29 : lw_okq (⟨"ShareLife$Reader", "named", "()I"⟩, 17) := ⟨⟨by decide +kernel, by decide +kernel⟩, List.mem_of_getElem? (i := 265) (by decide +kernel), List.mem_of_getElem? (i := 901) (by decide +kernel), List.mem_of_getElem? (i := 902) (by decide +kernel)⟩
theorem lw_p30 : lw_okq (⟨"ShareLife$Reader", "fallback", "()V"⟩, 17) := ⟨⟨by decide +kernel, by decide +kernel⟩, List.mem_of_getElem? (i := 265) (by decide +kernel), List.mem_of_getElem? (i := 905) (by decide +kernel), List.mem_of_getElem? (i := 906) (by decide +kernel)⟩
theorem lw_p31 : lw_okq (⟨"ShareLife$Reader", "most", "()V"⟩, 17) := ⟨⟨by decide +kernel, by decide +kernel⟩, List.mem_of_getElem? (i := 265) (by decide +kernel), List.mem_of_getElem? (i := 909) (by decide +kernel), List.mem_of_getElem? (i := 910) (by decide +kernel)⟩
def lw_privs_2 : List (MethodName × Nat) := [(⟨"ShareLife$Reader", "clause", "()V"⟩, 17), (⟨"ShareLife$Reader", "clauseWord", "()I"⟩, 17), (⟨"ShareLife$Reader", "wordFault", "(I)I"⟩, 17), (⟨"ShareLife$Reader", "isMisplaced", "(I)Z"⟩, 17), (⟨"ShareLife$Reader", "row", "()I"⟩, 17), (⟨"ShareLife$Reader", "moveWorth", "()V"⟩, 17), (⟨"ShareLife$Reader", "number", "(II)I"⟩, 17), (⟨"ShareLife$Reader", "keyword", "(Ljava/lang/String;)V"⟩, 17), (⟨"ShareLife$Reader", "store", "(IIII)V"⟩, 17), (⟨"ShareLife$Reader", "fraction", "()V"⟩, 17), (⟨"ShareLife$Reader", "when", "()V"⟩, 17), (⟨"ShareLife$Reader", "choice", "()V"⟩, 17), (⟨"ShareLife$Reader", "isName", "()Z"⟩, 17), (⟨"ShareLife$Reader", "named", "()I"⟩, 17), (⟨"ShareLife$Reader", "fallback", "()V"⟩, 17), (⟨"ShareLife$Reader", "most", "()V"⟩, 17)]
theorem lw_r2 : ∀ q ∈ lw_privs_2, lw_okq q := List.forall_mem_cons.mpr ⟨lw_p16, List.forall_mem_cons.mpr ⟨lw_p17, List.forall_mem_cons.mpr ⟨lw_p18, List.forall_mem_cons.mpr ⟨lw_p19, List.forall_mem_cons.mpr ⟨lw_p20, List.forall_mem_cons.mpr ⟨lw_p21, List.forall_mem_cons.mpr ⟨lw_p22, List.forall_mem_cons.mpr ⟨lw_p23, List.forall_mem_cons.mpr ⟨lw_p24, List.forall_mem_cons.mpr ⟨lw_p25, List.forall_mem_cons.mpr ⟨lw_p26, List.forall_mem_cons.mpr ⟨lw_p27, List.forall_mem_cons.mpr ⟨lw_p28, List.forall_mem_cons.mpr ⟨lw_p29, List.forall_mem_cons.mpr ⟨lw_p30, List.forall_mem_cons.mpr ⟨lw_p31, fun _ h => absurd h List.not_mem_nil⟩⟩⟩⟩⟩⟩⟩⟩⟩⟩⟩⟩⟩⟩⟩⟩
theorem lw_p32 : lw_okq (⟨"ShareLife$Reader", "ratio", "(I)V"⟩, 17) := ⟨⟨by decide +kernel, by decide +kernel⟩, List.mem_of_getElem? (i := 265) (by decide +kernel), List.mem_of_getElem? (i := 915) (by decide +kernel), List.mem_of_getElem? (i := 916) (by decide +kernel)⟩
theorem lw_p33 : lw_okq (⟨"ShareLife", "hasEvent", "(I)Z"⟩, 20) := ⟨⟨by decide +kernel, by decide +kernel⟩, List.mem_of_getElem? (i := 28) (by decide +kernel), List.mem_of_getElem? (i := 962) (by decide +kernel), List.mem_of_getElem? (i := 963) (by decide +kernel)⟩
theorem lw_p34 : lw_okq (⟨"ShareLife", "hasChoice", "(II)Z"⟩, 20) := ⟨⟨by decide +kernel, by decide +kernel⟩, List.mem_of_getElem? (i := 28) (by decide +kernel), List.mem_of_getElem? (i := 982) (by decide +kernel), List.mem_of_getElem? (i := 983) (by decide +kernel)⟩
theorem lw_p35 : lw_okq (⟨"ShareLife", "toldBy", "(II)LShareLife$Told;"⟩, 20) := ⟨⟨by decide +kernel, by decide +kernel⟩, List.mem_of_getElem? (i := 28) (by decide +kernel), List.mem_of_getElem? (i := 1016) (by decide +kernel), List.mem_of_getElem? (i := 1017) (by decide +kernel)⟩
theorem lw_p36 : lw_okq (⟨"ShareLife", "hasTrade", "(I)Z"⟩, 20) := ⟨⟨by decide +kernel, by decide +kernel⟩, List.mem_of_getElem? (i := 28) (by decide +kernel), List.mem_of_getElem? (i := 1020) (by decide +kernel), List.mem_of_getElem? (i := 1021) (by decide +kernel)⟩
theorem lw_p37 : lw_okq (⟨"ShareLife", "hasPick", "(I)Z"⟩, 20) := ⟨⟨by decide +kernel, by decide +kernel⟩, List.mem_of_getElem? (i := 28) (by decide +kernel), List.mem_of_getElem? (i := 1025) (by decide +kernel), List.mem_of_getElem? (i := 1026) (by decide +kernel)⟩
theorem lw_p38 : lw_okq (⟨"ShareLife$Run", "dayAt", "(I)I"⟩, 20) := ⟨⟨by decide +kernel, by decide +kernel⟩, List.mem_of_getElem? (i := 36) (by decide +kernel), List.mem_of_getElem? (i := 1037) (by decide +kernel), List.mem_of_getElem? (i := 1038) (by decide +kernel)⟩
theorem lw_p39 : lw_okq (⟨"ShareLife$Run", "restart", "()V"⟩, 20) := ⟨⟨by decide +kernel, by decide +kernel⟩, List.mem_of_getElem? (i := 36) (by decide +kernel), List.mem_of_getElem? (i := 1041) (by decide +kernel), List.mem_of_getElem? (i := 1042) (by decide +kernel)⟩
theorem lw_p40 : lw_okq (⟨"ShareLife$Run", "line", "(LShareLife$Told;III)V"⟩, 20) := ⟨⟨by decide +kernel, by decide +kernel⟩, List.mem_of_getElem? (i := 36) (by decide +kernel), List.mem_of_getElem? (i := 1053) (by decide +kernel), List.mem_of_getElem? (i := 1054) (by decide +kernel)⟩
theorem lw_p41 : lw_okq (⟨"ShareLife$Run", "runIssue", "(LShareLife$Entry;)V"⟩, 20) := ⟨⟨by decide +kernel, by decide +kernel⟩, List.mem_of_getElem? (i := 36) (by decide +kernel), List.mem_of_getElem? (i := 1065) (by decide +kernel), List.mem_of_getElem? (i := 1066) (by decide +kernel)⟩
theorem lw_p42 : lw_okq (⟨"ShareLife$Run", "runTrade", "(LShareLife$Entry;I)V"⟩, 20) := ⟨⟨by decide +kernel, by decide +kernel⟩, List.mem_of_getElem? (i := 36) (by decide +kernel), List.mem_of_getElem? (i := 1069) (by decide +kernel), List.mem_of_getElem? (i := 1070) (by decide +kernel)⟩
theorem lw_p43 : lw_okq (⟨"ShareLife$Run", "runEvent", "(LShareLife$Event;I)V"⟩, 20) := ⟨⟨by decide +kernel, by decide +kernel⟩, List.mem_of_getElem? (i := 36) (by decide +kernel), List.mem_of_getElem? (i := 1073) (by decide +kernel), List.mem_of_getElem? (i := 1074) (by decide +kernel)⟩
theorem lw_p44 : lw_okq (⟨"ShareLife$Run", "sortShares", "(LShareLife$Event;I)V"⟩, 20) := ⟨⟨by decide +kernel, by decide +kernel⟩, List.mem_of_getElem? (i := 36) (by decide +kernel), List.mem_of_getElem? (i := 1077) (by decide +kernel), List.mem_of_getElem? (i := 1078) (by decide +kernel)⟩
theorem lw_p45 : lw_okq (⟨"ShareLife$Run", "inTime", "(LShareLife$Pick;I)Z"⟩, 20) := ⟨⟨by decide +kernel, by decide +kernel⟩, List.mem_of_getElem? (i := 36) (by decide +kernel), List.mem_of_getElem? (i := 1090) (by decide +kernel), List.mem_of_getElem? (i := 1091) (by decide +kernel)⟩
theorem lw_p46 : lw_okq (⟨"ShareLife$Run", "cutBack", "(LShareLife$Text;)V"⟩, 20) := ⟨⟨by decide +kernel, by decide +kernel⟩, List.mem_of_getElem? (i := 36) (by decide +kernel), List.mem_of_getElem? (i := 1106) (by decide +kernel), List.mem_of_getElem? (i := 1107) (by decide +kernel)⟩
theorem lw_p47 : lw_okq (⟨"ShareLife$Run", "allotTops", "(LShareLife$Text;I)Z"⟩, 20) := ⟨⟨by decide +kernel, by decide +kernel⟩, List.mem_of_getElem? (i := 36) (by decide +kernel), List.mem_of_getElem? (i := 1110) (by decide +kernel), List.mem_of_getElem? (i := 1111) (by decide +kernel)⟩
def lw_privs_3 : List (MethodName × Nat) := [(⟨"ShareLife$Reader", "ratio", "(I)V"⟩, 17), (⟨"ShareLife", "hasEvent", "(I)Z"⟩, 20), (⟨"ShareLife", "hasChoice", "(II)Z"⟩, 20), (⟨"ShareLife", "toldBy", "(II)LShareLife$Told;"⟩, 20), (⟨"ShareLife", "hasTrade", "(I)Z"⟩, 20), (⟨"ShareLife", "hasPick", "(I)Z"⟩, 20), (⟨"ShareLife$Run", "dayAt", "(I)I"⟩, 20), (⟨"ShareLife$Run", "restart", "()V"⟩, 20), (⟨"ShareLife$Run", "line", "(LShareLife$Told;III)V"⟩, 20), (⟨"ShareLife$Run", "runIssue", "(LShareLife$Entry;)V"⟩, 20), (⟨"ShareLife$Run", "runTrade", "(LShareLife$Entry;I)V"⟩, 20), (⟨"ShareLife$Run", "runEvent", "(LShareLife$Event;I)V"⟩, 20), (⟨"ShareLife$Run", "sortShares", "(LShareLife$Event;I)V"⟩, 20), (⟨"ShareLife$Run", "inTime", "(LShareLife$Pick;I)Z"⟩, 20), (⟨"ShareLife$Run", "cutBack", "(LShareLife$Text;)V"⟩, 20), (⟨"ShareLife$Run", "allotTops", "(LShareLife$Text;I)Z"⟩, 20)]
theorem lw_r3 : ∀ q ∈ lw_privs_3, lw_okq q := List.forall_mem_cons.mpr ⟨lw_p32, List.forall_mem_cons.mpr ⟨lw_p33, List.forall_mem_cons.mpr ⟨lw_p34, List.forall_mem_cons.mpr ⟨lw_p35, List.forall_mem_cons.mpr ⟨lw_p36, List.forall_mem_cons.mpr ⟨lw_p37, List.forall_mem_cons.mpr ⟨lw_p38, List.forall_mem_cons.mpr ⟨lw_p39, List.forall_mem_cons.mpr ⟨lw_p40, List.forall_mem_cons.mpr ⟨lw_p41, List.forall_mem_cons.mpr ⟨lw_p42, List.forall_mem_cons.mpr ⟨lw_p43, List.forall_mem_cons.mpr ⟨lw_p44, List.forall_mem_cons.mpr ⟨lw_p45, List.forall_mem_cons.mpr ⟨lw_p46, List.forall_mem_cons.mpr ⟨lw_p47, fun _ h => absurd h List.not_mem_nil⟩⟩⟩⟩⟩⟩⟩⟩⟩⟩⟩⟩⟩⟩⟩⟩
theorem lw_p48 : lw_okq (⟨"ShareLife$Run", "serve", "(LShareLife$Event;I)V"⟩, 20) := ⟨⟨by decide +kernel, by decide +kernel⟩, List.mem_of_getElem? (i := 36) (by decide +kernel), List.mem_of_getElem? (i := 1125) (by decide +kernel), List.mem_of_getElem? (i := 1126) (by decide +kernel)⟩
theorem lw_p49 : lw_okq (⟨"ShareLife$Text", "isLive", "(I)Z"⟩, 16) := ⟨⟨by decide +kernel, by decide +kernel⟩, List.mem_of_getElem? (i := 641) (by decide +kernel), List.mem_of_getElem? (i := 1133) (by decide +kernel), List.mem_of_getElem? (i := 1134) (by decide +kernel)⟩
theorem lw_p50 : lw_okq (⟨"ShareLife$Text", "give", "(IJI)V"⟩, 16) := ⟨⟨by decide +kernel, by decide +kernel⟩, List.mem_of_getElem? (i := 641) (by decide +kernel), List.mem_of_getElem? (i := 1137) (by decide +kernel), List.mem_of_getElem? (i := 1138) (by decide +kernel)⟩
theorem lw_p51 : lw_okq (⟨"ShareLife$Text", "ratio", "(JI)J"⟩, 16) := ⟨⟨by decide +kernel, by decide +kernel⟩, List.mem_of_getElem? (i := 641) (by decide +kernel), List.mem_of_getElem? (i := 1146) (by decide +kernel), List.mem_of_getElem? (i := 1147) (by decide +kernel)⟩
theorem lw_p52 : lw_okq (⟨"ShareLife$Run", "hand", "([JJII)V"⟩, 20) := ⟨⟨by decide +kernel, by decide +kernel⟩, List.mem_of_getElem? (i := 36) (by decide +kernel), List.mem_of_getElem? (i := 1150) (by decide +kernel), List.mem_of_getElem? (i := 1151) (by decide +kernel)⟩
theorem lw_p53 : lw_okq (⟨"ShareLife$Run", "noteGiven", "(IJI)V"⟩, 20) := ⟨⟨by decide +kernel, by decide +kernel⟩, List.mem_of_getElem? (i := 36) (by decide +kernel), List.mem_of_getElem? (i := 1157) (by decide +kernel), List.mem_of_getElem? (i := 1158) (by decide +kernel)⟩
theorem lw_p54 : lw_okq (⟨"ShareLife$Run", "moveWorth", "(ILShareLife$Text;II)V"⟩, 20) := ⟨⟨by decide +kernel, by decide +kernel⟩, List.mem_of_getElem? (i := 36) (by decide +kernel), List.mem_of_getElem? (i := 1161) (by decide +kernel), List.mem_of_getElem? (i := 1162) (by decide +kernel)⟩
theorem lw_p55 : lw_okq (⟨"ShareLife$Run", "moveLeftWorth", "(I)V"⟩, 20) := ⟨⟨by decide +kernel, by decide +kernel⟩, List.mem_of_getElem? (i := 36) (by decide +kernel), List.mem_of_getElem? (i := 1173) (by decide +kernel), List.mem_of_getElem? (i := 1174) (by decide +kernel)⟩
theorem lw_p56 : lw_okq (⟨"ShareLife$Run", "watch", "()V"⟩, 20) := ⟨⟨by decide +kernel, by decide +kernel⟩, List.mem_of_getElem? (i := 36) (by decide +kernel), List.mem_of_getElem? (i := 1177) (by decide +kernel), List.mem_of_getElem? (i := 1178) (by decide +kernel)⟩
theorem lw_p57 : lw_okq (⟨"ShareLife$Flood", "receive", "(LShareLife$Entry;)V"⟩, 17) := ⟨⟨by decide +kernel, by decide +kernel⟩, List.mem_of_getElem? (i := 1237) (by decide +kernel), List.mem_of_getElem? (i := 1307) (by decide +kernel), List.mem_of_getElem? (i := 1308) (by decide +kernel)⟩
theorem lw_p58 : lw_okq (⟨"ShareLife$Flood", "settle", "(LShareLife$Entry;)I"⟩, 17) := ⟨⟨by decide +kernel, by decide +kernel⟩, List.mem_of_getElem? (i := 1237) (by decide +kernel), List.mem_of_getElem? (i := 1314) (by decide +kernel), List.mem_of_getElem? (i := 1315) (by decide +kernel)⟩
theorem lw_p59 : lw_okq (⟨"ShareLife$Flood", "happen", "(LShareLife$Run;I)V"⟩, 17) := ⟨⟨by decide +kernel, by decide +kernel⟩, List.mem_of_getElem? (i := 1237) (by decide +kernel), List.mem_of_getElem? (i := 1324) (by decide +kernel), List.mem_of_getElem? (i := 1325) (by decide +kernel)⟩
theorem lw_p60 : lw_okq (⟨"ShareLife$Flood", "addUpRows", "()V"⟩, 17) := ⟨⟨by decide +kernel, by decide +kernel⟩, List.mem_of_getElem? (i := 1237) (by decide +kernel), List.mem_of_getElem? (i := 1334) (by decide +kernel), List.mem_of_getElem? (i := 1335) (by decide +kernel)⟩
theorem lw_p61 : lw_okq (⟨"ShareLife$Flood", "cutBack", "(LShareLife$Text;)V"⟩, 17) := ⟨⟨by decide +kernel, by decide +kernel⟩, List.mem_of_getElem? (i := 1237) (by decide +kernel), List.mem_of_getElem? (i := 1338) (by decide +kernel), List.mem_of_getElem? (i := 1339) (by decide +kernel)⟩
theorem lw_p62 : lw_okq (⟨"ShareLife$Flood", "allotTops", "(LShareLife$Text;I)Z"⟩, 17) := ⟨⟨by decide +kernel, by decide +kernel⟩, List.mem_of_getElem? (i := 1237) (by decide +kernel), List.mem_of_getElem? (i := 1342) (by decide +kernel), List.mem_of_getElem? (i := 1343) (by decide +kernel)⟩
theorem lw_p63 : lw_okq (⟨"ShareLife$Flood", "apportion", "([JI)V"⟩, 17) := ⟨⟨by decide +kernel, by decide +kernel⟩, List.mem_of_getElem? (i := 1237) (by decide +kernel), List.mem_of_getElem? (i := 1350) (by decide +kernel), List.mem_of_getElem? (i := 1351) (by decide +kernel)⟩
def lw_privs_4 : List (MethodName × Nat) := [(⟨"ShareLife$Run", "serve", "(LShareLife$Event;I)V"⟩, 20), (⟨"ShareLife$Text", "isLive", "(I)Z"⟩, 16), (⟨"ShareLife$Text", "give", "(IJI)V"⟩, 16), (⟨"ShareLife$Text", "ratio", "(JI)J"⟩, 16), (⟨"ShareLife$Run", "hand", "([JJII)V"⟩, 20), (⟨"ShareLife$Run", "noteGiven", "(IJI)V"⟩, 20), (⟨"ShareLife$Run", "moveWorth", "(ILShareLife$Text;II)V"⟩, 20), (⟨"ShareLife$Run", "moveLeftWorth", "(I)V"⟩, 20), (⟨"ShareLife$Run", "watch", "()V"⟩, 20), (⟨"ShareLife$Flood", "receive", "(LShareLife$Entry;)V"⟩, 17), (⟨"ShareLife$Flood", "settle", "(LShareLife$Entry;)I"⟩, 17), (⟨"ShareLife$Flood", "happen", "(LShareLife$Run;I)V"⟩, 17), (⟨"ShareLife$Flood", "addUpRows", "()V"⟩, 17), (⟨"ShareLife$Flood", "cutBack", "(LShareLife$Text;)V"⟩, 17), (⟨"ShareLife$Flood", "allotTops", "(LShareLife$Text;I)Z"⟩, 17), (⟨"ShareLife$Flood", "apportion", "([JI)V"⟩, 17)]
theorem lw_r4 : ∀ q ∈ lw_privs_4, lw_okq q := List.forall_mem_cons.mpr ⟨lw_p48, List.forall_mem_cons.mpr ⟨lw_p49, List.forall_mem_cons.mpr ⟨lw_p50, List.forall_mem_cons.mpr ⟨lw_p51, List.forall_mem_cons.mpr ⟨lw_p52, List.forall_mem_cons.mpr ⟨lw_p53, List.forall_mem_cons.mpr ⟨lw_p54, List.forall_mem_cons.mpr ⟨lw_p55, List.forall_mem_cons.mpr ⟨lw_p56, List.forall_mem_cons.mpr ⟨lw_p57, List.forall_mem_cons.mpr ⟨lw_p58, List.forall_mem_cons.mpr ⟨lw_p59, List.forall_mem_cons.mpr ⟨lw_p60, List.forall_mem_cons.mpr ⟨lw_p61, List.forall_mem_cons.mpr ⟨lw_p62, List.forall_mem_cons.mpr ⟨lw_p63, fun _ h => absurd h List.not_mem_nil⟩⟩⟩⟩⟩⟩⟩⟩⟩⟩⟩⟩⟩⟩⟩⟩
theorem lw_p64 : lw_okq (⟨"ShareLife$Flood", "portion", "([JI)V"⟩, 17) := ⟨⟨by decide +kernel, by decide +kernel⟩, List.mem_of_getElem? (i := 1237) (by decide +kernel), List.mem_of_getElem? (i := 1354) (by decide +kernel), List.mem_of_getElem? (i := 1355) (by decide +kernel)⟩
theorem lw_p65 : lw_okq (⟨"ShareLife$Flood", "deal", "([JII)V"⟩, 17) := ⟨⟨by decide +kernel, by decide +kernel⟩, List.mem_of_getElem? (i := 1237) (by decide +kernel), List.mem_of_getElem? (i := 1358) (by decide +kernel), List.mem_of_getElem? (i := 1359) (by decide +kernel)⟩
theorem lw_p66 : lw_okq (⟨"ShareLife$Flood", "serve", "(LShareLife$Event;I)V"⟩, 17) := ⟨⟨by decide +kernel, by decide +kernel⟩, List.mem_of_getElem? (i := 1237) (by decide +kernel), List.mem_of_getElem? (i := 1362) (by decide +kernel), List.mem_of_getElem? (i := 1363) (by decide +kernel)⟩
theorem lw_p67 : lw_okq (⟨"ShareLife$Flood", "multiply", "(LShareLife$Text;II)J"⟩, 17) := ⟨⟨by decide +kernel, by decide +kernel⟩, List.mem_of_getElem? (i := 1237) (by decide +kernel), List.mem_of_getElem? (i := 1367) (by decide +kernel), List.mem_of_getElem? (i := 1368) (by decide +kernel)⟩
theorem lw_p68 : lw_okq (⟨"ShareLife$Flood", "come", "(II)V"⟩, 17) := ⟨⟨by decide +kernel, by decide +kernel⟩, List.mem_of_getElem? (i := 1237) (by decide +kernel), List.mem_of_getElem? (i := 1375) (by decide +kernel), List.mem_of_getElem? (i := 1376) (by decide +kernel)⟩
theorem lw_p69 : lw_okq (⟨"ShareLife$Flood", "go", "(II)V"⟩, 17) := ⟨⟨by decide +kernel, by decide +kernel⟩, List.mem_of_getElem? (i := 1237) (by decide +kernel), List.mem_of_getElem? (i := 1379) (by decide +kernel), List.mem_of_getElem? (i := 1380) (by decide +kernel)⟩
theorem lw_p70 : lw_okq (⟨"ShareLife", "settledStatus", "(I)I"⟩, 20) := ⟨⟨by decide +kernel, by decide +kernel⟩, List.mem_of_getElem? (i := 28) (by decide +kernel), List.mem_of_getElem? (i := 1383) (by decide +kernel), List.mem_of_getElem? (i := 1384) (by decide +kernel)⟩
theorem lw_p71 : lw_okq (⟨"ShareLife", "hasOption", "(I)Z"⟩, 20) := ⟨⟨by decide +kernel, by decide +kernel⟩, List.mem_of_getElem? (i := 28) (by decide +kernel), List.mem_of_getElem? (i := 1406) (by decide +kernel), List.mem_of_getElem? (i := 1407) (by decide +kernel)⟩
theorem lw_p72 : lw_okq (⟨"ShareLife", "isOptionDay", "(II)Z"⟩, 20) := ⟨⟨by decide +kernel, by decide +kernel⟩, List.mem_of_getElem? (i := 28) (by decide +kernel), List.mem_of_getElem? (i := 1410) (by decide +kernel), List.mem_of_getElem? (i := 1411) (by decide +kernel)⟩
theorem lw_p73 : lw_okq (⟨"ShareLife", "follow", "(LShareLife$Entry;I)I"⟩, 20) := ⟨⟨by decide +kernel, by decide +kernel⟩, List.mem_of_getElem? (i := 28) (by decide +kernel), List.mem_of_getElem? (i := 1414) (by decide +kernel), List.mem_of_getElem? (i := 1415) (by decide +kernel)⟩
theorem lw_p74 : lw_okq (⟨"ShareLife", "nextEvent", "(II)I"⟩, 20) := ⟨⟨by decide +kernel, by decide +kernel⟩, List.mem_of_getElem? (i := 28) (by decide +kernel), List.mem_of_getElem? (i := 1423) (by decide +kernel), List.mem_of_getElem? (i := 1424) (by decide +kernel)⟩
theorem lw_p75 : lw_okq (⟨"ShareLife", "adjust", "(LShareLife$Event;)Z"⟩, 20) := ⟨⟨by decide +kernel, by decide +kernel⟩, List.mem_of_getElem? (i := 28) (by decide +kernel), List.mem_of_getElem? (i := 1431) (by decide +kernel), List.mem_of_getElem? (i := 1432) (by decide +kernel)⟩
theorem lw_p76 : lw_okq (⟨"ShareLife", "valueOf", "(LShareLife$Event;II)J"⟩, 20) := ⟨⟨by decide +kernel, by decide +kernel⟩, List.mem_of_getElem? (i := 28) (by decide +kernel), List.mem_of_getElem? (i := 1488) (by decide +kernel), List.mem_of_getElem? (i := 1489) (by decide +kernel)⟩
theorem lw_p77 : lw_okq (⟨"ShareLife", "nameOf", "(II)I"⟩, 20) := ⟨⟨by decide +kernel, by decide +kernel⟩, List.mem_of_getElem? (i := 28) (by decide +kernel), List.mem_of_getElem? (i := 1505) (by decide +kernel), List.mem_of_getElem? (i := 1506) (by decide +kernel)⟩
theorem lw_p78 : lw_okq (⟨"ShareLife$Riddle", "leave", "(IIJI)V"⟩, 17) := ⟨⟨by decide +kernel, by decide +kernel⟩, List.mem_of_getElem? (i := 326) (by decide +kernel), List.mem_of_getElem? (i := 1529) (by decide +kernel), List.mem_of_getElem? (i := 1530) (by decide +kernel)⟩
theorem lw_p79 : lw_okq (⟨"ShareLife$Riddle", "walk", "(IIII)I"⟩, 17) := ⟨⟨by decide +kernel, by decide +kernel⟩, List.mem_of_getElem? (i := 326) (by decide +kernel), List.mem_of_getElem? (i := 1533) (by decide +kernel), List.mem_of_getElem? (i := 1534) (by decide +kernel)⟩
def lw_privs_5 : List (MethodName × Nat) := [(⟨"ShareLife$Flood", "portion", "([JI)V"⟩, 17), (⟨"ShareLife$Flood", "deal", "([JII)V"⟩, 17), (⟨"ShareLife$Flood", "serve", "(LShareLife$Event;I)V"⟩, 17), (⟨"ShareLife$Flood", "multiply", "(LShareLife$Text;II)J"⟩, 17), (⟨"ShareLife$Flood", "come", "(II)V"⟩, 17), (⟨"ShareLife$Flood", "go", "(II)V"⟩, 17), (⟨"ShareLife", "settledStatus", "(I)I"⟩, 20), (⟨"ShareLife", "hasOption", "(I)Z"⟩, 20), (⟨"ShareLife", "isOptionDay", "(II)Z"⟩, 20), (⟨"ShareLife", "follow", "(LShareLife$Entry;I)I"⟩, 20), (⟨"ShareLife", "nextEvent", "(II)I"⟩, 20), (⟨"ShareLife", "adjust", "(LShareLife$Event;)Z"⟩, 20), (⟨"ShareLife", "valueOf", "(LShareLife$Event;II)J"⟩, 20), (⟨"ShareLife", "nameOf", "(II)I"⟩, 20), (⟨"ShareLife$Riddle", "leave", "(IIJI)V"⟩, 17), (⟨"ShareLife$Riddle", "walk", "(IIII)I"⟩, 17)]
theorem lw_r5 : ∀ q ∈ lw_privs_5, lw_okq q := List.forall_mem_cons.mpr ⟨lw_p64, List.forall_mem_cons.mpr ⟨lw_p65, List.forall_mem_cons.mpr ⟨lw_p66, List.forall_mem_cons.mpr ⟨lw_p67, List.forall_mem_cons.mpr ⟨lw_p68, List.forall_mem_cons.mpr ⟨lw_p69, List.forall_mem_cons.mpr ⟨lw_p70, List.forall_mem_cons.mpr ⟨lw_p71, List.forall_mem_cons.mpr ⟨lw_p72, List.forall_mem_cons.mpr ⟨lw_p73, List.forall_mem_cons.mpr ⟨lw_p74, List.forall_mem_cons.mpr ⟨lw_p75, List.forall_mem_cons.mpr ⟨lw_p76, List.forall_mem_cons.mpr ⟨lw_p77, List.forall_mem_cons.mpr ⟨lw_p78, List.forall_mem_cons.mpr ⟨lw_p79, fun _ h => absurd h List.not_mem_nil⟩⟩⟩⟩⟩⟩⟩⟩⟩⟩⟩⟩⟩⟩⟩⟩
theorem lw_p80 : lw_okq (⟨"ShareLife$Riddle", "weigh", "(I)V"⟩, 17) := ⟨⟨by decide +kernel, by decide +kernel⟩, List.mem_of_getElem? (i := 326) (by decide +kernel), List.mem_of_getElem? (i := 1538) (by decide +kernel), List.mem_of_getElem? (i := 1539) (by decide +kernel)⟩
theorem lw_p81 : lw_okq (⟨"ShareLifeModel", "no", "(I)Z"⟩, 138) := ⟨⟨by decide +kernel, by decide +kernel⟩, List.mem_of_getElem? (i := 1565) (by decide +kernel), List.mem_of_getElem? (i := 2001) (by decide +kernel), List.mem_of_getElem? (i := 2002) (by decide +kernel)⟩
theorem lw_p82 : lw_okq (⟨"ShareLifeModel", "isAccount", "(I)Z"⟩, 138) := ⟨⟨by decide +kernel, by decide +kernel⟩, List.mem_of_getElem? (i := 1565) (by decide +kernel), List.mem_of_getElem? (i := 2009) (by decide +kernel), List.mem_of_getElem? (i := 2010) (by decide +kernel)⟩
theorem lw_p83 : lw_okq (⟨"ShareLifeModel", "refuse", "(I)I"⟩, 138) := ⟨⟨by decide +kernel, by decide +kernel⟩, List.mem_of_getElem? (i := 1565) (by decide +kernel), List.mem_of_getElem? (i := 2013) (by decide +kernel), List.mem_of_getElem? (i := 2014) (by decide +kernel)⟩
theorem lw_p84 : lw_okq (⟨"ShareLifeModel", "lay", "(I)V"⟩, 138) := ⟨⟨by decide +kernel, by decide +kernel⟩, List.mem_of_getElem? (i := 1565) (by decide +kernel), List.mem_of_getElem? (i := 2035) (by decide +kernel), List.mem_of_getElem? (i := 2036) (by decide +kernel)⟩
theorem lw_p85 : lw_okq (⟨"ShareLifeModel", "next", "()V"⟩, 138) := ⟨⟨by decide +kernel, by decide +kernel⟩, List.mem_of_getElem? (i := 1565) (by decide +kernel), List.mem_of_getElem? (i := 2043) (by decide +kernel), List.mem_of_getElem? (i := 2044) (by decide +kernel)⟩
theorem lw_p86 : lw_okq (⟨"ShareLifeModel", "look", "(I)I"⟩, 138) := ⟨⟨by decide +kernel, by decide +kernel⟩, List.mem_of_getElem? (i := 1565) (by decide +kernel), List.mem_of_getElem? (i := 2047) (by decide +kernel), List.mem_of_getElem? (i := 2048) (by decide +kernel)⟩
theorem lw_p87 : lw_okq (⟨"ShareLifeModel", "readAll", "(II)V"⟩, 138) := ⟨⟨by decide +kernel, by decide +kernel⟩, List.mem_of_getElem? (i := 1565) (by decide +kernel), List.mem_of_getElem? (i := 2060) (by decide +kernel), List.mem_of_getElem? (i := 2061) (by decide +kernel)⟩
theorem lw_p88 : lw_okq (⟨"ShareLifeModel", "isSign", "(I)Z"⟩, 138) := ⟨⟨by decide +kernel, by decide +kernel⟩, List.mem_of_getElem? (i := 1565) (by decide +kernel), List.mem_of_getElem? (i := 2064) (by decide +kernel), List.mem_of_getElem? (i := 2065) (by decide +kernel)⟩
theorem lw_p89 : lw_okq (⟨"ShareLifeModel", "readClause", "(II)V"⟩, 138) := ⟨⟨by decide +kernel, by decide +kernel⟩, List.mem_of_getElem? (i := 1565) (by decide +kernel), List.mem_of_getElem? (i := 2068) (by decide +kernel), List.mem_of_getElem? (i := 2069) (by decide +kernel)⟩
theorem lw_p90 : lw_okq (⟨"ShareLifeModel", "clauseKind", "()I"⟩, 138) := ⟨⟨by decide +kernel, by decide +kernel⟩, List.mem_of_getElem? (i := 1565) (by decide +kernel), List.mem_of_getElem? (i := 2072) (by decide +kernel), List.mem_of_getElem? (i := 2073) (by decide +kernel)⟩
theorem lw_p91 : lw_okq (⟨"ShareLifeModel", "isWord", "(J)Z"⟩, 138) := ⟨⟨by decide +kernel, by decide +kernel⟩, List.mem_of_getElem? (i := 1565) (by decide +kernel), List.mem_of_getElem? (i := 2079) (by decide +kernel), List.mem_of_getElem? (i := 2080) (by decide +kernel)⟩
theorem lw_p92 : lw_okq (⟨"ShareLifeModel", "isFraction", "()Z"⟩, 138) := ⟨⟨by decide +kernel, by decide +kernel⟩, List.mem_of_getElem? (i := 1565) (by decide +kernel), List.mem_of_getElem? (i := 2083) (by decide +kernel), List.mem_of_getElem? (i := 2084) (by decide +kernel)⟩
theorem lw_p93 : lw_okq (⟨"ShareLifeModel", "wrong", "()V"⟩, 138) := ⟨⟨by decide +kernel, by decide +kernel⟩, List.mem_of_getElem? (i := 1565) (by decide +kernel), List.mem_of_getElem? (i := 2091) (by decide +kernel), List.mem_of_getElem? (i := 2092) (by decide +kernel)⟩
theorem lw_p94 : lw_okq (⟨"ShareLifeModel", "fail", "(II)V"⟩, 138) := ⟨⟨by decide +kernel, by decide +kernel⟩, List.mem_of_getElem? (i := 1565) (by decide +kernel), List.mem_of_getElem? (i := 2095) (by decide +kernel), List.mem_of_getElem? (i := 2096) (by decide +kernel)⟩
theorem lw_p95 : lw_okq (⟨"ShareLifeModel", "readWhen", "(III)V"⟩, 138) := ⟨⟨by decide +kernel, by decide +kernel⟩, List.mem_of_getElem? (i := 1565) (by decide +kernel), List.mem_of_getElem? (i := 2099) (by decide +kernel), List.mem_of_getElem? (i := 2100) (by decide +kernel)⟩
def lw_privs_6 : List (MethodName × Nat) := [(⟨"ShareLife$Riddle", "weigh", "(I)V"⟩, 17), (⟨"ShareLifeModel", "no", "(I)Z"⟩, 138), (⟨"ShareLifeModel", "isAccount", "(I)Z"⟩, 138), (⟨"ShareLifeModel", "refuse", "(I)I"⟩, 138), (⟨"ShareLifeModel", "lay", "(I)V"⟩, 138), (⟨"ShareLifeModel", "next", "()V"⟩, 138), (⟨"ShareLifeModel", "look", "(I)I"⟩, 138), (⟨"ShareLifeModel", "readAll", "(II)V"⟩, 138), (⟨"ShareLifeModel", "isSign", "(I)Z"⟩, 138), (⟨"ShareLifeModel", "readClause", "(II)V"⟩, 138), (⟨"ShareLifeModel", "clauseKind", "()I"⟩, 138), (⟨"ShareLifeModel", "isWord", "(J)Z"⟩, 138), (⟨"ShareLifeModel", "isFraction", "()Z"⟩, 138), (⟨"ShareLifeModel", "wrong", "()V"⟩, 138), (⟨"ShareLifeModel", "fail", "(II)V"⟩, 138), (⟨"ShareLifeModel", "readWhen", "(III)V"⟩, 138)]
theorem lw_r6 : ∀ q ∈ lw_privs_6, lw_okq q := List.forall_mem_cons.mpr ⟨lw_p80, List.forall_mem_cons.mpr ⟨lw_p81, List.forall_mem_cons.mpr ⟨lw_p82, List.forall_mem_cons.mpr ⟨lw_p83, List.forall_mem_cons.mpr ⟨lw_p84, List.forall_mem_cons.mpr ⟨lw_p85, List.forall_mem_cons.mpr ⟨lw_p86, List.forall_mem_cons.mpr ⟨lw_p87, List.forall_mem_cons.mpr ⟨lw_p88, List.forall_mem_cons.mpr ⟨lw_p89, List.forall_mem_cons.mpr ⟨lw_p90, List.forall_mem_cons.mpr ⟨lw_p91, List.forall_mem_cons.mpr ⟨lw_p92, List.forall_mem_cons.mpr ⟨lw_p93, List.forall_mem_cons.mpr ⟨lw_p94, List.forall_mem_cons.mpr ⟨lw_p95, fun _ h => absurd h List.not_mem_nil⟩⟩⟩⟩⟩⟩⟩⟩⟩⟩⟩⟩⟩⟩⟩⟩
theorem lw_p96 : lw_okq (⟨"ShareLifeModel", "wordIs", "(J)V"⟩, 138) := ⟨⟨by decide +kernel, by decide +kernel⟩, List.mem_of_getElem? (i := 1565) (by decide +kernel), List.mem_of_getElem? (i := 2103) (by decide +kernel), List.mem_of_getElem? (i := 2104) (by decide +kernel)⟩
theorem lw_p97 : lw_okq (⟨"ShareLifeModel", "count", "(II)I"⟩, 138) := ⟨⟨by decide +kernel, by decide +kernel⟩, List.mem_of_getElem? (i := 1565) (by decide +kernel), List.mem_of_getElem? (i := 2108) (by decide +kernel), List.mem_of_getElem? (i := 2109) (by decide +kernel)⟩
theorem lw_p98 : lw_okq (⟨"ShareLifeModel", "braces", "(II)V"⟩, 138) := ⟨⟨by decide +kernel, by decide +kernel⟩, List.mem_of_getElem? (i := 1565) (by decide +kernel), List.mem_of_getElem? (i := 2112) (by decide +kernel), List.mem_of_getElem? (i := 2113) (by decide +kernel)⟩
theorem lw_p99 : lw_okq (⟨"ShareLifeModel", "sign", "(I)V"⟩, 138) := ⟨⟨by decide +kernel, by decide +kernel⟩, List.mem_of_getElem? (i := 1565) (by decide +kernel), List.mem_of_getElem? (i := 2116) (by decide +kernel), List.mem_of_getElem? (i := 2117) (by decide +kernel)⟩
theorem lw_p100 : lw_okq (⟨"ShareLifeModel", "readChoice", "(I)V"⟩, 138) := ⟨⟨by decide +kernel, by decide +kernel⟩, List.mem_of_getElem? (i := 1565) (by decide +kernel), List.mem_of_getElem? (i := 2120) (by decide +kernel), List.mem_of_getElem? (i := 2121) (by decide +kernel)⟩
theorem lw_p101 : lw_okq (⟨"ShareLifeModel", "isName", "()Z"⟩, 138) := ⟨⟨by decide +kernel, by decide +kernel⟩, List.mem_of_getElem? (i := 1565) (by decide +kernel), List.mem_of_getElem? (i := 2124) (by decide +kernel), List.mem_of_getElem? (i := 2125) (by decide +kernel)⟩
theorem lw_p102 : lw_okq (⟨"ShareLifeModel", "named", "()I"⟩, 138) := ⟨⟨by decide +kernel, by decide +kernel⟩, List.mem_of_getElem? (i := 1565) (by decide +kernel), List.mem_of_getElem? (i := 2128) (by decide +kernel), List.mem_of_getElem? (i := 2129) (by decide +kernel)⟩
theorem lw_p103 : lw_okq (⟨"ShareLifeModel", "readPlain", "(III)V"⟩, 138) := ⟨⟨by decide +kernel, by decide +kernel⟩, List.mem_of_getElem? (i := 1565) (by decide +kernel), List.mem_of_getElem? (i := 2132) (by decide +kernel), List.mem_of_getElem? (i := 2133) (by decide +kernel)⟩
theorem lw_p104 : lw_okq (⟨"ShareLifeModel", "isEvent", "(I)Z"⟩, 138) := ⟨⟨by decide +kernel, by decide +kernel⟩, List.mem_of_getElem? (i := 1565) (by decide +kernel), List.mem_of_getElem? (i := 2145) (by decide +kernel), List.mem_of_getElem? (i := 2146) (by decide +kernel)⟩
theorem lw_p105 : lw_okq (⟨"ShareLifeModel", "eventCounts", "(I)Z"⟩, 138) := ⟨⟨by decide +kernel, by decide +kernel⟩, List.mem_of_getElem? (i := 1565) (by decide +kernel), List.mem_of_getElem? (i := 2161) (by decide +kernel), List.mem_of_getElem? (i := 2162) (by decide +kernel)⟩
theorem lw_p106 : lw_okq (⟨"ShareLifeModel", "isKnown", "(II)Z"⟩, 138) := ⟨⟨by decide +kernel, by decide +kernel⟩, List.mem_of_getElem? (i := 1565) (by decide +kernel), List.mem_of_getElem? (i := 2165) (by decide +kernel), List.mem_of_getElem? (i := 2166) (by decide +kernel)⟩
theorem lw_p107 : lw_okq (⟨"ShareLifeModel", "chosenOf", "(II)I"⟩, 138) := ⟨⟨by decide +kernel, by decide +kernel⟩, List.mem_of_getElem? (i := 1565) (by decide +kernel), List.mem_of_getElem? (i := 2169) (by decide +kernel), List.mem_of_getElem? (i := 2170) (by decide +kernel)⟩
theorem lw_p108 : lw_okq (⟨"ShareLifeModel", "sayCounts", "(I)Z"⟩, 138) := ⟨⟨by decide +kernel, by decide +kernel⟩, List.mem_of_getElem? (i := 1565) (by decide +kernel), List.mem_of_getElem? (i := 2173) (by decide +kernel), List.mem_of_getElem? (i := 2174) (by decide +kernel)⟩
theorem lw_p109 : lw_okq (⟨"ShareLifeModel", "inTime", "(I)Z"⟩, 138) := ⟨⟨by decide +kernel, by decide +kernel⟩, List.mem_of_getElem? (i := 1565) (by decide +kernel), List.mem_of_getElem? (i := 2177) (by decide +kernel), List.mem_of_getElem? (i := 2178) (by decide +kernel)⟩
theorem lw_p110 : lw_okq (⟨"ShareLifeModel", "daysUp", "(I)I"⟩, 138) := ⟨⟨by decide +kernel, by decide +kernel⟩, List.mem_of_getElem? (i := 1565) (by decide +kernel), List.mem_of_getElem? (i := 2181) (by decide +kernel), List.mem_of_getElem? (i := 2182) (by decide +kernel)⟩
theorem lw_p111 : lw_okq (⟨"ShareLifeModel", "leadsUp", "(I)I"⟩, 138) := ⟨⟨by decide +kernel, by decide +kernel⟩, List.mem_of_getElem? (i := 1565) (by decide +kernel), List.mem_of_getElem? (i := 2189) (by decide +kernel), List.mem_of_getElem? (i := 2190) (by decide +kernel)⟩
def lw_privs_7 : List (MethodName × Nat) := [(⟨"ShareLifeModel", "wordIs", "(J)V"⟩, 138), (⟨"ShareLifeModel", "count", "(II)I"⟩, 138), (⟨"ShareLifeModel", "braces", "(II)V"⟩, 138), (⟨"ShareLifeModel", "sign", "(I)V"⟩, 138), (⟨"ShareLifeModel", "readChoice", "(I)V"⟩, 138), (⟨"ShareLifeModel", "isName", "()Z"⟩, 138), (⟨"ShareLifeModel", "named", "()I"⟩, 138), (⟨"ShareLifeModel", "readPlain", "(III)V"⟩, 138), (⟨"ShareLifeModel", "isEvent", "(I)Z"⟩, 138), (⟨"ShareLifeModel", "eventCounts", "(I)Z"⟩, 138), (⟨"ShareLifeModel", "isKnown", "(II)Z"⟩, 138), (⟨"ShareLifeModel", "chosenOf", "(II)I"⟩, 138), (⟨"ShareLifeModel", "sayCounts", "(I)Z"⟩, 138), (⟨"ShareLifeModel", "inTime", "(I)Z"⟩, 138), (⟨"ShareLifeModel", "daysUp", "(I)I"⟩, 138), (⟨"ShareLifeModel", "leadsUp", "(I)I"⟩, 138)]
theorem lw_r7 : ∀ q ∈ lw_privs_7, lw_okq q := List.forall_mem_cons.mpr ⟨lw_p96, List.forall_mem_cons.mpr ⟨lw_p97, List.forall_mem_cons.mpr ⟨lw_p98, List.forall_mem_cons.mpr ⟨lw_p99, List.forall_mem_cons.mpr ⟨lw_p100, List.forall_mem_cons.mpr ⟨lw_p101, List.forall_mem_cons.mpr ⟨lw_p102, List.forall_mem_cons.mpr ⟨lw_p103, List.forall_mem_cons.mpr ⟨lw_p104, List.forall_mem_cons.mpr ⟨lw_p105, List.forall_mem_cons.mpr ⟨lw_p106, List.forall_mem_cons.mpr ⟨lw_p107, List.forall_mem_cons.mpr ⟨lw_p108, List.forall_mem_cons.mpr ⟨lw_p109, List.forall_mem_cons.mpr ⟨lw_p110, List.forall_mem_cons.mpr ⟨lw_p111, fun _ h => absurd h List.not_mem_nil⟩⟩⟩⟩⟩⟩⟩⟩⟩⟩⟩⟩⟩⟩⟩⟩
theorem lw_p112 : lw_okq (⟨"ShareLifeModel", "asks", "(III)I"⟩, 138) := ⟨⟨by decide +kernel, by decide +kernel⟩, List.mem_of_getElem? (i := 1565) (by decide +kernel), List.mem_of_getElem? (i := 2197) (by decide +kernel), List.mem_of_getElem? (i := 2198) (by decide +kernel)⟩
theorem lw_p113 : lw_okq (⟨"ShareLifeModel", "runs", "(II)Z"⟩, 138) := ⟨⟨by decide +kernel, by decide +kernel⟩, List.mem_of_getElem? (i := 1565) (by decide +kernel), List.mem_of_getElem? (i := 2201) (by decide +kernel), List.mem_of_getElem? (i := 2202) (by decide +kernel)⟩
theorem lw_p114 : lw_okq (⟨"ShareLifeModel", "begin", "()V"⟩, 138) := ⟨⟨by decide +kernel, by decide +kernel⟩, List.mem_of_getElem? (i := 1565) (by decide +kernel), List.mem_of_getElem? (i := 2205) (by decide +kernel), List.mem_of_getElem? (i := 2206) (by decide +kernel)⟩
theorem lw_p115 : lw_okq (⟨"ShareLifeModel", "nextDay", "(I)I"⟩, 138) := ⟨⟨by decide +kernel, by decide +kernel⟩, List.mem_of_getElem? (i := 1565) (by decide +kernel), List.mem_of_getElem? (i := 2209) (by decide +kernel), List.mem_of_getElem? (i := 2210) (by decide +kernel)⟩
theorem lw_p116 : lw_okq (⟨"ShareLifeModel", "tradeCounts", "(I)Z"⟩, 138) := ⟨⟨by decide +kernel, by decide +kernel⟩, List.mem_of_getElem? (i := 1565) (by decide +kernel), List.mem_of_getElem? (i := 2214) (by decide +kernel), List.mem_of_getElem? (i := 2215) (by decide +kernel)⟩
theorem lw_p117 : lw_okq (⟨"ShareLifeModel", "settles", "(I)V"⟩, 138) := ⟨⟨by decide +kernel, by decide +kernel⟩, List.mem_of_getElem? (i := 1565) (by decide +kernel), List.mem_of_getElem? (i := 2218) (by decide +kernel), List.mem_of_getElem? (i := 2219) (by decide +kernel)⟩
theorem lw_p118 : lw_okq (⟨"ShareLifeModel", "happens", "(I)V"⟩, 138) := ⟨⟨by decide +kernel, by decide +kernel⟩, List.mem_of_getElem? (i := 1565) (by decide +kernel), List.mem_of_getElem? (i := 2222) (by decide +kernel), List.mem_of_getElem? (i := 2223) (by decide +kernel)⟩
theorem lw_p119 : lw_okq (⟨"ShareLifeModel", "cuts", "(I)V"⟩, 138) := ⟨⟨by decide +kernel, by decide +kernel⟩, List.mem_of_getElem? (i := 1565) (by decide +kernel), List.mem_of_getElem? (i := 2226) (by decide +kernel), List.mem_of_getElem? (i := 2227) (by decide +kernel)⟩
theorem lw_p120 : lw_okq (⟨"ShareLifeModel", "stays", "(II)V"⟩, 138) := ⟨⟨by decide +kernel, by decide +kernel⟩, List.mem_of_getElem? (i := 1565) (by decide +kernel), List.mem_of_getElem? (i := 2230) (by decide +kernel), List.mem_of_getElem? (i := 2231) (by decide +kernel)⟩
theorem lw_p121 : lw_okq (⟨"ShareLifeModel", "sumUp", "()V"⟩, 138) := ⟨⟨by decide +kernel, by decide +kernel⟩, List.mem_of_getElem? (i := 1565) (by decide +kernel), List.mem_of_getElem? (i := 2234) (by decide +kernel), List.mem_of_getElem? (i := 2235) (by decide +kernel)⟩
theorem lw_p122 : lw_okq (⟨"ShareLifeModel", "cutBack", "(JI)V"⟩, 138) := ⟨⟨by decide +kernel, by decide +kernel⟩, List.mem_of_getElem? (i := 1565) (by decide +kernel), List.mem_of_getElem? (i := 2238) (by decide +kernel), List.mem_of_getElem? (i := 2239) (by decide +kernel)⟩
theorem lw_p123 : lw_okq (⟨"ShareLifeModel", "parts", "(JI)V"⟩, 138) := ⟨⟨by decide +kernel, by decide +kernel⟩, List.mem_of_getElem? (i := 1565) (by decide +kernel), List.mem_of_getElem? (i := 2242) (by decide +kernel), List.mem_of_getElem? (i := 2243) (by decide +kernel)⟩
theorem lw_p124 : lw_okq (⟨"ShareLifeModel", "partOne", "(I)V"⟩, 138) := ⟨⟨by decide +kernel, by decide +kernel⟩, List.mem_of_getElem? (i := 1565) (by decide +kernel), List.mem_of_getElem? (i := 2246) (by decide +kernel), List.mem_of_getElem? (i := 2247) (by decide +kernel)⟩
theorem lw_p125 : lw_okq (⟨"ShareLifeModel", "happensTo", "(II)V"⟩, 138) := ⟨⟨by decide +kernel, by decide +kernel⟩, List.mem_of_getElem? (i := 1565) (by decide +kernel), List.mem_of_getElem? (i := 2250) (by decide +kernel), List.mem_of_getElem? (i := 2251) (by decide +kernel)⟩
theorem lw_p126 : lw_okq (⟨"ShareLifeModel", "totalAhead", "(I)J"⟩, 138) := ⟨⟨by decide +kernel, by decide +kernel⟩, List.mem_of_getElem? (i := 1565) (by decide +kernel), List.mem_of_getElem? (i := 2254) (by decide +kernel), List.mem_of_getElem? (i := 2255) (by decide +kernel)⟩
theorem lw_p127 : lw_okq (⟨"ShareLifeModel", "isBelow", "(II)Z"⟩, 138) := ⟨⟨by decide +kernel, by decide +kernel⟩, List.mem_of_getElem? (i := 1565) (by decide +kernel), List.mem_of_getElem? (i := 2258) (by decide +kernel), List.mem_of_getElem? (i := 2259) (by decide +kernel)⟩
def lw_privs_8 : List (MethodName × Nat) := [(⟨"ShareLifeModel", "asks", "(III)I"⟩, 138), (⟨"ShareLifeModel", "runs", "(II)Z"⟩, 138), (⟨"ShareLifeModel", "begin", "()V"⟩, 138), (⟨"ShareLifeModel", "nextDay", "(I)I"⟩, 138), (⟨"ShareLifeModel", "tradeCounts", "(I)Z"⟩, 138), (⟨"ShareLifeModel", "settles", "(I)V"⟩, 138), (⟨"ShareLifeModel", "happens", "(I)V"⟩, 138), (⟨"ShareLifeModel", "cuts", "(I)V"⟩, 138), (⟨"ShareLifeModel", "stays", "(II)V"⟩, 138), (⟨"ShareLifeModel", "sumUp", "()V"⟩, 138), (⟨"ShareLifeModel", "cutBack", "(JI)V"⟩, 138), (⟨"ShareLifeModel", "parts", "(JI)V"⟩, 138), (⟨"ShareLifeModel", "partOne", "(I)V"⟩, 138), (⟨"ShareLifeModel", "happensTo", "(II)V"⟩, 138), (⟨"ShareLifeModel", "totalAhead", "(I)J"⟩, 138), (⟨"ShareLifeModel", "isBelow", "(II)Z"⟩, 138)]
theorem lw_r8 : ∀ q ∈ lw_privs_8, lw_okq q := List.forall_mem_cons.mpr ⟨lw_p112, List.forall_mem_cons.mpr ⟨lw_p113, List.forall_mem_cons.mpr ⟨lw_p114, List.forall_mem_cons.mpr ⟨lw_p115, List.forall_mem_cons.mpr ⟨lw_p116, List.forall_mem_cons.mpr ⟨lw_p117, List.forall_mem_cons.mpr ⟨lw_p118, List.forall_mem_cons.mpr ⟨lw_p119, List.forall_mem_cons.mpr ⟨lw_p120, List.forall_mem_cons.mpr ⟨lw_p121, List.forall_mem_cons.mpr ⟨lw_p122, List.forall_mem_cons.mpr ⟨lw_p123, List.forall_mem_cons.mpr ⟨lw_p124, List.forall_mem_cons.mpr ⟨lw_p125, List.forall_mem_cons.mpr ⟨lw_p126, List.forall_mem_cons.mpr ⟨lw_p127, fun _ h => absurd h List.not_mem_nil⟩⟩⟩⟩⟩⟩⟩⟩⟩⟩⟩⟩⟩⟩⟩⟩
theorem lw_p128 : lw_okq (⟨"ShareLifeModel", "does", "(IIIIIJ)V"⟩, 138) := ⟨⟨by decide +kernel, by decide +kernel⟩, List.mem_of_getElem? (i := 1565) (by decide +kernel), List.mem_of_getElem? (i := 2262) (by decide +kernel), List.mem_of_getElem? (i := 2263) (by decide +kernel)⟩
theorem lw_p129 : lw_okq (⟨"ShareLifeModel", "lay", "(III)V"⟩, 138) := ⟨⟨by decide +kernel, by decide +kernel⟩, List.mem_of_getElem? (i := 1565) (by decide +kernel), List.mem_of_getElem? (i := 2266) (by decide +kernel), List.mem_of_getElem? (i := 2267) (by decide +kernel)⟩
theorem lw_p130 : lw_okq (⟨"ShareLifeModel", "doesOne", "(IIII)V"⟩, 138) := ⟨⟨by decide +kernel, by decide +kernel⟩, List.mem_of_getElem? (i := 1565) (by decide +kernel), List.mem_of_getElem? (i := 2270) (by decide +kernel), List.mem_of_getElem? (i := 2271) (by decide +kernel)⟩
theorem lw_p131 : lw_okq (⟨"ShareLifeModel", "pays", "(JIJ)V"⟩, 138) := ⟨⟨by decide +kernel, by decide +kernel⟩, List.mem_of_getElem? (i := 1565) (by decide +kernel), List.mem_of_getElem? (i := 2275) (by decide +kernel), List.mem_of_getElem? (i := 2276) (by decide +kernel)⟩
theorem lw_p132 : lw_okq (⟨"ShareLifeModel", "isTooMuch", "()Z"⟩, 138) := ⟨⟨by decide +kernel, by decide +kernel⟩, List.mem_of_getElem? (i := 1565) (by decide +kernel), List.mem_of_getElem? (i := 2281) (by decide +kernel), List.mem_of_getElem? (i := 2282) (by decide +kernel)⟩
theorem lw_p133 : lw_okq (⟨"ShareLifeModel", "isTrade", "(I)Z"⟩, 138) := ⟨⟨by decide +kernel, by decide +kernel⟩, List.mem_of_getElem? (i := 1565) (by decide +kernel), List.mem_of_getElem? (i := 2306) (by decide +kernel), List.mem_of_getElem? (i := 2307) (by decide +kernel)⟩
theorem lw_p134 : lw_okq (⟨"ShareLifeModel", "getsOf", "(IIJ)V"⟩, 138) := ⟨⟨by decide +kernel, by decide +kernel⟩, List.mem_of_getElem? (i := 1565) (by decide +kernel), List.mem_of_getElem? (i := 2314) (by decide +kernel), List.mem_of_getElem? (i := 2315) (by decide +kernel)⟩
theorem lw_p135 : lw_okq (⟨"ShareLifeModel", "brings", "(IIIZIJ)V"⟩, 138) := ⟨⟨by decide +kernel, by decide +kernel⟩, List.mem_of_getElem? (i := 1565) (by decide +kernel), List.mem_of_getElem? (i := 2318) (by decide +kernel), List.mem_of_getElem? (i := 2319) (by decide +kernel)⟩
theorem lw_p136 : lw_okq (⟨"ShareLifeModel", "bringsOne", "(IZJ)V"⟩, 138) := ⟨⟨by decide +kernel, by decide +kernel⟩, List.mem_of_getElem? (i := 1565) (by decide +kernel), List.mem_of_getElem? (i := 2322) (by decide +kernel), List.mem_of_getElem? (i := 2323) (by decide +kernel)⟩
theorem lw_p137 : lw_okq (⟨"ShareLifeModel", "asksOption", "(II)I"⟩, 138) := ⟨⟨by decide +kernel, by decide +kernel⟩, List.mem_of_getElem? (i := 1565) (by decide +kernel), List.mem_of_getElem? (i := 2334) (by decide +kernel), List.mem_of_getElem? (i := 2335) (by decide +kernel)⟩
theorem lw_p138 : lw_okq (⟨"ShareLifeModel", "becomes", "(II)I"⟩, 138) := ⟨⟨by decide +kernel, by decide +kernel⟩, List.mem_of_getElem? (i := 1565) (by decide +kernel), List.mem_of_getElem? (i := 2338) (by decide +kernel), List.mem_of_getElem? (i := 2339) (by decide +kernel)⟩
theorem lw_p139 : lw_okq (⟨"ShareLifeModel", "isPlain", "(I)Z"⟩, 138) := ⟨⟨by decide +kernel, by decide +kernel⟩, List.mem_of_getElem? (i := 1565) (by decide +kernel), List.mem_of_getElem? (i := 2342) (by decide +kernel), List.mem_of_getElem? (i := 2343) (by decide +kernel)⟩
theorem lw_p140 : lw_okq (⟨"ShareLifeModel", "changes", "(I)V"⟩, 138) := ⟨⟨by decide +kernel, by decide +kernel⟩, List.mem_of_getElem? (i := 1565) (by decide +kernel), List.mem_of_getElem? (i := 2346) (by decide +kernel), List.mem_of_getElem? (i := 2347) (by decide +kernel)⟩
theorem lw_p141 : lw_okq (⟨"ShareLifeModel", "adds", "(JJ)V"⟩, 138) := ⟨⟨by decide +kernel, by decide +kernel⟩, List.mem_of_getElem? (i := 1565) (by decide +kernel), List.mem_of_getElem? (i := 2354) (by decide +kernel), List.mem_of_getElem? (i := 2355) (by decide +kernel)⟩
theorem lw_p142 : lw_okq (⟨"ShareLifeModel", "times", "(JJJJ)V"⟩, 138) := ⟨⟨by decide +kernel, by decide +kernel⟩, List.mem_of_getElem? (i := 1565) (by decide +kernel), List.mem_of_getElem? (i := 2359) (by decide +kernel), List.mem_of_getElem? (i := 2360) (by decide +kernel)⟩
theorem lw_p143 : lw_okq (⟨"ShareLifeModel", "bringsOf", "(III)J"⟩, 138) := ⟨⟨by decide +kernel, by decide +kernel⟩, List.mem_of_getElem? (i := 1565) (by decide +kernel), List.mem_of_getElem? (i := 2384) (by decide +kernel), List.mem_of_getElem? (i := 2385) (by decide +kernel)⟩
def lw_privs_9 : List (MethodName × Nat) := [(⟨"ShareLifeModel", "does", "(IIIIIJ)V"⟩, 138), (⟨"ShareLifeModel", "lay", "(III)V"⟩, 138), (⟨"ShareLifeModel", "doesOne", "(IIII)V"⟩, 138), (⟨"ShareLifeModel", "pays", "(JIJ)V"⟩, 138), (⟨"ShareLifeModel", "isTooMuch", "()Z"⟩, 138), (⟨"ShareLifeModel", "isTrade", "(I)Z"⟩, 138), (⟨"ShareLifeModel", "getsOf", "(IIJ)V"⟩, 138), (⟨"ShareLifeModel", "brings", "(IIIZIJ)V"⟩, 138), (⟨"ShareLifeModel", "bringsOne", "(IZJ)V"⟩, 138), (⟨"ShareLifeModel", "asksOption", "(II)I"⟩, 138), (⟨"ShareLifeModel", "becomes", "(II)I"⟩, 138), (⟨"ShareLifeModel", "isPlain", "(I)Z"⟩, 138), (⟨"ShareLifeModel", "changes", "(I)V"⟩, 138), (⟨"ShareLifeModel", "adds", "(JJ)V"⟩, 138), (⟨"ShareLifeModel", "times", "(JJJJ)V"⟩, 138), (⟨"ShareLifeModel", "bringsOf", "(III)J"⟩, 138)]
theorem lw_r9 : ∀ q ∈ lw_privs_9, lw_okq q := List.forall_mem_cons.mpr ⟨lw_p128, List.forall_mem_cons.mpr ⟨lw_p129, List.forall_mem_cons.mpr ⟨lw_p130, List.forall_mem_cons.mpr ⟨lw_p131, List.forall_mem_cons.mpr ⟨lw_p132, List.forall_mem_cons.mpr ⟨lw_p133, List.forall_mem_cons.mpr ⟨lw_p134, List.forall_mem_cons.mpr ⟨lw_p135, List.forall_mem_cons.mpr ⟨lw_p136, List.forall_mem_cons.mpr ⟨lw_p137, List.forall_mem_cons.mpr ⟨lw_p138, List.forall_mem_cons.mpr ⟨lw_p139, List.forall_mem_cons.mpr ⟨lw_p140, List.forall_mem_cons.mpr ⟨lw_p141, List.forall_mem_cons.mpr ⟨lw_p142, List.forall_mem_cons.mpr ⟨lw_p143, fun _ h => absurd h List.not_mem_nil⟩⟩⟩⟩⟩⟩⟩⟩⟩⟩⟩⟩⟩⟩⟩⟩
theorem lw_p144 : lw_okq (⟨"ShareLifeModel", "calledOf", "(II)I"⟩, 138) := ⟨⟨by decide +kernel, by decide +kernel⟩, List.mem_of_getElem? (i := 1565) (by decide +kernel), List.mem_of_getElem? (i := 2400) (by decide +kernel), List.mem_of_getElem? (i := 2401) (by decide +kernel)⟩
theorem lw_p145 : lw_okq (⟨"ShareLifeModel", "explains", "(IIJIIJI)Z"⟩, 138) := ⟨⟨by decide +kernel, by decide +kernel⟩, List.mem_of_getElem? (i := 1565) (by decide +kernel), List.mem_of_getElem? (i := 2417) (by decide +kernel), List.mem_of_getElem? (i := 2418) (by decide +kernel)⟩
def lw_privs_10 : List (MethodName × Nat) := [(⟨"ShareLifeModel", "calledOf", "(II)I"⟩, 138), (⟨"ShareLifeModel", "explains", "(IIJIIJI)Z"⟩, 138)]
theorem lw_r10 : ∀ q ∈ lw_privs_10, lw_okq q := List.forall_mem_cons.mpr ⟨lw_p144, List.forall_mem_cons.mpr ⟨lw_p145, fun _ h => absurd h List.not_mem_nil⟩⟩
def lw_privs : List (MethodName × Nat) := lw_privs_1 ++ (lw_privs_2 ++ (lw_privs_3 ++ (lw_privs_4 ++ (lw_privs_5 ++ (lw_privs_6 ++ (lw_privs_7 ++ (lw_privs_8 ++ (lw_privs_9 ++ (lw_privs_10)))))))))
def lw_tbl : List Cond := k2_sels lw_privs ++ tables_1
theorem lw_privs_ok : ∀ q ∈ lw_privs, lw_okq q := by
  show ∀ q ∈ lw_privs_1 ++ (lw_privs_2 ++ (lw_privs_3 ++ (lw_privs_4 ++ (lw_privs_5 ++ (lw_privs_6 ++ (lw_privs_7 ++ (lw_privs_8 ++ (lw_privs_9 ++ (lw_privs_10))))))))), lw_okq q
  exact List.forall_mem_append.mpr ⟨lw_r1, List.forall_mem_append.mpr ⟨lw_r2, List.forall_mem_append.mpr ⟨lw_r3, List.forall_mem_append.mpr ⟨lw_r4, List.forall_mem_append.mpr ⟨lw_r5, List.forall_mem_append.mpr ⟨lw_r6, List.forall_mem_append.mpr ⟨lw_r7, List.forall_mem_append.mpr ⟨lw_r8, List.forall_mem_append.mpr ⟨lw_r9, lw_r10⟩⟩⟩⟩⟩⟩⟩⟩⟩
-- ===== end of PART A; then your names; then what follows =====
/-! ===== BEGIN words of one list among another's, by their places ===== -/
/-! ===== END ===== -/

/-! ===== BEGIN new T[n][m]: the outer array a place, the inner ones among the pooled ===== -/
/-! ===== END ===== -/

/-! ===== BEGIN printed: names, fields, word lists, decode rows ===== -/
def RX0 : String := "ShareLife$Accounts"
def TX0 : u_T := fun k => match k with
  | 0 => ("ShareLife$Accounts", "count", "I", false)
  | 1 => ("ShareLife$Accounts", "under", "[I", true)
  | 2 => ("ShareLife$Accounts", "lead", "[I", true)
  | 3 => ("ShareLife$Accounts", "delay", "[I", true)
  | 4 => ("ShareLife$Accounts", "top", "[I", true)
  | 5 => ("ShareLife$Accounts", "leadsUp", "[I", true)
  | 6 => ("ShareLife$Accounts", "delaysUp", "[I", true)
  | 7 => ("ShareLife$Accounts", "firstKid", "[I", true)
  | 8 => ("ShareLife$Accounts", "lastKid", "[I", true)
  | 9 => ("ShareLife$Accounts", "nextKid", "[I", true)
  | 10 => ("ShareLife$Accounts", "mine", "[[J", true)
  | 11 => ("ShareLife$Accounts", "all", "[[J", true)
  | 12 => ("ShareLife$Accounts", "owed", "[J", true)
  | 13 => ("ShareLife$Accounts", "got", "[J", true)
  | 14 => ("ShareLife$Accounts", "who", "[I", true)
  | 15 => ("ShareLife$Accounts", "weight", "[J", true)
  | 16 => ("ShareLife$Accounts", "share", "[J", true)
  | _ => ("ShareLife$Accounts", "rest", "[J", true)
def tyX0 : Nat → FieldType := fun k => match k with
  | 0 => .int
  | 1 => .array .int
  | 2 => .array .int
  | 3 => .array .int
  | 4 => .array .int
  | 5 => .array .int
  | 6 => .array .int
  | 7 => .array .int
  | 8 => .array .int
  | 9 => .array .int
  | 10 => .array (.array .long)
  | 11 => .array (.array .long)
  | 12 => .array .long
  | 13 => .array .long
  | 14 => .array .int
  | 15 => .array .long
  | 16 => .array .long
  | _ => .array .long
theorem nmX0 : ∀ a, a < 18 → ∀ b, b < 18 → a ≠ b → (TX0 a).2.1 ≠ (TX0 b).2.1 := by decide +kernel
theorem tyX0_ok : ∀ k, k < 18 → parseFieldDescriptor (TX0 k).2.2.1 = some (tyX0 k) := by decide +kernel
abbrev cX0_init : ByteArray := prog_2_method_1_code
def yX0_init : MethodName := ⟨RX0, "<init>", "()V"⟩
abbrev cX0_hang : ByteArray := prog_2_method_2_code
def yX0_hang : MethodName := ⟨RX0, "hang", "(III)I"⟩
abbrev cX0_firstHand : ByteArray := prog_2_method_3_code
def yX0_firstHand : MethodName := ⟨RX0, "firstHand", "(I)I"⟩
abbrev cX0_slowHand : ByteArray := prog_2_method_4_code
def yX0_slowHand : MethodName := ⟨RX0, "slowHand", "(I)I"⟩
abbrev cX0_roll : ByteArray := prog_2_method_5_code
def yX0_roll : MethodName := ⟨RX0, "roll", "([J[J)V"⟩
abbrev cX0_rollRows : ByteArray := prog_2_method_6_code
def yX0_rollRows : MethodName := ⟨RX0, "rollRows", "()V"⟩
abbrev cX0_part : ByteArray := prog_2_method_7_code
def yX0_part : MethodName := ⟨RX0, "part", "(JII)V"⟩
abbrev cX0_split : ByteArray := prog_2_method_8_code
def yX0_split : MethodName := ⟨RX0, "split", "(JI)V"⟩
def RX1 : String := "ShareLife$Entry"
def TX1 : u_T := fun k => match k with
  | 0 => ("ShareLife$Told", "known", "I", true)
  | 1 => ("ShareLife$Told", "struck", "I", false)
  | 2 => ("ShareLife$Entry", "paper", "I", true)
  | 3 => ("ShareLife$Entry", "day", "I", true)
  | 4 => ("ShareLife$Entry", "number", "I", true)
  | 5 => ("ShareLife$Entry", "from", "I", false)
  | 6 => ("ShareLife$Entry", "to", "I", false)
  | 7 => ("ShareLife$Entry", "dealt", "I", false)
  | _ => ("ShareLife$Entry", "pennies", "I", false)
def tyX1 : Nat → FieldType := fun k => match k with
  | 0 => .int
  | 1 => .int
  | 2 => .int
  | 3 => .int
  | 4 => .int
  | 5 => .int
  | 6 => .int
  | 7 => .int
  | _ => .int
theorem nmX1 : ∀ a, a < 9 → ∀ b, b < 9 → a ≠ b → (TX1 a).2.1 ≠ (TX1 b).2.1 := by decide +kernel
theorem tyX1_ok : ∀ k, k < 9 → parseFieldDescriptor (TX1 k).2.2.1 = some (tyX1 k) := by decide +kernel
abbrev cX1_init : ByteArray := prog_3_method_1_code
def yX1_init : MethodName := ⟨RX1, "<init>", "(IIII)V"⟩
def RX2 : String := "ShareLife$Event"
def TX2 : u_T := fun k => match k with
  | 0 => ("ShareLife$Told", "known", "I", true)
  | 1 => ("ShareLife$Told", "struck", "I", false)
  | 2 => ("ShareLife$Event", "paper", "I", true)
  | 3 => ("ShareLife$Event", "text", "LShareLife$Text;", true)
  | 4 => ("ShareLife$Event", "ex", "I", false)
  | 5 => ("ShareLife$Event", "record", "I", false)
  | _ => ("ShareLife$Event", "last", "I", false)
def tyX2 : Nat → FieldType := fun k => match k with
  | 0 => .int
  | 1 => .int
  | 2 => .int
  | 3 => .object "ShareLife$Text"
  | 4 => .int
  | 5 => .int
  | _ => .int
theorem nmX2 : ∀ a, a < 7 → ∀ b, b < 7 → a ≠ b → (TX2 a).2.1 ≠ (TX2 b).2.1 := by decide +kernel
theorem tyX2_ok : ∀ k, k < 7 → parseFieldDescriptor (TX2 k).2.2.1 = some (tyX2 k) := by decide +kernel
abbrev cX2_init : ByteArray := prog_4_method_1_code
def yX2_init : MethodName := ⟨RX2, "<init>", "(ILShareLife$Text;I)V"⟩
def RX3 : String := "ShareLife$Flood"
def TX3 : u_T := fun k => match k with
  | 0 => ("ShareLife$Flood", "accounts", "LShareLife$Accounts;", true)
  | 1 => ("ShareLife$Flood", "held", "[[J", true)
  | 2 => ("ShareLife$Flood", "mine", "[[J", true)
  | 3 => ("ShareLife$Flood", "all", "[[J", true)
  | 4 => ("ShareLife$Flood", "owed", "[[J", true)
  | 5 => ("ShareLife$Flood", "got", "[[J", true)
  | 6 => ("ShareLife$Flood", "cut", "[[J", true)
  | 7 => ("ShareLife$Flood", "quota", "[J", true)
  | 8 => ("ShareLife$Flood", "who", "[I", true)
  | 9 => ("ShareLife$Flood", "weight", "[[J", true)
  | 10 => ("ShareLife$Flood", "share", "[[J", true)
  | 11 => ("ShareLife$Flood", "rest", "[[J", true)
  | 12 => ("ShareLife$Flood", "taken", "[[J", true)
  | 13 => ("ShareLife$Flood", "amount", "[J", true)
  | 14 => ("ShareLife$Flood", "sum", "[J", true)
  | 15 => ("ShareLife$Flood", "left", "[J", true)
  | _ => ("ShareLife$Flood", "one", "[J", true)
def tyX3 : Nat → FieldType := fun k => match k with
  | 0 => .object "ShareLife$Accounts"
  | 1 => .array (.array .long)
  | 2 => .array (.array .long)
  | 3 => .array (.array .long)
  | 4 => .array (.array .long)
  | 5 => .array (.array .long)
  | 6 => .array (.array .long)
  | 7 => .array .long
  | 8 => .array .int
  | 9 => .array (.array .long)
  | 10 => .array (.array .long)
  | 11 => .array (.array .long)
  | 12 => .array (.array .long)
  | 13 => .array .long
  | 14 => .array .long
  | 15 => .array .long
  | _ => .array .long
theorem nmX3 : ∀ a, a < 17 → ∀ b, b < 17 → a ≠ b → (TX3 a).2.1 ≠ (TX3 b).2.1 := by decide +kernel
theorem tyX3_ok : ∀ k, k < 17 → parseFieldDescriptor (TX3 k).2.2.1 = some (tyX3 k) := by decide +kernel
abbrev cX3_init : ByteArray := prog_5_method_1_code
def yX3_init : MethodName := ⟨RX3, "<init>", "(LShareLife$Accounts;)V"⟩
abbrev cX3_put : ByteArray := prog_5_method_2_code
def yX3_put : MethodName := ⟨RX3, "put", "([JJ)V"⟩
abbrev cX3_copy : ByteArray := prog_5_method_3_code
def yX3_copy : MethodName := ⟨RX3, "copy", "([J[J)V"⟩
abbrev cX3_addTimes : ByteArray := prog_5_method_4_code
def yX3_addTimes : MethodName := ⟨RX3, "addTimes", "([J[JJ)V"⟩
abbrev cX3_subtract : ByteArray := prog_5_method_5_code
def yX3_subtract : MethodName := ⟨RX3, "subtract", "([J[J)V"⟩
abbrev cX3_divide : ByteArray := prog_5_method_6_code
def yX3_divide : MethodName := ⟨RX3, "divide", "([JJ)J"⟩
abbrev cX3_isLess : ByteArray := prog_5_method_7_code
def yX3_isLess : MethodName := ⟨RX3, "isLess", "([J[J)Z"⟩
abbrev cX3_cutToLong : ByteArray := prog_5_method_8_code
def yX3_cutToLong : MethodName := ⟨RX3, "cutToLong", "([J)J"⟩
abbrev cX3_goOn : ByteArray := prog_5_method_9_code
def yX3_goOn : MethodName := ⟨RX3, "goOn", "(LShareLife$Run;)V"⟩
abbrev cX3_receive : ByteArray := prog_5_method_10_code
def yX3_receive : MethodName := ⟨RX3, "receive", "(LShareLife$Entry;)V"⟩
abbrev cX3_settle : ByteArray := prog_5_method_11_code
def yX3_settle : MethodName := ⟨RX3, "settle", "(LShareLife$Entry;)I"⟩
abbrev cX3_happen : ByteArray := prog_5_method_12_code
def yX3_happen : MethodName := ⟨RX3, "happen", "(LShareLife$Run;I)V"⟩
abbrev cX3_addUpRows : ByteArray := prog_5_method_13_code
def yX3_addUpRows : MethodName := ⟨RX3, "addUpRows", "()V"⟩
abbrev cX3_cutBack : ByteArray := prog_5_method_14_code
def yX3_cutBack : MethodName := ⟨RX3, "cutBack", "(LShareLife$Text;)V"⟩
abbrev cX3_allotTops : ByteArray := prog_5_method_15_code
def yX3_allotTops : MethodName := ⟨RX3, "allotTops", "(LShareLife$Text;I)Z"⟩
abbrev cX3_serve : ByteArray := prog_5_method_16_code
def yX3_serve : MethodName := ⟨RX3, "serve", "(LShareLife$Event;I)V"⟩
abbrev cX3_multiply : ByteArray := prog_5_method_17_code
def yX3_multiply : MethodName := ⟨RX3, "multiply", "(LShareLife$Text;II)J"⟩
abbrev cX3_come : ByteArray := prog_5_method_18_code
def yX3_come : MethodName := ⟨RX3, "come", "(II)V"⟩
abbrev cX3_go : ByteArray := prog_5_method_19_code
def yX3_go : MethodName := ⟨RX3, "go", "(II)V"⟩
abbrev cX3_deal : ByteArray := prog_5_method_20_code
def yX3_deal : MethodName := ⟨RX3, "deal", "([JII)V"⟩
abbrev cX3_apportion : ByteArray := prog_5_method_21_code
def yX3_apportion : MethodName := ⟨RX3, "apportion", "([JI)V"⟩
abbrev cX3_portion : ByteArray := prog_5_method_22_code
def yX3_portion : MethodName := ⟨RX3, "portion", "([JI)V"⟩
def RX4 : String := "ShareLife$Fraction"
def TX4 : u_T := fun k => match k with
  | 0 => ("ShareLife$Fraction", "above", "J", false)
  | 1 => ("ShareLife$Fraction", "below", "J", false)
  | 2 => ("ShareLife$Fraction", "over", "Z", false)
  | 3 => ("ShareLife$Fraction", "came", "[J", true)
  | 4 => ("ShareLife$Fraction", "went", "[J", true)
  | _ => ("ShareLife$Fraction", "by", "[J", true)
def tyX4 : Nat → FieldType := fun k => match k with
  | 0 => .long
  | 1 => .long
  | 2 => .boolean
  | 3 => .array .long
  | 4 => .array .long
  | _ => .array .long
theorem nmX4 : ∀ a, a < 6 → ∀ b, b < 6 → a ≠ b → (TX4 a).2.1 ≠ (TX4 b).2.1 := by decide +kernel
theorem tyX4_ok : ∀ k, k < 6 → parseFieldDescriptor (TX4 k).2.2.1 = some (tyX4 k) := by decide +kernel
abbrev cX4_init : ByteArray := prog_6_method_1_code
def yX4_init : MethodName := ⟨RX4, "<init>", "()V"⟩
abbrev cX4_put : ByteArray := prog_6_method_2_code
def yX4_put : MethodName := ⟨RX4, "put", "(J)V"⟩
abbrev cX4_times : ByteArray := prog_6_method_3_code
def yX4_times : MethodName := ⟨RX4, "times", "(JJ)V"⟩
abbrev cX4_plus : ByteArray := prog_6_method_4_code
def yX4_plus : MethodName := ⟨RX4, "plus", "(JJ)V"⟩
abbrev cX4_isLeft : ByteArray := prog_6_method_5_code
def yX4_isLeft : MethodName := ⟨RX4, "isLeft", "()Z"⟩
abbrev cX4_divisor : ByteArray := prog_6_method_6_code
def yX4_divisor : MethodName := ⟨RX4, "divisor", "(JJ)J"⟩
def RX5 : String := "ShareLife$Pick"
def TX5 : u_T := fun k => match k with
  | 0 => ("ShareLife$Told", "known", "I", true)
  | 1 => ("ShareLife$Told", "struck", "I", false)
  | 2 => ("ShareLife$Pick", "event", "I", true)
  | 3 => ("ShareLife$Pick", "account", "I", true)
  | 4 => ("ShareLife$Pick", "choice", "I", true)
  | _ => ("ShareLife$Pick", "day", "I", true)
def tyX5 : Nat → FieldType := fun k => match k with
  | 0 => .int
  | 1 => .int
  | 2 => .int
  | 3 => .int
  | 4 => .int
  | _ => .int
theorem nmX5 : ∀ a, a < 6 → ∀ b, b < 6 → a ≠ b → (TX5 a).2.1 ≠ (TX5 b).2.1 := by decide +kernel
theorem tyX5_ok : ∀ k, k < 6 → parseFieldDescriptor (TX5 k).2.2.1 = some (tyX5 k) := by decide +kernel
abbrev cX5_init : ByteArray := prog_7_method_1_code
def yX5_init : MethodName := ⟨RX5, "<init>", "(IIIII)V"⟩
def RX6 : String := "ShareLife$Reader"
def TX6 : u_T := fun k => match k with
  | 0 => ("ShareLife$Reader", "length", "I", false)
  | 1 => ("ShareLife$Reader", "flaw", "I", false)
  | 2 => ("ShareLife$Reader", "place", "I", false)
  | 3 => ("ShareLife$Reader", "tape", "[I", true)
  | 4 => ("ShareLife$Reader", "end", "I", false)
  | 5 => ("ShareLife$Reader", "at", "I", false)
  | 6 => ("ShareLife$Reader", "token", "I", false)
  | 7 => ("ShareLife$Reader", "start", "I", false)
  | 8 => ("ShareLife$Reader", "value", "I", false)
  | 9 => ("ShareLife$Reader", "text", "LShareLife$Text;", false)
  | 10 => ("ShareLife$Reader", "told", "I", false)
  | 11 => ("ShareLife$Reader", "depth", "I", false)
  | 12 => ("ShareLife$Reader", "opens", "[I", true)
  | 13 => ("ShareLife$Reader", "takesInside", "Z", false)
  | 14 => ("ShareLife$Reader", "takesOutside", "Z", false)
  | 15 => ("ShareLife$Reader", "nameStart", "[I", true)
  | _ => ("ShareLife$Reader", "nameEnd", "[I", true)
def tyX6 : Nat → FieldType := fun k => match k with
  | 0 => .int
  | 1 => .int
  | 2 => .int
  | 3 => .array .int
  | 4 => .int
  | 5 => .int
  | 6 => .int
  | 7 => .int
  | 8 => .int
  | 9 => .object "ShareLife$Text"
  | 10 => .int
  | 11 => .int
  | 12 => .array .int
  | 13 => .boolean
  | 14 => .boolean
  | 15 => .array .int
  | _ => .array .int
theorem nmX6 : ∀ a, a < 17 → ∀ b, b < 17 → a ≠ b → (TX6 a).2.1 ≠ (TX6 b).2.1 := by decide +kernel
theorem tyX6_ok : ∀ k, k < 17 → parseFieldDescriptor (TX6 k).2.2.1 = some (tyX6 k) := by decide +kernel
abbrev cX6_init : ByteArray := prog_8_method_1_code
def yX6_init : MethodName := ⟨RX6, "<init>", "()V"⟩
abbrev cX6_put : ByteArray := prog_8_method_2_code
def yX6_put : MethodName := ⟨RX6, "put", "(I)V"⟩
abbrev cX6_read : ByteArray := prog_8_method_3_code
def yX6_read : MethodName := ⟨RX6, "read", "(I)LShareLife$Text;"⟩
abbrev cX6_begin : ByteArray := prog_8_method_4_code
def yX6_begin : MethodName := ⟨RX6, "begin", "(I)V"⟩
abbrev cX6_advance : ByteArray := prog_8_method_5_code
def yX6_advance : MethodName := ⟨RX6, "advance", "()V"⟩
abbrev cX6_isLetter : ByteArray := prog_8_method_6_code
def yX6_isLetter : MethodName := ⟨RX6, "isLetter", "(I)Z"⟩
abbrev cX6_isDigit : ByteArray := prog_8_method_7_code
def yX6_isDigit : MethodName := ⟨RX6, "isDigit", "(I)Z"⟩
abbrev cX6_fail : ByteArray := prog_8_method_8_code
def yX6_fail : MethodName := ⟨RX6, "fail", "(I)Z"⟩
abbrev cX6_expect : ByteArray := prog_8_method_9_code
def yX6_expect : MethodName := ⟨RX6, "expect", "(I)Z"⟩
abbrev cX6_sign : ByteArray := prog_8_method_10_code
def yX6_sign : MethodName := ⟨RX6, "sign", "(I)Z"⟩
abbrev cX6_keyword : ByteArray := prog_8_method_11_code
def yX6_keyword : MethodName := ⟨RX6, "keyword", "(Ljava/lang/String;)V"⟩
abbrev cX6_is : ByteArray := prog_8_method_12_code
def yX6_is : MethodName := ⟨RX6, "is", "(Ljava/lang/String;)Z"⟩
abbrev cX6_number : ByteArray := prog_8_method_13_code
def yX6_number : MethodName := ⟨RX6, "number", "(II)I"⟩
abbrev cX6_close : ByteArray := prog_8_method_14_code
def yX6_close : MethodName := ⟨RX6, "close", "()V"⟩
abbrev cX6_push : ByteArray := prog_8_method_15_code
def yX6_push : MethodName := ⟨RX6, "push", "(I)V"⟩
abbrev cX6_clause : ByteArray := prog_8_method_16_code
def yX6_clause : MethodName := ⟨RX6, "clause", "()V"⟩
abbrev cX6_clauseWord : ByteArray := prog_8_method_17_code
def yX6_clauseWord : MethodName := ⟨RX6, "clauseWord", "()I"⟩
abbrev cX6_wordFault : ByteArray := prog_8_method_18_code
def yX6_wordFault : MethodName := ⟨RX6, "wordFault", "(I)I"⟩
abbrev cX6_isMisplaced : ByteArray := prog_8_method_19_code
def yX6_isMisplaced : MethodName := ⟨RX6, "isMisplaced", "(I)Z"⟩
abbrev cX6_row : ByteArray := prog_8_method_20_code
def yX6_row : MethodName := ⟨RX6, "row", "()I"⟩
abbrev cX6_store : ByteArray := prog_8_method_21_code
def yX6_store : MethodName := ⟨RX6, "store", "(IIII)V"⟩
abbrev cX6_moveWorth : ByteArray := prog_8_method_22_code
def yX6_moveWorth : MethodName := ⟨RX6, "moveWorth", "()V"⟩
abbrev cX6_ratio : ByteArray := prog_8_method_23_code
def yX6_ratio : MethodName := ⟨RX6, "ratio", "(I)V"⟩
abbrev cX6_fraction : ByteArray := prog_8_method_24_code
def yX6_fraction : MethodName := ⟨RX6, "fraction", "()V"⟩
abbrev cX6_when : ByteArray := prog_8_method_25_code
def yX6_when : MethodName := ⟨RX6, "when", "()V"⟩
abbrev cX6_isName : ByteArray := prog_8_method_26_code
def yX6_isName : MethodName := ⟨RX6, "isName", "()Z"⟩
abbrev cX6_named : ByteArray := prog_8_method_27_code
def yX6_named : MethodName := ⟨RX6, "named", "()I"⟩
abbrev cX6_choice : ByteArray := prog_8_method_28_code
def yX6_choice : MethodName := ⟨RX6, "choice", "()V"⟩
abbrev cX6_fallback : ByteArray := prog_8_method_29_code
def yX6_fallback : MethodName := ⟨RX6, "fallback", "()V"⟩
abbrev cX6_most : ByteArray := prog_8_method_30_code
def yX6_most : MethodName := ⟨RX6, "most", "()V"⟩
def RX7 : String := "ShareLife$Riddle"
def TX7 : u_T := fun k => match k with
  | 0 => ("ShareLife$Riddle", "count", "I", false)
  | 1 => ("ShareLife$Riddle", "ways", "I", false)
  | 2 => ("ShareLife$Riddle", "keptWays", "I", false)
  | 3 => ("ShareLife$Riddle", "keptSet", "I", false)
  | 4 => ("ShareLife$Riddle", "bestSet", "I", false)
  | 5 => ("ShareLife$Riddle", "from", "[I", true)
  | 6 => ("ShareLife$Riddle", "to", "[I", true)
  | 7 => ("ShareLife$Riddle", "day", "[I", true)
  | 8 => ("ShareLife$Riddle", "m", "[I", true)
  | 9 => ("ShareLife$Riddle", "n", "[I", true)
  | 10 => ("ShareLife$Riddle", "sure", "[Z", true)
  | 11 => ("ShareLife$Riddle", "order", "[I", true)
  | 12 => ("ShareLife$Riddle", "open", "I", false)
  | 13 => ("ShareLife$Riddle", "step", "[I", true)
  | 14 => ("ShareLife$Riddle", "paperAt", "[I", true)
  | 15 => ("ShareLife$Riddle", "sharesAt", "[J", true)
  | _ => ("ShareLife$Riddle", "setAt", "[I", true)
def tyX7 : Nat → FieldType := fun k => match k with
  | 0 => .int
  | 1 => .int
  | 2 => .int
  | 3 => .int
  | 4 => .int
  | 5 => .array .int
  | 6 => .array .int
  | 7 => .array .int
  | 8 => .array .int
  | 9 => .array .int
  | 10 => .array .boolean
  | 11 => .array .int
  | 12 => .int
  | 13 => .array .int
  | 14 => .array .int
  | 15 => .array .long
  | _ => .array .int
theorem nmX7 : ∀ a, a < 17 → ∀ b, b < 17 → a ≠ b → (TX7 a).2.1 ≠ (TX7 b).2.1 := by decide +kernel
theorem tyX7_ok : ∀ k, k < 17 → parseFieldDescriptor (TX7 k).2.2.1 = some (tyX7 k) := by decide +kernel
abbrev cX7_init : ByteArray := prog_9_method_1_code
def yX7_init : MethodName := ⟨RX7, "<init>", "()V"⟩
abbrev cX7_add : ByteArray := prog_9_method_2_code
def yX7_add : MethodName := ⟨RX7, "add", "(IIIIIZ)I"⟩
abbrev cX7_solve : ByteArray := prog_9_method_3_code
def yX7_solve : MethodName := ⟨RX7, "solve", "(IIIIII)V"⟩
abbrev cX7_leave : ByteArray := prog_9_method_4_code
def yX7_leave : MethodName := ⟨RX7, "leave", "(IIJI)V"⟩
abbrev cX7_walk : ByteArray := prog_9_method_5_code
def yX7_walk : MethodName := ⟨RX7, "walk", "(IIII)I"⟩
abbrev cX7_weigh : ByteArray := prog_9_method_6_code
def yX7_weigh : MethodName := ⟨RX7, "weigh", "(I)V"⟩
abbrev cX7_keep : ByteArray := prog_9_method_7_code
def yX7_keep : MethodName := ⟨RX7, "keep", "()V"⟩
abbrev cX7_inSet : ByteArray := prog_9_method_8_code
def yX7_inSet : MethodName := ⟨RX7, "inSet", "(I)I"⟩
def RX8 : String := "ShareLife$Run"
def TX8 : u_T := fun k => match k with
  | 0 => ("ShareLife$Run", "asof", "I", false)
  | 1 => ("ShareLife$Run", "stale", "Z", false)
  | 2 => ("ShareLife$Run", "over", "Z", false)
  | 3 => ("ShareLife$Run", "held", "[[J", true)
  | 4 => ("ShareLife$Run", "taxed", "[[J", true)
  | 5 => ("ShareLife$Run", "pennies", "[J", true)
  | 6 => ("ShareLife$Run", "realized", "[J", true)
  | 7 => ("ShareLife$Run", "settled", "[I", true)
  | 8 => ("ShareLife$Run", "kept", "[[J", true)
  | 9 => ("ShareLife$Run", "accounts", "LShareLife$Accounts;", true)
  | 10 => ("ShareLife$Run", "issues", "Ljava/util/ArrayList;", true)
  | 11 => ("ShareLife$Run", "trades", "Ljava/util/ArrayList;", true)
  | 12 => ("ShareLife$Run", "events", "Ljava/util/ArrayList;", true)
  | 13 => ("ShareLife$Run", "picks", "Ljava/util/ArrayList;", true)
  | 14 => ("ShareLife$Run", "order", "[I", true)
  | 15 => ("ShareLife$Run", "count", "I", false)
  | 16 => ("ShareLife$Run", "next", "I", false)
  | 17 => ("ShareLife$Run", "cut", "[J", true)
  | 18 => ("ShareLife$Run", "quota", "[J", true)
  | _ => ("ShareLife$Run", "firstGiven", "[I", true)
def tyX8 : Nat → FieldType := fun k => match k with
  | 0 => .int
  | 1 => .boolean
  | 2 => .boolean
  | 3 => .array (.array .long)
  | 4 => .array (.array .long)
  | 5 => .array .long
  | 6 => .array .long
  | 7 => .array .int
  | 8 => .array (.array .long)
  | 9 => .object "ShareLife$Accounts"
  | 10 => .object "java/util/ArrayList"
  | 11 => .object "java/util/ArrayList"
  | 12 => .object "java/util/ArrayList"
  | 13 => .object "java/util/ArrayList"
  | 14 => .array .int
  | 15 => .int
  | 16 => .int
  | 17 => .array .long
  | 18 => .array .long
  | _ => .array .int
theorem nmX8 : ∀ a, a < 20 → ∀ b, b < 20 → a ≠ b → (TX8 a).2.1 ≠ (TX8 b).2.1 := by decide +kernel
theorem tyX8_ok : ∀ k, k < 20 → parseFieldDescriptor (TX8 k).2.2.1 = some (tyX8 k) := by decide +kernel
abbrev cX8_init : ByteArray := prog_10_method_1_code
def yX8_init : MethodName := ⟨RX8, "<init>", "()V"⟩
abbrev cX8_to : ByteArray := prog_10_method_2_code
def yX8_to : MethodName := ⟨RX8, "to", "(I)V"⟩
abbrev cX8_dayAt : ByteArray := prog_10_method_3_code
def yX8_dayAt : MethodName := ⟨RX8, "dayAt", "(I)I"⟩
abbrev cX8_restart : ByteArray := prog_10_method_4_code
def yX8_restart : MethodName := ⟨RX8, "restart", "()V"⟩
abbrev cX8_line : ByteArray := prog_10_method_5_code
def yX8_line : MethodName := ⟨RX8, "line", "(LShareLife$Told;III)V"⟩
abbrev cX8_runIssue : ByteArray := prog_10_method_6_code
def yX8_runIssue : MethodName := ⟨RX8, "runIssue", "(LShareLife$Entry;)V"⟩
abbrev cX8_runTrade : ByteArray := prog_10_method_7_code
def yX8_runTrade : MethodName := ⟨RX8, "runTrade", "(LShareLife$Entry;I)V"⟩
abbrev cX8_inTime : ByteArray := prog_10_method_8_code
def yX8_inTime : MethodName := ⟨RX8, "inTime", "(LShareLife$Pick;I)Z"⟩
abbrev cX8_choiceOf : ByteArray := prog_10_method_9_code
def yX8_choiceOf : MethodName := ⟨RX8, "choiceOf", "(II)I"⟩
abbrev cX8_bearerOf : ByteArray := prog_10_method_10_code
def yX8_bearerOf : MethodName := ⟨RX8, "bearerOf", "(LShareLife$Pick;)I"⟩
abbrev cX8_runEvent : ByteArray := prog_10_method_11_code
def yX8_runEvent : MethodName := ⟨RX8, "runEvent", "(LShareLife$Event;I)V"⟩
abbrev cX8_sortShares : ByteArray := prog_10_method_12_code
def yX8_sortShares : MethodName := ⟨RX8, "sortShares", "(LShareLife$Event;I)V"⟩
abbrev cX8_cutBack : ByteArray := prog_10_method_13_code
def yX8_cutBack : MethodName := ⟨RX8, "cutBack", "(LShareLife$Text;)V"⟩
abbrev cX8_allotTops : ByteArray := prog_10_method_14_code
def yX8_allotTops : MethodName := ⟨RX8, "allotTops", "(LShareLife$Text;I)Z"⟩
abbrev cX8_serve : ByteArray := prog_10_method_15_code
def yX8_serve : MethodName := ⟨RX8, "serve", "(LShareLife$Event;I)V"⟩
abbrev cX8_hand : ByteArray := prog_10_method_16_code
def yX8_hand : MethodName := ⟨RX8, "hand", "([JJII)V"⟩
abbrev cX8_noteGiven : ByteArray := prog_10_method_17_code
def yX8_noteGiven : MethodName := ⟨RX8, "noteGiven", "(IJI)V"⟩
abbrev cX8_moveWorth : ByteArray := prog_10_method_18_code
def yX8_moveWorth : MethodName := ⟨RX8, "moveWorth", "(ILShareLife$Text;II)V"⟩
abbrev cX8_moveLeftWorth : ByteArray := prog_10_method_19_code
def yX8_moveLeftWorth : MethodName := ⟨RX8, "moveLeftWorth", "(I)V"⟩
abbrev cX8_watch : ByteArray := prog_10_method_20_code
def yX8_watch : MethodName := ⟨RX8, "watch", "()V"⟩
def RX9 : String := "ShareLife$Text"
def TX9 : u_T := fun k => match k with
  | 0 => ("ShareLife$Text", "size", "I", false)
  | 1 => ("ShareLife$Text", "choiceCount", "I", false)
  | 2 => ("ShareLife$Text", "fallback", "I", false)
  | 3 => ("ShareLife$Text", "kind", "[I", true)
  | 4 => ("ShareLife$Text", "m", "[I", true)
  | 5 => ("ShareLife$Text", "q", "[I", true)
  | 6 => ("ShareLife$Text", "n", "[I", true)
  | 7 => ("ShareLife$Text", "row", "[I", true)
  | 8 => ("ShareLife$Text", "inside", "[I", true)
  | 9 => ("ShareLife$Text", "most", "[I", true)
  | 10 => ("ShareLife$Text", "small", "[I", true)
  | 11 => ("ShareLife$Text", "holding", "[J", true)
  | 12 => ("ShareLife$Text", "live", "[Z", true)
  | 13 => ("ShareLife$Text", "rule", "[I", true)
  | 14 => ("ShareLife$Text", "shares", "[J", true)
  | _ => ("ShareLife$Text", "pennies", "[J", true)
def tyX9 : Nat → FieldType := fun k => match k with
  | 0 => .int
  | 1 => .int
  | 2 => .int
  | 3 => .array .int
  | 4 => .array .int
  | 5 => .array .int
  | 6 => .array .int
  | 7 => .array .int
  | 8 => .array .int
  | 9 => .array .int
  | 10 => .array .int
  | 11 => .array .long
  | 12 => .array .boolean
  | 13 => .array .int
  | 14 => .array .long
  | _ => .array .long
theorem nmX9 : ∀ a, a < 16 → ∀ b, b < 16 → a ≠ b → (TX9 a).2.1 ≠ (TX9 b).2.1 := by decide +kernel
theorem tyX9_ok : ∀ k, k < 16 → parseFieldDescriptor (TX9 k).2.2.1 = some (tyX9 k) := by decide +kernel
abbrev cX9_init : ByteArray := prog_11_method_1_code
def yX9_init : MethodName := ⟨RX9, "<init>", "()V"⟩
abbrev cX9_clear : ByteArray := prog_11_method_2_code
def yX9_clear : MethodName := ⟨RX9, "clear", "()V"⟩
abbrev cX9_work : ByteArray := prog_11_method_3_code
def yX9_work : MethodName := ⟨RX9, "work", "()V"⟩
abbrev cX9_isLive : ByteArray := prog_11_method_4_code
def yX9_isLive : MethodName := ⟨RX9, "isLive", "(I)Z"⟩
abbrev cX9_ratio : ByteArray := prog_11_method_5_code
def yX9_ratio : MethodName := ⟨RX9, "ratio", "(JI)J"⟩
abbrev cX9_give : ByteArray := prog_11_method_6_code
def yX9_give : MethodName := ⟨RX9, "give", "(IJI)V"⟩
abbrev cX9_isOneMore : ByteArray := prog_11_method_7_code
def yX9_isOneMore : MethodName := ⟨RX9, "isOneMore", "(IJ)Z"⟩
abbrev cX9_taken : ByteArray := prog_11_method_8_code
def yX9_taken : MethodName := ⟨RX9, "taken", "(I)J"⟩
abbrev cX9_isPlain : ByteArray := prog_11_method_9_code
def yX9_isPlain : MethodName := ⟨RX9, "isPlain", "()Z"⟩
abbrev cX9_firstGive : ByteArray := prog_11_method_10_code
def yX9_firstGive : MethodName := ⟨RX9, "firstGive", "()I"⟩
abbrev cX9_takesAll : ByteArray := prog_11_method_11_code
def yX9_takesAll : MethodName := ⟨RX9, "takesAll", "()Z"⟩
abbrev cX9_addUp : ByteArray := prog_11_method_12_code
def yX9_addUp : MethodName := ⟨RX9, "addUp", "(ILShareLife$Fraction;)V"⟩
def RX10 : String := "ShareLife$Told"
abbrev cX10_init : ByteArray := prog_12_method_1_code
def yX10_init : MethodName := ⟨RX10, "<init>", "(I)V"⟩
abbrev cX10_counts : ByteArray := prog_12_method_2_code
def yX10_counts : MethodName := ⟨RX10, "counts", "(I)Z"⟩
def RX11 : String := "ShareLife"
def TX11 : u_T := fun k => match k with
  | 0 => ("ShareLife", "state", "I", false)
  | 1 => ("ShareLife", "latest", "I", false)
  | 2 => ("ShareLife", "optionPaper", "I", false)
  | 3 => ("ShareLife", "shownUpper", "J", false)
  | 4 => ("ShareLife", "shownLower", "J", false)
  | 5 => ("ShareLife", "accounts", "LShareLife$Accounts;", true)
  | 6 => ("ShareLife", "issues", "Ljava/util/ArrayList;", true)
  | 7 => ("ShareLife", "trades", "Ljava/util/ArrayList;", true)
  | 8 => ("ShareLife", "events", "Ljava/util/ArrayList;", true)
  | 9 => ("ShareLife", "picks", "Ljava/util/ArrayList;", true)
  | 10 => ("ShareLife", "options", "Ljava/util/ArrayList;", true)
  | 11 => ("ShareLife", "names", "Ljava/util/ArrayList;", true)
  | 12 => ("ShareLife", "rates", "[I", true)
  | 13 => ("ShareLife", "strikeNow", "LShareLife$Fraction;", true)
  | 14 => ("ShareLife", "numberNow", "LShareLife$Fraction;", true)
  | 15 => ("ShareLife", "factor", "LShareLife$Fraction;", true)
  | 16 => ("ShareLife", "reader", "LShareLife$Reader;", true)
  | 17 => ("ShareLife", "run", "LShareLife$Run;", true)
  | 18 => ("ShareLife", "riddle", "LShareLife$Riddle;", true)
  | _ => ("ShareLife", "flood", "LShareLife$Flood;", false)
def tyX11 : Nat → FieldType := fun k => match k with
  | 0 => .int
  | 1 => .int
  | 2 => .int
  | 3 => .long
  | 4 => .long
  | 5 => .object "ShareLife$Accounts"
  | 6 => .object "java/util/ArrayList"
  | 7 => .object "java/util/ArrayList"
  | 8 => .object "java/util/ArrayList"
  | 9 => .object "java/util/ArrayList"
  | 10 => .object "java/util/ArrayList"
  | 11 => .object "java/util/ArrayList"
  | 12 => .array .int
  | 13 => .object "ShareLife$Fraction"
  | 14 => .object "ShareLife$Fraction"
  | 15 => .object "ShareLife$Fraction"
  | 16 => .object "ShareLife$Reader"
  | 17 => .object "ShareLife$Run"
  | 18 => .object "ShareLife$Riddle"
  | _ => .object "ShareLife$Flood"
theorem nmX11 : ∀ a, a < 20 → ∀ b, b < 20 → a ≠ b → (TX11 a).2.1 ≠ (TX11 b).2.1 := by decide +kernel
theorem tyX11_ok : ∀ k, k < 20 → parseFieldDescriptor (TX11 k).2.2.1 = some (tyX11 k) := by decide +kernel
abbrev cX11_init : ByteArray := prog_1_method_1_code
def yX11_init : MethodName := ⟨RX11, "<init>", "()V"⟩
abbrev cX11_status : ByteArray := prog_1_method_2_code
def yX11_status : MethodName := ⟨RX11, "status", "()I"⟩
abbrev cX11_asof : ByteArray := prog_1_method_3_code
def yX11_asof : MethodName := ⟨RX11, "asof", "(I)Z"⟩
abbrev cX11_account : ByteArray := prog_1_method_4_code
def yX11_account : MethodName := ⟨RX11, "account", "(III)I"⟩
abbrev cX11_issue : ByteArray := prog_1_method_5_code
def yX11_issue : MethodName := ⟨RX11, "issue", "(IIIIII)Z"⟩
abbrev cX11_trade : ByteArray := prog_1_method_6_code
def yX11_trade : MethodName := ⟨RX11, "trade", "(IIIIIII)I"⟩
abbrev cX11_feed : ByteArray := prog_1_method_7_code
def yX11_feed : MethodName := ⟨RX11, "feed", "(IIIII)I"⟩
abbrev cX11_event : ByteArray := prog_1_method_8_code
def yX11_event : MethodName := ⟨RX11, "event", "(IIIIII)I"⟩
abbrev cX11_fault : ByteArray := prog_1_method_9_code
def yX11_fault : MethodName := ⟨RX11, "fault", "(I)I"⟩
abbrev cX11_choices : ByteArray := prog_1_method_10_code
def yX11_choices : MethodName := ⟨RX11, "choices", "(I)I"⟩
abbrev cX11_choose : ByteArray := prog_1_method_11_code
def yX11_choose : MethodName := ⟨RX11, "choose", "(IIIII)I"⟩
abbrev cX11_strike : ByteArray := prog_1_method_12_code
def yX11_strike : MethodName := ⟨RX11, "strike", "(III)Z"⟩
abbrev cX11_toldBy : ByteArray := prog_1_method_13_code
def yX11_toldBy : MethodName := ⟨RX11, "toldBy", "(II)LShareLife$Told;"⟩
abbrev cX11_own : ByteArray := prog_1_method_14_code
def yX11_own : MethodName := ⟨RX11, "own", "(III)I"⟩
abbrev cX11_total : ByteArray := prog_1_method_15_code
def yX11_total : MethodName := ⟨RX11, "total", "(III)I"⟩
abbrev cX11_worth : ByteArray := prog_1_method_16_code
def yX11_worth : MethodName := ⟨RX11, "worth", "(III)J"⟩
abbrev cX11_coin : ByteArray := prog_1_method_17_code
def yX11_coin : MethodName := ⟨RX11, "coin", "(III)J"⟩
abbrev cX11_chosen : ByteArray := prog_1_method_18_code
def yX11_chosen : MethodName := ⟨RX11, "chosen", "(II)I"⟩
abbrev cX11_stays : ByteArray := prog_1_method_19_code
def yX11_stays : MethodName := ⟨RX11, "stays", "(III)I"⟩
abbrev cX11_bears : ByteArray := prog_1_method_20_code
def yX11_bears : MethodName := ⟨RX11, "bears", "(I)I"⟩
abbrev cX11_noneOrUntold : ByteArray := prog_1_method_21_code
def yX11_noneOrUntold : MethodName := ⟨RX11, "noneOrUntold", "(IZ)I"⟩
abbrev cX11_done : ByteArray := prog_1_method_22_code
def yX11_done : MethodName := ⟨RX11, "done", "(I)I"⟩
abbrev cX11_due : ByteArray := prog_1_method_23_code
def yX11_due : MethodName := ⟨RX11, "due", "(III)J"⟩
abbrev cX11_settledStatus : ByteArray := prog_1_method_24_code
def yX11_settledStatus : MethodName := ⟨RX11, "settledStatus", "(I)I"⟩
abbrev cX11_owingSide : ByteArray := prog_1_method_25_code
def yX11_owingSide : MethodName := ⟨RX11, "owingSide", "(LShareLife$Entry;LShareLife$Event;)I"⟩
abbrev cX11_givenTo : ByteArray := prog_1_method_26_code
def yX11_givenTo : MethodName := ⟨RX11, "givenTo", "(LShareLife$Text;II)J"⟩
abbrev cX11_workFor : ByteArray := prog_1_method_27_code
def yX11_workFor : MethodName := ⟨RX11, "workFor", "(LShareLife$Text;II)V"⟩
abbrev cX11_option : ByteArray := prog_1_method_28_code
def yX11_option : MethodName := ⟨RX11, "option", "(IIIII)I"⟩
abbrev cX11_optionOn : ByteArray := prog_1_method_29_code
def yX11_optionOn : MethodName := ⟨RX11, "optionOn", "(II)I"⟩
abbrev cX11_term : ByteArray := prog_1_method_30_code
def yX11_term : MethodName := ⟨RX11, "term", "(III)Z"⟩
abbrev cX11_upper : ByteArray := prog_1_method_31_code
def yX11_upper : MethodName := ⟨RX11, "upper", "()J"⟩
abbrev cX11_lower : ByteArray := prog_1_method_32_code
def yX11_lower : MethodName := ⟨RX11, "lower", "()J"⟩
abbrev cX11_isOptionDay : ByteArray := prog_1_method_33_code
def yX11_isOptionDay : MethodName := ⟨RX11, "isOptionDay", "(II)Z"⟩
abbrev cX11_follow : ByteArray := prog_1_method_34_code
def yX11_follow : MethodName := ⟨RX11, "follow", "(LShareLife$Entry;I)I"⟩
abbrev cX11_nextEvent : ByteArray := prog_1_method_35_code
def yX11_nextEvent : MethodName := ⟨RX11, "nextEvent", "(II)I"⟩
abbrev cX11_adjust : ByteArray := prog_1_method_36_code
def yX11_adjust : MethodName := ⟨RX11, "adjust", "(LShareLife$Event;)Z"⟩
abbrev cX11_rate : ByteArray := prog_1_method_37_code
def yX11_rate : MethodName := ⟨RX11, "rate", "(II)Z"⟩
abbrev cX11_brings : ByteArray := prog_1_method_38_code
def yX11_brings : MethodName := ⟨RX11, "brings", "(III)J"⟩
abbrev cX11_best : ByteArray := prog_1_method_39_code
def yX11_best : MethodName := ⟨RX11, "best", "(II)I"⟩
abbrev cX11_valueOf : ByteArray := prog_1_method_40_code
def yX11_valueOf : MethodName := ⟨RX11, "valueOf", "(LShareLife$Event;II)J"⟩
abbrev cX11_name : ByteArray := prog_1_method_41_code
def yX11_name : MethodName := ⟨RX11, "name", "(IIII)Z"⟩
abbrev cX11_called : ByteArray := prog_1_method_42_code
def yX11_called : MethodName := ⟨RX11, "called", "(II)I"⟩
abbrev cX11_find : ByteArray := prog_1_method_43_code
def yX11_find : MethodName := ⟨RX11, "find", "(III)I"⟩
abbrev cX11_nameOf : ByteArray := prog_1_method_44_code
def yX11_nameOf : MethodName := ⟨RX11, "nameOf", "(II)I"⟩
abbrev cX11_hint : ByteArray := prog_1_method_45_code
def yX11_hint : MethodName := ⟨RX11, "hint", "(IIIIIZ)I"⟩
abbrev cX11_explain : ByteArray := prog_1_method_46_code
def yX11_explain : MethodName := ⟨RX11, "explain", "(IIIIII)I"⟩
abbrev cX11_rivals : ByteArray := prog_1_method_47_code
def yX11_rivals : MethodName := ⟨RX11, "rivals", "()I"⟩
abbrev cX11_because : ByteArray := prog_1_method_48_code
def yX11_because : MethodName := ⟨RX11, "because", "(I)I"⟩
abbrev cX11_refused : ByteArray := prog_1_method_49_code
def yX11_refused : MethodName := ⟨RX11, "refused", "(I)Z"⟩
abbrev cX11_first : ByteArray := prog_1_method_50_code
def yX11_first : MethodName := ⟨RX11, "first", "(ZZZZ)I"⟩
abbrev cX11_tell : ByteArray := prog_1_method_51_code
def yX11_tell : MethodName := ⟨RX11, "tell", "(I)V"⟩
abbrev cX11_within : ByteArray := prog_1_method_52_code
def yX11_within : MethodName := ⟨RX11, "within", "(III)Z"⟩
abbrev cX11_isDay : ByteArray := prog_1_method_53_code
def yX11_isDay : MethodName := ⟨RX11, "isDay", "(I)Z"⟩
abbrev cX11_isPaper : ByteArray := prog_1_method_54_code
def yX11_isPaper : MethodName := ⟨RX11, "isPaper", "(I)Z"⟩
abbrev cX11_hasAccount : ByteArray := prog_1_method_55_code
def yX11_hasAccount : MethodName := ⟨RX11, "hasAccount", "(I)Z"⟩
abbrev cX11_hasTrade : ByteArray := prog_1_method_56_code
def yX11_hasTrade : MethodName := ⟨RX11, "hasTrade", "(I)Z"⟩
abbrev cX11_hasEvent : ByteArray := prog_1_method_57_code
def yX11_hasEvent : MethodName := ⟨RX11, "hasEvent", "(I)Z"⟩
abbrev cX11_hasChoice : ByteArray := prog_1_method_58_code
def yX11_hasChoice : MethodName := ⟨RX11, "hasChoice", "(II)Z"⟩
abbrev cX11_hasPick : ByteArray := prog_1_method_59_code
def yX11_hasPick : MethodName := ⟨RX11, "hasPick", "(I)Z"⟩
abbrev cX11_hasOption : ByteArray := prog_1_method_60_code
def yX11_hasOption : MethodName := ⟨RX11, "hasOption", "(I)Z"⟩
def RX12 : String := "ShareLifeModel"
def TX12 : u_T := fun k => match k with
  | 0 => ("ShareLifeModel", "status", "I", false)
  | 1 => ("ShareLifeModel", "thrown", "I", false)
  | 2 => ("ShareLifeModel", "asof", "I", false)
  | 3 => ("ShareLifeModel", "latest", "I", false)
  | 4 => ("ShareLifeModel", "above", "J", false)
  | 5 => ("ShareLifeModel", "under", "J", false)
  | 6 => ("ShareLifeModel", "accounts", "I", false)
  | 7 => ("ShareLifeModel", "issues", "I", false)
  | 8 => ("ShareLifeModel", "trades", "I", false)
  | 9 => ("ShareLifeModel", "events", "I", false)
  | 10 => ("ShareLifeModel", "says", "I", false)
  | 11 => ("ShareLifeModel", "options", "I", false)
  | 12 => ("ShareLifeModel", "names", "I", false)
  | 13 => ("ShareLifeModel", "hints", "I", false)
  | 14 => ("ShareLifeModel", "hand", "[I", true)
  | 15 => ("ShareLifeModel", "lead", "[I", true)
  | 16 => ("ShareLifeModel", "delay", "[I", true)
  | 17 => ("ShareLifeModel", "issueTo", "[I", true)
  | 18 => ("ShareLifeModel", "issuePaper", "[I", true)
  | 19 => ("ShareLifeModel", "issueDay", "[I", true)
  | 20 => ("ShareLifeModel", "issueShares", "[I", true)
  | 21 => ("ShareLifeModel", "issueWorth", "[I", true)
  | 22 => ("ShareLifeModel", "issueKnown", "[I", true)
  | 23 => ("ShareLifeModel", "tradeFrom", "[I", true)
  | 24 => ("ShareLifeModel", "tradeTo", "[I", true)
  | 25 => ("ShareLifeModel", "tradePaper", "[I", true)
  | 26 => ("ShareLifeModel", "tradeShares", "[I", true)
  | 27 => ("ShareLifeModel", "dealt", "[I", true)
  | 28 => ("ShareLifeModel", "settled", "[I", true)
  | 29 => ("ShareLifeModel", "tradeKnown", "[I", true)
  | 30 => ("ShareLifeModel", "tradeStruck", "[I", true)
  | 31 => ("ShareLifeModel", "isDone", "[Z", true)
  | 32 => ("ShareLifeModel", "eventPaper", "[I", true)
  | 33 => ("ShareLifeModel", "exDay", "[I", true)
  | 34 => ("ShareLifeModel", "record", "[I", true)
  | 35 => ("ShareLifeModel", "lastDay", "[I", true)
  | 36 => ("ShareLifeModel", "eventKnown", "[I", true)
  | 37 => ("ShareLifeModel", "eventStruck", "[I", true)
  | 38 => ("ShareLifeModel", "clauseMany", "[I", true)
  | 39 => ("ShareLifeModel", "choiceMany", "[I", true)
  | 40 => ("ShareLifeModel", "byDefault", "[I", true)
  | 41 => ("ShareLifeModel", "kind", "[I", true)
  | 42 => ("ShareLifeModel", "one", "[I", true)
  | 43 => ("ShareLifeModel", "two", "[I", true)
  | 44 => ("ShareLifeModel", "paper", "[I", true)
  | 45 => ("ShareLifeModel", "mid", "[I", true)
  | 46 => ("ShareLifeModel", "end", "[I", true)
  | 47 => ("ShareLifeModel", "choiceAt", "[I", true)
  | 48 => ("ShareLifeModel", "mostOf", "[I", true)
  | 49 => ("ShareLifeModel", "smallOf", "[I", true)
  | 50 => ("ShareLifeModel", "sayEvent", "[I", true)
  | 51 => ("ShareLifeModel", "sayAccount", "[I", true)
  | 52 => ("ShareLifeModel", "sayChoice", "[I", true)
  | 53 => ("ShareLifeModel", "sayDay", "[I", true)
  | 54 => ("ShareLifeModel", "sayKnown", "[I", true)
  | 55 => ("ShareLifeModel", "sayStruck", "[I", true)
  | 56 => ("ShareLifeModel", "optionPaper", "[I", true)
  | 57 => ("ShareLifeModel", "optionDay", "[I", true)
  | 58 => ("ShareLifeModel", "optionStrike", "[I", true)
  | 59 => ("ShareLifeModel", "optionNumber", "[I", true)
  | 60 => ("ShareLifeModel", "optionKnown", "[I", true)
  | 61 => ("ShareLifeModel", "rates", "[I", true)
  | 62 => ("ShareLifeModel", "nameOf", "[I", true)
  | 63 => ("ShareLifeModel", "nameIs", "[I", true)
  | 64 => ("ShareLifeModel", "nameDay", "[I", true)
  | 65 => ("ShareLifeModel", "nameKnown", "[I", true)
  | 66 => ("ShareLifeModel", "hintFrom", "[I", true)
  | 67 => ("ShareLifeModel", "hintTo", "[I", true)
  | 68 => ("ShareLifeModel", "hintDay", "[I", true)
  | 69 => ("ShareLifeModel", "hintM", "[I", true)
  | 70 => ("ShareLifeModel", "hintN", "[I", true)
  | 71 => ("ShareLifeModel", "hintOrder", "[I", true)
  | 72 => ("ShareLifeModel", "isSure", "[Z", true)
  | 73 => ("ShareLifeModel", "best", "I", false)
  | 74 => ("ShareLifeModel", "rivals", "I", false)
  | 75 => ("ShareLifeModel", "tape", "[B", true)
  | 76 => ("ShareLifeModel", "taped", "I", false)
  | 77 => ("ShareLifeModel", "textEnd", "I", false)
  | 78 => ("ShareLifeModel", "faultKind", "I", false)
  | 79 => ("ShareLifeModel", "faultAt", "I", false)
  | 80 => ("ShareLifeModel", "bad", "I", false)
  | 81 => ("ShareLifeModel", "badAt", "I", false)
  | 82 => ("ShareLifeModel", "sort", "I", false)
  | 83 => ("ShareLifeModel", "at", "I", false)
  | 84 => ("ShareLifeModel", "behind", "I", false)
  | 85 => ("ShareLifeModel", "number", "I", false)
  | 86 => ("ShareLifeModel", "letters", "I", false)
  | 87 => ("ShareLifeModel", "word", "J", false)
  | 88 => ("ShareLifeModel", "newMany", "I", false)
  | 89 => ("ShareLifeModel", "newChoices", "I", false)
  | 90 => ("ShareLifeModel", "newDefault", "I", false)
  | 91 => ("ShareLifeModel", "takesInside", "Z", false)
  | 92 => ("ShareLifeModel", "takesOutside", "Z", false)
  | 93 => ("ShareLifeModel", "choiceName", "[J", true)
  | 94 => ("ShareLifeModel", "newKind", "[I", true)
  | 95 => ("ShareLifeModel", "newOne", "[I", true)
  | 96 => ("ShareLifeModel", "newTwo", "[I", true)
  | 97 => ("ShareLifeModel", "newPaper", "[I", true)
  | 98 => ("ShareLifeModel", "newMid", "[I", true)
  | 99 => ("ShareLifeModel", "newEnd", "[I", true)
  | 100 => ("ShareLifeModel", "newChoiceAt", "[I", true)
  | 101 => ("ShareLifeModel", "newMost", "[I", true)
  | 102 => ("ShareLifeModel", "newSmall", "[I", true)
  | 103 => ("ShareLifeModel", "own", "[J", true)
  | 104 => ("ShareLifeModel", "worth", "[J", true)
  | 105 => ("ShareLifeModel", "coins", "[J", true)
  | 106 => ("ShareLifeModel", "realized", "[J", true)
  | 107 => ("ShareLifeModel", "ahead", "[J", true)
  | 108 => ("ShareLifeModel", "stay", "[J", true)
  | 109 => ("ShareLifeModel", "amount", "[J", true)
  | 110 => ("ShareLifeModel", "come", "[J", true)
  | 111 => ("ShareLifeModel", "pennies", "[J", true)
  | 112 => ("ShareLifeModel", "base", "[J", true)
  | 113 => ("ShareLifeModel", "part", "[J", true)
  | 114 => ("ShareLifeModel", "arrive", "[J", true)
  | 115 => ("ShareLifeModel", "below", "[J", true)
  | 116 => ("ShareLifeModel", "taken", "[J", true)
  | 117 => ("ShareLifeModel", "keep", "[J", true)
  | 118 => ("ShareLifeModel", "chosen", "[I", true)
  | 119 => ("ShareLifeModel", "given", "[I", true)
  | 120 => ("ShareLifeModel", "rule", "I", false)
  | 121 => ("ShareLifeModel", "gets", "[J", true)
  | 122 => ("ShareLifeModel", "getsPennies", "J", false)
  | 123 => ("ShareLifeModel", "goesOut", "J", false)
  | 124 => ("ShareLifeModel", "goesIn", "J", false)
  | 125 => ("ShareLifeModel", "whole", "[J", true)
  | 126 => ("ShareLifeModel", "rest", "[J", true)
  | 127 => ("ShareLifeModel", "isWhole", "[Z", true)
  | 128 => ("ShareLifeModel", "on", "I", false)
  | 129 => ("ShareLifeModel", "strikeTop", "J", false)
  | 130 => ("ShareLifeModel", "strikeLow", "J", false)
  | 131 => ("ShareLifeModel", "numberTop", "J", false)
  | 132 => ("ShareLifeModel", "numberLow", "J", false)
  | 133 => ("ShareLifeModel", "factorTop", "J", false)
  | 134 => ("ShareLifeModel", "factorLow", "J", false)
  | 135 => ("ShareLifeModel", "isFar", "Z", false)
  | 136 => ("ShareLifeModel", "productTop", "J", false)
  | _ => ("ShareLifeModel", "productLow", "J", false)
def tyX12 : Nat → FieldType := fun k => match k with
  | 0 => .int
  | 1 => .int
  | 2 => .int
  | 3 => .int
  | 4 => .long
  | 5 => .long
  | 6 => .int
  | 7 => .int
  | 8 => .int
  | 9 => .int
  | 10 => .int
  | 11 => .int
  | 12 => .int
  | 13 => .int
  | 14 => .array .int
  | 15 => .array .int
  | 16 => .array .int
  | 17 => .array .int
  | 18 => .array .int
  | 19 => .array .int
  | 20 => .array .int
  | 21 => .array .int
  | 22 => .array .int
  | 23 => .array .int
  | 24 => .array .int
  | 25 => .array .int
  | 26 => .array .int
  | 27 => .array .int
  | 28 => .array .int
  | 29 => .array .int
  | 30 => .array .int
  | 31 => .array .boolean
  | 32 => .array .int
  | 33 => .array .int
  | 34 => .array .int
  | 35 => .array .int
  | 36 => .array .int
  | 37 => .array .int
  | 38 => .array .int
  | 39 => .array .int
  | 40 => .array .int
  | 41 => .array .int
  | 42 => .array .int
  | 43 => .array .int
  | 44 => .array .int
  | 45 => .array .int
  | 46 => .array .int
  | 47 => .array .int
  | 48 => .array .int
  | 49 => .array .int
  | 50 => .array .int
  | 51 => .array .int
  | 52 => .array .int
  | 53 => .array .int
  | 54 => .array .int
  | 55 => .array .int
  | 56 => .array .int
  | 57 => .array .int
  | 58 => .array .int
  | 59 => .array .int
  | 60 => .array .int
  | 61 => .array .int
  | 62 => .array .int
  | 63 => .array .int
  | 64 => .array .int
  | 65 => .array .int
  | 66 => .array .int
  | 67 => .array .int
  | 68 => .array .int
  | 69 => .array .int
  | 70 => .array .int
  | 71 => .array .int
  | 72 => .array .boolean
  | 73 => .int
  | 74 => .int
  | 75 => .array .byte
  | 76 => .int
  | 77 => .int
  | 78 => .int
  | 79 => .int
  | 80 => .int
  | 81 => .int
  | 82 => .int
  | 83 => .int
  | 84 => .int
  | 85 => .int
  | 86 => .int
  | 87 => .long
  | 88 => .int
  | 89 => .int
  | 90 => .int
  | 91 => .boolean
  | 92 => .boolean
  | 93 => .array .long
  | 94 => .array .int
  | 95 => .array .int
  | 96 => .array .int
  | 97 => .array .int
  | 98 => .array .int
  | 99 => .array .int
  | 100 => .array .int
  | 101 => .array .int
  | 102 => .array .int
  | 103 => .array .long
  | 104 => .array .long
  | 105 => .array .long
  | 106 => .array .long
  | 107 => .array .long
  | 108 => .array .long
  | 109 => .array .long
  | 110 => .array .long
  | 111 => .array .long
  | 112 => .array .long
  | 113 => .array .long
  | 114 => .array .long
  | 115 => .array .long
  | 116 => .array .long
  | 117 => .array .long
  | 118 => .array .int
  | 119 => .array .int
  | 120 => .int
  | 121 => .array .long
  | 122 => .long
  | 123 => .long
  | 124 => .long
  | 125 => .array .long
  | 126 => .array .long
  | 127 => .array .boolean
  | 128 => .int
  | 129 => .long
  | 130 => .long
  | 131 => .long
  | 132 => .long
  | 133 => .long
  | 134 => .long
  | 135 => .boolean
  | 136 => .long
  | _ => .long
theorem nmX12 : ∀ a, a < 138 → ∀ b, b < 138 → a ≠ b → (TX12 a).2.1 ≠ (TX12 b).2.1 := by decide +kernel
theorem tyX12_ok : ∀ k, k < 138 → parseFieldDescriptor (TX12 k).2.2.1 = some (tyX12 k) := by decide +kernel
abbrev cX12_init : ByteArray := prog_14_method_1_code
def yX12_init : MethodName := ⟨RX12, "<init>", "()V"⟩
abbrev cX12_status : ByteArray := prog_14_method_3_code
def yX12_status : MethodName := ⟨RX12, "status", "()I"⟩
abbrev cX12_refuse : ByteArray := prog_14_method_4_code
def yX12_refuse : MethodName := ⟨RX12, "refuse", "(I)I"⟩
abbrev cX12_no : ByteArray := prog_14_method_5_code
def yX12_no : MethodName := ⟨RX12, "no", "(I)Z"⟩
abbrev cX12_isIn : ByteArray := prog_14_method_6_code
def yX12_isIn : MethodName := ⟨RX12, "isIn", "(III)Z"⟩
abbrev cX12_isDay : ByteArray := prog_14_method_7_code
def yX12_isDay : MethodName := ⟨RX12, "isDay", "(I)Z"⟩
abbrev cX12_isPaper : ByteArray := prog_14_method_8_code
def yX12_isPaper : MethodName := ⟨RX12, "isPaper", "(I)Z"⟩
abbrev cX12_isAccount : ByteArray := prog_14_method_9_code
def yX12_isAccount : MethodName := ⟨RX12, "isAccount", "(I)Z"⟩
abbrev cX12_asof : ByteArray := prog_14_method_10_code
def yX12_asof : MethodName := ⟨RX12, "asof", "(I)Z"⟩
abbrev cX12_account : ByteArray := prog_14_method_11_code
def yX12_account : MethodName := ⟨RX12, "account", "(III)I"⟩
abbrev cX12_issue : ByteArray := prog_14_method_12_code
def yX12_issue : MethodName := ⟨RX12, "issue", "(IIIIII)Z"⟩
abbrev cX12_trade : ByteArray := prog_14_method_13_code
def yX12_trade : MethodName := ⟨RX12, "trade", "(IIIIIII)I"⟩
abbrev cX12_look : ByteArray := prog_14_method_14_code
def yX12_look : MethodName := ⟨RX12, "look", "(I)I"⟩
abbrev cX12_isLetter : ByteArray := prog_14_method_15_code
def yX12_isLetter : MethodName := ⟨RX12, "isLetter", "(I)Z"⟩
abbrev cX12_isDigit : ByteArray := prog_14_method_16_code
def yX12_isDigit : MethodName := ⟨RX12, "isDigit", "(I)Z"⟩
abbrev cX12_next : ByteArray := prog_14_method_17_code
def yX12_next : MethodName := ⟨RX12, "next", "()V"⟩
abbrev cX12_spelled : ByteArray := prog_14_method_18_code
def yX12_spelled : MethodName := ⟨RX12, "spelled", "(IIIIII)J"⟩
abbrev cX12_isWord : ByteArray := prog_14_method_19_code
def yX12_isWord : MethodName := ⟨RX12, "isWord", "(J)Z"⟩
abbrev cX12_isSign : ByteArray := prog_14_method_20_code
def yX12_isSign : MethodName := ⟨RX12, "isSign", "(I)Z"⟩
abbrev cX12_fail : ByteArray := prog_14_method_21_code
def yX12_fail : MethodName := ⟨RX12, "fail", "(II)V"⟩
abbrev cX12_wrong : ByteArray := prog_14_method_22_code
def yX12_wrong : MethodName := ⟨RX12, "wrong", "()V"⟩
abbrev cX12_sign : ByteArray := prog_14_method_23_code
def yX12_sign : MethodName := ⟨RX12, "sign", "(I)V"⟩
abbrev cX12_wordIs : ByteArray := prog_14_method_24_code
def yX12_wordIs : MethodName := ⟨RX12, "wordIs", "(J)V"⟩
abbrev cX12_count : ByteArray := prog_14_method_25_code
def yX12_count : MethodName := ⟨RX12, "count", "(II)I"⟩
abbrev cX12_clauseKind : ByteArray := prog_14_method_26_code
def yX12_clauseKind : MethodName := ⟨RX12, "clauseKind", "()I"⟩
abbrev cX12_isFraction : ByteArray := prog_14_method_27_code
def yX12_isFraction : MethodName := ⟨RX12, "isFraction", "()Z"⟩
abbrev cX12_named : ByteArray := prog_14_method_28_code
def yX12_named : MethodName := ⟨RX12, "named", "()I"⟩
abbrev cX12_isName : ByteArray := prog_14_method_29_code
def yX12_isName : MethodName := ⟨RX12, "isName", "()Z"⟩
abbrev cX12_readAll : ByteArray := prog_14_method_30_code
def yX12_readAll : MethodName := ⟨RX12, "readAll", "(II)V"⟩
abbrev cX12_braces : ByteArray := prog_14_method_31_code
def yX12_braces : MethodName := ⟨RX12, "braces", "(II)V"⟩
abbrev cX12_readClause : ByteArray := prog_14_method_32_code
def yX12_readClause : MethodName := ⟨RX12, "readClause", "(II)V"⟩
abbrev cX12_readPlain : ByteArray := prog_14_method_33_code
def yX12_readPlain : MethodName := ⟨RX12, "readPlain", "(III)V"⟩
abbrev cX12_readWhen : ByteArray := prog_14_method_34_code
def yX12_readWhen : MethodName := ⟨RX12, "readWhen", "(III)V"⟩
abbrev cX12_readChoice : ByteArray := prog_14_method_35_code
def yX12_readChoice : MethodName := ⟨RX12, "readChoice", "(I)V"⟩
abbrev cX12_feed : ByteArray := prog_14_method_36_code
def yX12_feed : MethodName := ⟨RX12, "feed", "(IIIII)I"⟩
abbrev cX12_lay : ByteArray := prog_14_method_37_code
def yX12_lay : MethodName := ⟨RX12, "lay", "(I)V"⟩
abbrev cX12_event : ByteArray := prog_14_method_38_code
def yX12_event : MethodName := ⟨RX12, "event", "(IIIIII)I"⟩
abbrev cX12_fault : ByteArray := prog_14_method_39_code
def yX12_fault : MethodName := ⟨RX12, "fault", "(I)I"⟩
abbrev cX12_isEvent : ByteArray := prog_14_method_40_code
def yX12_isEvent : MethodName := ⟨RX12, "isEvent", "(I)Z"⟩
abbrev cX12_choices : ByteArray := prog_14_method_41_code
def yX12_choices : MethodName := ⟨RX12, "choices", "(I)I"⟩
abbrev cX12_choose : ByteArray := prog_14_method_42_code
def yX12_choose : MethodName := ⟨RX12, "choose", "(IIIII)I"⟩
abbrev cX12_strike : ByteArray := prog_14_method_43_code
def yX12_strike : MethodName := ⟨RX12, "strike", "(III)Z"⟩
abbrev cX12_isKnown : ByteArray := prog_14_method_44_code
def yX12_isKnown : MethodName := ⟨RX12, "isKnown", "(II)Z"⟩
abbrev cX12_tradeCounts : ByteArray := prog_14_method_45_code
def yX12_tradeCounts : MethodName := ⟨RX12, "tradeCounts", "(I)Z"⟩
abbrev cX12_eventCounts : ByteArray := prog_14_method_46_code
def yX12_eventCounts : MethodName := ⟨RX12, "eventCounts", "(I)Z"⟩
abbrev cX12_sayCounts : ByteArray := prog_14_method_47_code
def yX12_sayCounts : MethodName := ⟨RX12, "sayCounts", "(I)Z"⟩
abbrev cX12_daysUp : ByteArray := prog_14_method_48_code
def yX12_daysUp : MethodName := ⟨RX12, "daysUp", "(I)I"⟩
abbrev cX12_leadsUp : ByteArray := prog_14_method_49_code
def yX12_leadsUp : MethodName := ⟨RX12, "leadsUp", "(I)I"⟩
abbrev cX12_inTime : ByteArray := prog_14_method_50_code
def yX12_inTime : MethodName := ⟨RX12, "inTime", "(I)Z"⟩
abbrev cX12_chosenOf : ByteArray := prog_14_method_51_code
def yX12_chosenOf : MethodName := ⟨RX12, "chosenOf", "(II)I"⟩
abbrev cX12_chosen : ByteArray := prog_14_method_52_code
def yX12_chosen : MethodName := ⟨RX12, "chosen", "(II)I"⟩
abbrev cX12_bears : ByteArray := prog_14_method_53_code
def yX12_bears : MethodName := ⟨RX12, "bears", "(I)I"⟩
abbrev cX12_isBelow : ByteArray := prog_14_method_54_code
def yX12_isBelow : MethodName := ⟨RX12, "isBelow", "(II)Z"⟩
abbrev cX12_sumUp : ByteArray := prog_14_method_55_code
def yX12_sumUp : MethodName := ⟨RX12, "sumUp", "()V"⟩
abbrev cX12_parts : ByteArray := prog_14_method_56_code
def yX12_parts : MethodName := ⟨RX12, "parts", "(JI)V"⟩
abbrev cX12_partOne : ByteArray := prog_14_method_57_code
def yX12_partOne : MethodName := ⟨RX12, "partOne", "(I)V"⟩
abbrev cX12_begin : ByteArray := prog_14_method_58_code
def yX12_begin : MethodName := ⟨RX12, "begin", "()V"⟩
abbrev cX12_nextDay : ByteArray := prog_14_method_59_code
def yX12_nextDay : MethodName := ⟨RX12, "nextDay", "(I)I"⟩
abbrev cX12_runs : ByteArray := prog_14_method_60_code
def yX12_runs : MethodName := ⟨RX12, "runs", "(II)Z"⟩
abbrev cX12_settles : ByteArray := prog_14_method_61_code
def yX12_settles : MethodName := ⟨RX12, "settles", "(I)V"⟩
abbrev cX12_isTooMuch : ByteArray := prog_14_method_62_code
def yX12_isTooMuch : MethodName := ⟨RX12, "isTooMuch", "()Z"⟩
abbrev cX12_cuts : ByteArray := prog_14_method_63_code
def yX12_cuts : MethodName := ⟨RX12, "cuts", "(I)V"⟩
abbrev cX12_stays : ByteArray := prog_14_method_64_code
def yX12_stays : MethodName := ⟨RX12, "stays", "(II)V"⟩
abbrev cX12_cutBack : ByteArray := prog_14_method_65_code
def yX12_cutBack : MethodName := ⟨RX12, "cutBack", "(JI)V"⟩
abbrev cX12_happens : ByteArray := prog_14_method_66_code
def yX12_happens : MethodName := ⟨RX12, "happens", "(I)V"⟩
abbrev cX12_happensTo : ByteArray := prog_14_method_67_code
def yX12_happensTo : MethodName := ⟨RX12, "happensTo", "(II)V"⟩
abbrev cX12_totalAhead : ByteArray := prog_14_method_68_code
def yX12_totalAhead : MethodName := ⟨RX12, "totalAhead", "(I)J"⟩
abbrev cX12_lay_ : ByteArray := prog_14_method_69_code
def yX12_lay_ : MethodName := ⟨RX12, "lay", "(III)V"⟩
abbrev cX12_does : ByteArray := prog_14_method_70_code
def yX12_does : MethodName := ⟨RX12, "does", "(IIIIIJ)V"⟩
abbrev cX12_doesOne : ByteArray := prog_14_method_71_code
def yX12_doesOne : MethodName := ⟨RX12, "doesOne", "(IIII)V"⟩
abbrev cX12_pays : ByteArray := prog_14_method_72_code
def yX12_pays : MethodName := ⟨RX12, "pays", "(JIJ)V"⟩
abbrev cX12_asks : ByteArray := prog_14_method_73_code
def yX12_asks : MethodName := ⟨RX12, "asks", "(III)I"⟩
abbrev cX12_own : ByteArray := prog_14_method_74_code
def yX12_own : MethodName := ⟨RX12, "own", "(III)I"⟩
abbrev cX12_total : ByteArray := prog_14_method_75_code
def yX12_total : MethodName := ⟨RX12, "total", "(III)I"⟩
abbrev cX12_worth : ByteArray := prog_14_method_76_code
def yX12_worth : MethodName := ⟨RX12, "worth", "(III)J"⟩
abbrev cX12_coin : ByteArray := prog_14_method_77_code
def yX12_coin : MethodName := ⟨RX12, "coin", "(III)J"⟩
abbrev cX12_stays_ : ByteArray := prog_14_method_78_code
def yX12_stays_ : MethodName := ⟨RX12, "stays", "(III)I"⟩
abbrev cX12_isTrade : ByteArray := prog_14_method_79_code
def yX12_isTrade : MethodName := ⟨RX12, "isTrade", "(I)Z"⟩
abbrev cX12_done : ByteArray := prog_14_method_80_code
def yX12_done : MethodName := ⟨RX12, "done", "(I)I"⟩
abbrev cX12_brings : ByteArray := prog_14_method_81_code
def yX12_brings : MethodName := ⟨RX12, "brings", "(IIIZIJ)V"⟩
abbrev cX12_bringsOne : ByteArray := prog_14_method_82_code
def yX12_bringsOne : MethodName := ⟨RX12, "bringsOne", "(IZJ)V"⟩
abbrev cX12_getsOf : ByteArray := prog_14_method_83_code
def yX12_getsOf : MethodName := ⟨RX12, "getsOf", "(IIJ)V"⟩
abbrev cX12_due : ByteArray := prog_14_method_84_code
def yX12_due : MethodName := ⟨RX12, "due", "(III)J"⟩
abbrev cX12_option : ByteArray := prog_14_method_85_code
def yX12_option : MethodName := ⟨RX12, "option", "(IIIII)I"⟩
abbrev cX12_common : ByteArray := prog_14_method_86_code
def yX12_common : MethodName := ⟨RX12, "common", "(JJ)J"⟩
abbrev cX12_adds : ByteArray := prog_14_method_87_code
def yX12_adds : MethodName := ⟨RX12, "adds", "(JJ)V"⟩
abbrev cX12_times : ByteArray := prog_14_method_88_code
def yX12_times : MethodName := ⟨RX12, "times", "(JJJJ)V"⟩
abbrev cX12_isPlain : ByteArray := prog_14_method_89_code
def yX12_isPlain : MethodName := ⟨RX12, "isPlain", "(I)Z"⟩
abbrev cX12_changes : ByteArray := prog_14_method_90_code
def yX12_changes : MethodName := ⟨RX12, "changes", "(I)V"⟩
abbrev cX12_becomes : ByteArray := prog_14_method_91_code
def yX12_becomes : MethodName := ⟨RX12, "becomes", "(II)I"⟩
abbrev cX12_asksOption : ByteArray := prog_14_method_92_code
def yX12_asksOption : MethodName := ⟨RX12, "asksOption", "(II)I"⟩
abbrev cX12_optionOn : ByteArray := prog_14_method_93_code
def yX12_optionOn : MethodName := ⟨RX12, "optionOn", "(II)I"⟩
abbrev cX12_term : ByteArray := prog_14_method_94_code
def yX12_term : MethodName := ⟨RX12, "term", "(III)Z"⟩
abbrev cX12_upper : ByteArray := prog_14_method_95_code
def yX12_upper : MethodName := ⟨RX12, "upper", "()J"⟩
abbrev cX12_lower : ByteArray := prog_14_method_96_code
def yX12_lower : MethodName := ⟨RX12, "lower", "()J"⟩
abbrev cX12_rate : ByteArray := prog_14_method_97_code
def yX12_rate : MethodName := ⟨RX12, "rate", "(II)Z"⟩
abbrev cX12_bringsOf : ByteArray := prog_14_method_98_code
def yX12_bringsOf : MethodName := ⟨RX12, "bringsOf", "(III)J"⟩
abbrev cX12_brings_ : ByteArray := prog_14_method_99_code
def yX12_brings_ : MethodName := ⟨RX12, "brings", "(III)J"⟩
abbrev cX12_best : ByteArray := prog_14_method_100_code
def yX12_best : MethodName := ⟨RX12, "best", "(II)I"⟩
abbrev cX12_name : ByteArray := prog_14_method_101_code
def yX12_name : MethodName := ⟨RX12, "name", "(IIII)Z"⟩
abbrev cX12_calledOf : ByteArray := prog_14_method_102_code
def yX12_calledOf : MethodName := ⟨RX12, "calledOf", "(II)I"⟩
abbrev cX12_called : ByteArray := prog_14_method_103_code
def yX12_called : MethodName := ⟨RX12, "called", "(II)I"⟩
abbrev cX12_find : ByteArray := prog_14_method_104_code
def yX12_find : MethodName := ⟨RX12, "find", "(III)I"⟩
abbrev cX12_hint : ByteArray := prog_14_method_105_code
def yX12_hint : MethodName := ⟨RX12, "hint", "(IIIIIZ)I"⟩
abbrev cX12_explains : ByteArray := prog_14_method_106_code
def yX12_explains : MethodName := ⟨RX12, "explains", "(IIJIIJI)Z"⟩
abbrev cX12_explain : ByteArray := prog_14_method_107_code
def yX12_explain : MethodName := ⟨RX12, "explain", "(IIIIII)I"⟩
abbrev cX12_rivals : ByteArray := prog_14_method_108_code
def yX12_rivals : MethodName := ⟨RX12, "rivals", "()I"⟩
abbrev cX12_because : ByteArray := prog_14_method_109_code
def yX12_because : MethodName := ⟨RX12, "because", "(I)I"⟩
def RJ6 : String := "java/lang/Integer"
abbrev cJ6_lowestOneBit_0f7a4 : ByteArray := prog_17_method_46_code
def yJ6_lowestOneBit_0f7a4 : MethodName := ⟨RJ6, "lowestOneBit", "(I)I"⟩
abbrev cJ6_bitCount_0f7a4 : ByteArray := prog_17_method_49_code
def yJ6_bitCount_0f7a4 : MethodName := ⟨RJ6, "bitCount", "(I)I"⟩
def RJ0 : String := "java/lang/String"
abbrev cJ0_length_8abf5 : ByteArray := prog_20_method_54_code
def yJ0_length_8abf5 : MethodName := ⟨RJ0, "length", "()I"⟩
abbrev cJ0_charAt_5068e : ByteArray := prog_20_method_56_code
def yJ0_charAt_5068e : MethodName := ⟨RJ0, "charAt", "(I)C"⟩
abbrev cJ0_coder_7d493 : ByteArray := prog_20_method_152_code
def yJ0_coder_7d493 : MethodName := ⟨RJ0, "coder", "()B"⟩
abbrev cJ0_isLatin1_aae02 : ByteArray := prog_20_method_154_code
def yJ0_isLatin1_aae02 : MethodName := ⟨RJ0, "isLatin1", "()Z"⟩
abbrev cJ0_checkIndex_df160 : ByteArray := prog_20_method_155_code
def yJ0_checkIndex_df160 : MethodName := ⟨RJ0, "checkIndex", "(II)V"⟩
def RJ1 : String := "java/lang/StringLatin1"
abbrev cJ1_charAt_3b067 : ByteArray := prog_21_method_2_code
def yJ1_charAt_3b067 : MethodName := ⟨RJ1, "charAt", "([BI)C"⟩
def RJxa1e45 : String := "java/util/AbstractCollection"
abbrev cJxa1e45_init_da8c8 : ByteArray := prog_24_method_1_code
def yJxa1e45_init_da8c8 : MethodName := ⟨RJxa1e45, "<init>", "()V"⟩
def RJxc12de : String := "java/util/AbstractList"
abbrev cJxc12de_init_da8c8 : ByteArray := prog_25_method_1_code
def yJxc12de_init_da8c8 : MethodName := ⟨RJxc12de, "<init>", "()V"⟩
def RJx4a65c : String := "java/util/ArrayList"
def TJx4a65c : u_T := fun k => match k with
  | 0 => ("java/util/AbstractList", "modCount", "I", false)
  | 1 => ("java/util/ArrayList", "elementData", "[Ljava/lang/Object;", false)
  | _ => ("java/util/ArrayList", "size", "I", false)
def tyJx4a65c : Nat → FieldType := fun k => match k with
  | 0 => .int
  | 1 => .array (.object "java/lang/Object")
  | _ => .int
theorem nmJx4a65c : ∀ a, a < 3 → ∀ b, b < 3 → a ≠ b → (TJx4a65c a).2.1 ≠ (TJx4a65c b).2.1 := by decide +kernel
theorem tyJx4a65c_ok : ∀ k, k < 3 → parseFieldDescriptor (TJx4a65c k).2.2.1 = some (tyJx4a65c k) := by decide +kernel
abbrev cJx4a65c_init_da8c8 : ByteArray := prog_26_method_2_code
def yJx4a65c_init_da8c8 : MethodName := ⟨RJx4a65c, "<init>", "()V"⟩
abbrev cJx4a65c_grow_92f84 : ByteArray := prog_26_method_6_code
def yJx4a65c_grow_92f84 : MethodName := ⟨RJx4a65c, "grow", "(I)[Ljava/lang/Object;"⟩
abbrev cJx4a65c_grow_d5877 : ByteArray := prog_26_method_7_code
def yJx4a65c_grow_d5877 : MethodName := ⟨RJx4a65c, "grow", "()[Ljava/lang/Object;"⟩
abbrev cJx4a65c_size_8abf5 : ByteArray := prog_26_method_8_code
def yJx4a65c_size_8abf5 : MethodName := ⟨RJx4a65c, "size", "()I"⟩
abbrev cJx4a65c_elementData_915e3 : ByteArray := prog_26_method_18_code
def yJx4a65c_elementData_915e3 : MethodName := ⟨RJx4a65c, "elementData", "(I)Ljava/lang/Object;"⟩
abbrev cJx4a65c_get_915e3 : ByteArray := prog_26_method_20_code
def yJx4a65c_get_915e3 : MethodName := ⟨RJx4a65c, "get", "(I)Ljava/lang/Object;"⟩
abbrev cJx4a65c_add_72be8 : ByteArray := prog_26_method_24_code
def yJx4a65c_add_72be8 : MethodName := ⟨RJx4a65c, "add", "(Ljava/lang/Object;[Ljava/lang/Object;I)V"⟩
abbrev cJx4a65c_add_9ea2d : ByteArray := prog_26_method_25_code
def yJx4a65c_add_9ea2d : MethodName := ⟨RJx4a65c, "add", "(Ljava/lang/Object;)Z"⟩
def RJ7 : String := "java/util/Arrays"
abbrev cJ7_fill_d0a16 : ByteArray := prog_27_method_101_code
def yJ7_fill_d0a16 : MethodName := ⟨RJ7, "fill", "([JJ)V"⟩
abbrev cJ7_fill_53178 : ByteArray := prog_27_method_103_code
def yJ7_fill_53178 : MethodName := ⟨RJ7, "fill", "([II)V"⟩
abbrev cJ7_copyOf_1904c : ByteArray := prog_27_method_119_code
def yJ7_copyOf_1904c : MethodName := ⟨RJ7, "copyOf", "([Ljava/lang/Object;I)[Ljava/lang/Object;"⟩
abbrev cJ7_copyOf_6403c : ByteArray := prog_27_method_120_code
def yJ7_copyOf_6403c : MethodName := ⟨RJ7, "copyOf", "([Ljava/lang/Object;ILjava/lang/Class;)[Ljava/lang/Object;"⟩
def RJ15 : String := "java/util/Objects"
abbrev cJ15_checkIndex_7cf53 : ByteArray := prog_30_method_17_code
def yJ15_checkIndex_7cf53 : MethodName := ⟨RJ15, "checkIndex", "(II)I"⟩
def RJ8 : String := "jdk/internal/util/ArraysSupport"
abbrev cJ8_newLength_cabcc : ByteArray := prog_33_method_27_code
def yJ8_newLength_cabcc : MethodName := ⟨RJ8, "newLength", "(III)I"⟩
def RJ3 : String := "jdk/internal/util/Preconditions"
abbrev cJ3_checkIndex_8e157 : ByteArray := prog_34_method_11_code
def yJ3_checkIndex_8e157 : MethodName := ⟨RJ3, "checkIndex", "(IILjava/util/function/BiFunction;)I"⟩
def RL : String := "ShareLifeLaw"
abbrev vwCl : List vw_C := [(RJx4a65c, TJx4a65c, 3), (RX0, TX0, 18), (RX1, TX1, 9), (RX2, TX2, 7), (RX3, TX3, 17), (RX4, TX4, 6), (RX5, TX5, 6), (RX6, TX6, 17), (RX7, TX7, 17), (RX8, TX8, 20), (RX9, TX9, 16), (RX11, TX11, 20), (RX12, TX12, 138)]
