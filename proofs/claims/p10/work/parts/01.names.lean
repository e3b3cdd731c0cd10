-- ===== PART A: goes FIRST, ahead of the names: the tables' words, and 'selects' of the private methods out of them =====
/-- a private method of a class that the tables say can be made, by its rows of tables_1 -/
def lw_okq (q : MethodName × Nat) : Prop := (q.1.cls ≠ "java/lang/invoke/MethodHandle" ∧ q.1.cls ≠ "java/lang/invoke/VarHandle") ∧ Cond.instantiable q.1.cls q.2 ∈ tables_1 ∧ Cond.privateMethod q.1 ∈ tables_1 ∧ Cond.instanceMethod q.1 ∈ tables_1
theorem lw_p0 : lw_okq (⟨"PathQueries", "append", "(I)V"⟩, 11) := ⟨⟨by decide +kernel, by decide +kernel⟩, List.mem_of_getElem? (i := 24) (by decide +kernel), List.mem_of_getElem? (i := 604) (by decide +kernel), List.mem_of_getElem? (i := 605) (by decide +kernel)⟩
theorem lw_p1 : lw_okq (⟨"PathQueries$Reader", "begin", "(LPathQueries$Text;Z)V"⟩, 20) := ⟨⟨by decide +kernel, by decide +kernel⟩, List.mem_of_getElem? (i := 281) (by decide +kernel), List.mem_of_getElem? (i := 693) (by decide +kernel), List.mem_of_getElem? (i := 694) (by decide +kernel)⟩
theorem lw_p2 : lw_okq (⟨"PathQueries$Tokens", "takeToken", "(I)I"⟩, 6) := ⟨⟨by decide +kernel, by decide +kernel⟩, List.mem_of_getElem? (i := 287) (by decide +kernel), List.mem_of_getElem? (i := 724) (by decide +kernel), List.mem_of_getElem? (i := 725) (by decide +kernel)⟩
theorem lw_p3 : lw_okq (⟨"PathQueries$Tokens", "nameKind", "(II)I"⟩, 6) := ⟨⟨by decide +kernel, by decide +kernel⟩, List.mem_of_getElem? (i := 287) (by decide +kernel), List.mem_of_getElem? (i := 734) (by decide +kernel), List.mem_of_getElem? (i := 735) (by decide +kernel)⟩
theorem lw_p4 : lw_okq (⟨"PathQueries$Tokens", "numberKind", "(II)I"⟩, 6) := ⟨⟨by decide +kernel, by decide +kernel⟩, List.mem_of_getElem? (i := 287) (by decide +kernel), List.mem_of_getElem? (i := 738) (by decide +kernel), List.mem_of_getElem? (i := 739) (by decide +kernel)⟩
theorem lw_p5 : lw_okq (⟨"PathQueries$Tokens", "letterKind", "(C)I"⟩, 6) := ⟨⟨by decide +kernel, by decide +kernel⟩, List.mem_of_getElem? (i := 287) (by decide +kernel), List.mem_of_getElem? (i := 742) (by decide +kernel), List.mem_of_getElem? (i := 743) (by decide +kernel)⟩
theorem lw_p6 : lw_okq (⟨"PathQueries$Tokens", "numberedKind", "(CI)I"⟩, 6) := ⟨⟨by decide +kernel, by decide +kernel⟩, List.mem_of_getElem? (i := 287) (by decide +kernel), List.mem_of_getElem? (i := 832) (by decide +kernel), List.mem_of_getElem? (i := 833) (by decide +kernel)⟩
theorem lw_p7 : lw_okq (⟨"PathQueries$Tokens", "wordKind", "(II)I"⟩, 6) := ⟨⟨by decide +kernel, by decide +kernel⟩, List.mem_of_getElem? (i := 287) (by decide +kernel), List.mem_of_getElem? (i := 836) (by decide +kernel), List.mem_of_getElem? (i := 837) (by decide +kernel)⟩
theorem lw_p8 : lw_okq (⟨"PathQueries$Tokens", "isSame", "(III)Z"⟩, 6) := ⟨⟨by decide +kernel, by decide +kernel⟩, List.mem_of_getElem? (i := 287) (by decide +kernel), List.mem_of_getElem? (i := 862) (by decide +kernel), List.mem_of_getElem? (i := 863) (by decide +kernel)⟩
theorem lw_p9 : lw_okq (⟨"PathQueries$Tokens", "signKind", "(I)I"⟩, 6) := ⟨⟨by decide +kernel, by decide +kernel⟩, List.mem_of_getElem? (i := 287) (by decide +kernel), List.mem_of_getElem? (i := 866) (by decide +kernel), List.mem_of_getElem? (i := 867) (by decide +kernel)⟩
theorem lw_p10 : lw_okq (⟨"PathQueries$Reader", "take", "(I)V"⟩, 20) := ⟨⟨by decide +kernel, by decide +kernel⟩, List.mem_of_getElem? (i := 281) (by decide +kernel), List.mem_of_getElem? (i := 871) (by decide +kernel), List.mem_of_getElem? (i := 872) (by decide +kernel)⟩
theorem lw_p11 : lw_okq (⟨"PathQueries$Reader", "fail", "(I)V"⟩, 20) := ⟨⟨by decide +kernel, by decide +kernel⟩, List.mem_of_getElem? (i := 281) (by decide +kernel), List.mem_of_getElem? (i := 875) (by decide +kernel), List.mem_of_getElem? (i := 876) (by decide +kernel)⟩
theorem lw_p12 : lw_okq (⟨"PathQueries$Reader", "failAt", "(II)V"⟩, 20) := ⟨⟨by decide +kernel, by decide +kernel⟩, List.mem_of_getElem? (i := 281) (by decide +kernel), List.mem_of_getElem? (i := 879) (by decide +kernel), List.mem_of_getElem? (i := 880) (by decide +kernel)⟩
theorem lw_p13 : lw_okq (⟨"PathQueries$Reader", "takeHead", "(I)V"⟩, 20) := ⟨⟨by decide +kernel, by decide +kernel⟩, List.mem_of_getElem? (i := 281) (by decide +kernel), List.mem_of_getElem? (i := 883) (by decide +kernel), List.mem_of_getElem? (i := 884) (by decide +kernel)⟩
theorem lw_p14 : lw_okq (⟨"PathQueries$Reader", "takeInNode", "(I)V"⟩, 20) := ⟨⟨by decide +kernel, by decide +kernel⟩, List.mem_of_getElem? (i := 281) (by decide +kernel), List.mem_of_getElem? (i := 887) (by decide +kernel), List.mem_of_getElem? (i := 888) (by decide +kernel)⟩
theorem lw_p15 : lw_okq (⟨"PathQueries$Reader", "nameNode", "(I)V"⟩, 20) := ⟨⟨by decide +kernel, by decide +kernel⟩, List.mem_of_getElem? (i := 281) (by decide +kernel), List.mem_of_getElem? (i := 891) (by decide +kernel), List.mem_of_getElem? (i := 892) (by decide +kernel)⟩
def lw_privs_1 : List (MethodName × Nat) := [(⟨"PathQueries", "append", "(I)V"⟩, 11), (⟨"PathQueries$Reader", "begin", "(LPathQueries$Text;Z)V"⟩, 20), (⟨"PathQueries$Tokens", "takeToken", "(I)I"⟩, 6), (⟨"PathQueries$Tokens", "nameKind", "(II)I"⟩, 6), (⟨"PathQueries$Tokens", "numberKind", "(II)I"⟩, 6), (⟨"PathQueries$Tokens", "letterKind", "(C)I"⟩, 6), (⟨"PathQueries$Tokens", "numberedKind", "(CI)I"⟩, 6), (⟨"PathQueries$Tokens", "wordKind", "(II)I"⟩, 6), (⟨"PathQueries$Tokens", "isSame", "(III)Z"⟩, 6), (⟨"PathQueries$Tokens", "signKind", "(I)I"⟩, 6), (⟨"PathQueries$Reader", "take", "(I)V"⟩, 20), (⟨"PathQueries$Reader", "fail", "(I)V"⟩, 20), (⟨"PathQueries$Reader", "failAt", "(II)V"⟩, 20), (⟨"PathQueries$Reader", "takeHead", "(I)V"⟩, 20), (⟨"PathQueries$Reader", "takeInNode", "(I)V"⟩, 20), (⟨"PathQueries$Reader", "nameNode", "(I)V"⟩, 20)]
theorem lw_r1 : ∀ q ∈ lw_privs_1, lw_okq q := List.forall_mem_cons.mpr ⟨lw_p0, List.forall_mem_cons.mpr ⟨lw_p1, List.forall_mem_cons.mpr ⟨lw_p2, List.forall_mem_cons.mpr ⟨lw_p3, List.forall_mem_cons.mpr ⟨lw_p4, List.forall_mem_cons.mpr ⟨lw_p5, List.forall_mem_cons.mpr ⟨lw_p6, List.forall_mem_cons.mpr ⟨lw_p7, List.forall_mem_cons.mpr ⟨lw_p8, List.forall_mem_cons.mpr ⟨lw_p9, List.forall_mem_cons.mpr ⟨lw_p10, List.forall_mem_cons.mpr ⟨lw_p11, List.forall_mem_cons.mpr ⟨lw_p12, List.forall_mem_cons.mpr ⟨lw_p13, List.forall_mem_cons.mpr ⟨lw_p14, List.forall_mem_cons.mpr ⟨lw_p15, fun _ h => absurd h List.not_mem_nil⟩⟩⟩⟩⟩⟩⟩⟩⟩⟩⟩⟩⟩⟩⟩⟩
theorem lw_p16 : lw_okq (⟨"PathQueries$Reader", "tellNode", "(I)V"⟩, 20) := ⟨⟨by decide +kernel, by decide +kernel⟩, List.mem_of_getElem? (i := 281) (by decide +kernel), List.mem_of_getElem? (i := 895) (by decide +kernel), List.mem_of_getElem? (i := 896) (by decide +kernel)⟩
theorem lw_p17 : lw_okq (⟨"PathQueries$Reader", "takeSlot", "(I)V"⟩, 20) := ⟨⟨by decide +kernel, by decide +kernel⟩, List.mem_of_getElem? (i := 281) (by decide +kernel), List.mem_of_getElem? (i := 899) (by decide +kernel), List.mem_of_getElem? (i := 900) (by decide +kernel)⟩
theorem lw_p18 : lw_okq (⟨"PathQueries$Reader", "makeKnown", "()V"⟩, 20) := ⟨⟨by decide +kernel, by decide +kernel⟩, List.mem_of_getElem? (i := 281) (by decide +kernel), List.mem_of_getElem? (i := 903) (by decide +kernel), List.mem_of_getElem? (i := 904) (by decide +kernel)⟩
theorem lw_p19 : lw_okq (⟨"PathQueries$Reader", "closeNode", "()V"⟩, 20) := ⟨⟨by decide +kernel, by decide +kernel⟩, List.mem_of_getElem? (i := 281) (by decide +kernel), List.mem_of_getElem? (i := 907) (by decide +kernel), List.mem_of_getElem? (i := 908) (by decide +kernel)⟩
theorem lw_p20 : lw_okq (⟨"PathQueries$Reader", "takeAfterNode", "(I)V"⟩, 20) := ⟨⟨by decide +kernel, by decide +kernel⟩, List.mem_of_getElem? (i := 281) (by decide +kernel), List.mem_of_getElem? (i := 920) (by decide +kernel), List.mem_of_getElem? (i := 921) (by decide +kernel)⟩
theorem lw_p21 : lw_okq (⟨"PathQueries$Reader", "openWay", "(Z)V"⟩, 20) := ⟨⟨by decide +kernel, by decide +kernel⟩, List.mem_of_getElem? (i := 281) (by decide +kernel), List.mem_of_getElem? (i := 924) (by decide +kernel), List.mem_of_getElem? (i := 925) (by decide +kernel)⟩
theorem lw_p22 : lw_okq (⟨"PathQueries$Reader", "passOn", "(I)V"⟩, 20) := ⟨⟨by decide +kernel, by decide +kernel⟩, List.mem_of_getElem? (i := 281) (by decide +kernel), List.mem_of_getElem? (i := 945) (by decide +kernel), List.mem_of_getElem? (i := 946) (by decide +kernel)⟩
theorem lw_p23 : lw_okq (⟨"PathQueries$Reader", "openGive", "()V"⟩, 20) := ⟨⟨by decide +kernel, by decide +kernel⟩, List.mem_of_getElem? (i := 281) (by decide +kernel), List.mem_of_getElem? (i := 949) (by decide +kernel), List.mem_of_getElem? (i := 950) (by decide +kernel)⟩
theorem lw_p24 : lw_okq (⟨"PathQueries$Reader", "takeInWay", "(I)V"⟩, 20) := ⟨⟨by decide +kernel, by decide +kernel⟩, List.mem_of_getElem? (i := 281) (by decide +kernel), List.mem_of_getElem? (i := 953) (by decide +kernel), List.mem_of_getElem? (i := 954) (by decide +kernel)⟩
theorem lw_p25 : lw_okq (⟨"PathQueries$Reader", "nameLeast", "(I)V"⟩, 20) := ⟨⟨by decide +kernel, by decide +kernel⟩, List.mem_of_getElem? (i := 281) (by decide +kernel), List.mem_of_getElem? (i := 957) (by decide +kernel), List.mem_of_getElem? (i := 958) (by decide +kernel)⟩
theorem lw_p26 : lw_okq (⟨"PathQueries$Reader", "takeStep", "(I)V"⟩, 20) := ⟨⟨by decide +kernel, by decide +kernel⟩, List.mem_of_getElem? (i := 281) (by decide +kernel), List.mem_of_getElem? (i := 961) (by decide +kernel), List.mem_of_getElem? (i := 962) (by decide +kernel)⟩
theorem lw_p27 : lw_okq (⟨"PathQueries$Way", "settlePending", "()V"⟩, 18) := ⟨⟨by decide +kernel, by decide +kernel⟩, List.mem_of_getElem? (i := 91) (by decide +kernel), List.mem_of_getElem? (i := 969) (by decide +kernel), List.mem_of_getElem? (i := 970) (by decide +kernel)⟩
theorem lw_p28 : lw_okq (⟨"PathQueries$Way", "lead", "(JJ)V"⟩, 18) := ⟨⟨by decide +kernel, by decide +kernel⟩, List.mem_of_getElem? (i := 91) (by decide +kernel), List.mem_of_getElem? (i := 973) (by decide +kernel), List.mem_of_getElem? (i := 974) (by decide +kernel)⟩
theorem lw_p29 : lw_okq (⟨"PathQueries$Reader", "addStep", "(I)V"⟩, 20) := ⟨⟨by decide +kernel, by decide +kernel⟩, List.mem_of_getElem? (i := 281) (by decide +kernel), List.mem_of_getElem? (i := 979) (by decide +kernel), List.mem_of_getElem? (i := 980) (by decide +kernel)⟩
theorem lw_p30 : lw_okq (⟨"PathQueries$Reader", "takeAfterStep", "(I)V"⟩, 20) := ⟨⟨by decide +kernel, by decide +kernel⟩, List.mem_of_getElem? (i := 281) (by decide +kernel), List.mem_of_getElem? (i := 987) (by decide +kernel), List.mem_of_getElem? (i := 988) (by decide +kernel)⟩
theorem lw_p31 : lw_okq (⟨"PathQueries$Reader", "takeFact", "(I)V"⟩, 20) := ⟨⟨by decide +kernel, by decide +kernel⟩, List.mem_of_getElem? (i := 281) (by decide +kernel), List.mem_of_getElem? (i := 1008) (by decide +kernel), List.mem_of_getElem? (i := 1009) (by decide +kernel)⟩
def lw_privs_2 : List (MethodName × Nat) := [(⟨"PathQueries$Reader", "tellNode", "(I)V"⟩, 20), (⟨"PathQueries$Reader", "takeSlot", "(I)V"⟩, 20), (⟨"PathQueries$Reader", "makeKnown", "()V"⟩, 20), (⟨"PathQueries$Reader", "closeNode", "()V"⟩, 20), (⟨"PathQueries$Reader", "takeAfterNode", "(I)V"⟩, 20), (⟨"PathQueries$Reader", "openWay", "(Z)V"⟩, 20), (⟨"PathQueries$Reader", "passOn", "(I)V"⟩, 20), (⟨"PathQueries$Reader", "openGive", "()V"⟩, 20), (⟨"PathQueries$Reader", "takeInWay", "(I)V"⟩, 20), (⟨"PathQueries$Reader", "nameLeast", "(I)V"⟩, 20), (⟨"PathQueries$Reader", "takeStep", "(I)V"⟩, 20), (⟨"PathQueries$Way", "settlePending", "()V"⟩, 18), (⟨"PathQueries$Way", "lead", "(JJ)V"⟩, 18), (⟨"PathQueries$Reader", "addStep", "(I)V"⟩, 20), (⟨"PathQueries$Reader", "takeAfterStep", "(I)V"⟩, 20), (⟨"PathQueries$Reader", "takeFact", "(I)V"⟩, 20)]
theorem lw_r2 : ∀ q ∈ lw_privs_2, lw_okq q := List.forall_mem_cons.mpr ⟨lw_p16, List.forall_mem_cons.mpr ⟨lw_p17, List.forall_mem_cons.mpr ⟨lw_p18, List.forall_mem_cons.mpr ⟨lw_p19, List.forall_mem_cons.mpr ⟨lw_p20, List.forall_mem_cons.mpr ⟨lw_p21, List.forall_mem_cons.mpr ⟨lw_p22, List.forall_mem_cons.mpr ⟨lw_p23, List.forall_mem_cons.mpr ⟨lw_p24, List.forall_mem_cons.mpr ⟨lw_p25, List.forall_mem_cons.mpr ⟨lw_p26, List.forall_mem_cons.mpr ⟨lw_p27, List.forall_mem_cons.mpr ⟨lw_p28, List.forall_mem_cons.mpr ⟨lw_p29, List.forall_mem_cons.mpr ⟨lw_p30, List.forall_mem_cons.mpr ⟨lw_p31, fun _ h => absurd h List.not_mem_nil⟩⟩⟩⟩⟩⟩⟩⟩⟩⟩⟩⟩⟩⟩⟩⟩
theorem lw_p32 : lw_okq (⟨"PathQueries$Reader", "takeAfterFact", "(I)V"⟩, 20) := ⟨⟨by decide +kernel, by decide +kernel⟩, List.mem_of_getElem? (i := 281) (by decide +kernel), List.mem_of_getElem? (i := 1026) (by decide +kernel), List.mem_of_getElem? (i := 1027) (by decide +kernel)⟩
theorem lw_p33 : lw_okq (⟨"PathQueries$Operators", "popOpen", "()V"⟩, 8) := ⟨⟨by decide +kernel, by decide +kernel⟩, List.mem_of_getElem? (i := 316) (by decide +kernel), List.mem_of_getElem? (i := 1039) (by decide +kernel), List.mem_of_getElem? (i := 1040) (by decide +kernel)⟩
theorem lw_p34 : lw_okq (⟨"PathQueries$Reader", "takeUnit", "(I)V"⟩, 20) := ⟨⟨by decide +kernel, by decide +kernel⟩, List.mem_of_getElem? (i := 281) (by decide +kernel), List.mem_of_getElem? (i := 1043) (by decide +kernel), List.mem_of_getElem? (i := 1044) (by decide +kernel)⟩
theorem lw_p35 : lw_okq (⟨"PathQueries$Reader", "findVariable", "(I)V"⟩, 20) := ⟨⟨by decide +kernel, by decide +kernel⟩, List.mem_of_getElem? (i := 281) (by decide +kernel), List.mem_of_getElem? (i := 1051) (by decide +kernel), List.mem_of_getElem? (i := 1052) (by decide +kernel)⟩
theorem lw_p36 : lw_okq (⟨"PathQueries$Reader", "takeAfterVariable", "(I)V"⟩, 20) := ⟨⟨by decide +kernel, by decide +kernel⟩, List.mem_of_getElem? (i := 281) (by decide +kernel), List.mem_of_getElem? (i := 1059) (by decide +kernel), List.mem_of_getElem? (i := 1060) (by decide +kernel)⟩
theorem lw_p37 : lw_okq (⟨"PathQueries$Reader", "takeAfterUnit", "(I)V"⟩, 20) := ⟨⟨by decide +kernel, by decide +kernel⟩, List.mem_of_getElem? (i := 281) (by decide +kernel), List.mem_of_getElem? (i := 1064) (by decide +kernel), List.mem_of_getElem? (i := 1065) (by decide +kernel)⟩
theorem lw_p38 : lw_okq (⟨"PathQueries$Reader", "takeComparison", "(I)V"⟩, 20) := ⟨⟨by decide +kernel, by decide +kernel⟩, List.mem_of_getElem? (i := 281) (by decide +kernel), List.mem_of_getElem? (i := 1072) (by decide +kernel), List.mem_of_getElem? (i := 1073) (by decide +kernel)⟩
theorem lw_p39 : lw_okq (⟨"PathQueries$Reader", "takeItem", "(I)V"⟩, 20) := ⟨⟨by decide +kernel, by decide +kernel⟩, List.mem_of_getElem? (i := 281) (by decide +kernel), List.mem_of_getElem? (i := 1083) (by decide +kernel), List.mem_of_getElem? (i := 1084) (by decide +kernel)⟩
theorem lw_p40 : lw_okq (⟨"PathQueries$Reader", "takeTail", "(I)V"⟩, 20) := ⟨⟨by decide +kernel, by decide +kernel⟩, List.mem_of_getElem? (i := 281) (by decide +kernel), List.mem_of_getElem? (i := 1091) (by decide +kernel), List.mem_of_getElem? (i := 1092) (by decide +kernel)⟩
theorem lw_p41 : lw_okq (⟨"PathQueries$Reader", "takeLimit", "(I)V"⟩, 20) := ⟨⟨by decide +kernel, by decide +kernel⟩, List.mem_of_getElem? (i := 281) (by decide +kernel), List.mem_of_getElem? (i := 1095) (by decide +kernel), List.mem_of_getElem? (i := 1096) (by decide +kernel)⟩
theorem lw_p42 : lw_okq (⟨"PathQueries$Reader", "givenSlot", "(I)I"⟩, 20) := ⟨⟨by decide +kernel, by decide +kernel⟩, List.mem_of_getElem? (i := 281) (by decide +kernel), List.mem_of_getElem? (i := 1099) (by decide +kernel), List.mem_of_getElem? (i := 1100) (by decide +kernel)⟩
theorem lw_p43 : lw_okq (⟨"PathQueries$Reader", "checkLast", "(I)V"⟩, 20) := ⟨⟨by decide +kernel, by decide +kernel⟩, List.mem_of_getElem? (i := 281) (by decide +kernel), List.mem_of_getElem? (i := 1103) (by decide +kernel), List.mem_of_getElem? (i := 1104) (by decide +kernel)⟩
theorem lw_p44 : lw_okq (⟨"PathQueries$RuleBook", "workOfAll", "()J"⟩, 6) := ⟨⟨by decide +kernel, by decide +kernel⟩, List.mem_of_getElem? (i := 490) (by decide +kernel), List.mem_of_getElem? (i := 1143) (by decide +kernel), List.mem_of_getElem? (i := 1144) (by decide +kernel)⟩
theorem lw_p45 : lw_okq (⟨"PathQueries$RuleBook", "isOneLarge", "()Z"⟩, 6) := ⟨⟨by decide +kernel, by decide +kernel⟩, List.mem_of_getElem? (i := 490) (by decide +kernel), List.mem_of_getElem? (i := 1152) (by decide +kernel), List.mem_of_getElem? (i := 1153) (by decide +kernel)⟩
theorem lw_p46 : lw_okq (⟨"PathQueries$RuleBook", "goRound", "()Z"⟩, 6) := ⟨⟨by decide +kernel, by decide +kernel⟩, List.mem_of_getElem? (i := 490) (by decide +kernel), List.mem_of_getElem? (i := 1158) (by decide +kernel), List.mem_of_getElem? (i := 1159) (by decide +kernel)⟩
theorem lw_p47 : lw_okq (⟨"PathQueries$Finder", "measureFrom", "(LPathQueries$Way;I)V"⟩, 9) := ⟨⟨by decide +kernel, by decide +kernel⟩, List.mem_of_getElem? (i := 412) (by decide +kernel), List.mem_of_getElem? (i := 1179) (by decide +kernel), List.mem_of_getElem? (i := 1180) (by decide +kernel)⟩
def lw_privs_3 : List (MethodName × Nat) := [(⟨"PathQueries$Reader", "takeAfterFact", "(I)V"⟩, 20), (⟨"PathQueries$Operators", "popOpen", "()V"⟩, 8), (⟨"PathQueries$Reader", "takeUnit", "(I)V"⟩, 20), (⟨"PathQueries$Reader", "findVariable", "(I)V"⟩, 20), (⟨"PathQueries$Reader", "takeAfterVariable", "(I)V"⟩, 20), (⟨"PathQueries$Reader", "takeAfterUnit", "(I)V"⟩, 20), (⟨"PathQueries$Reader", "takeComparison", "(I)V"⟩, 20), (⟨"PathQueries$Reader", "takeItem", "(I)V"⟩, 20), (⟨"PathQueries$Reader", "takeTail", "(I)V"⟩, 20), (⟨"PathQueries$Reader", "takeLimit", "(I)V"⟩, 20), (⟨"PathQueries$Reader", "givenSlot", "(I)I"⟩, 20), (⟨"PathQueries$Reader", "checkLast", "(I)V"⟩, 20), (⟨"PathQueries$RuleBook", "workOfAll", "()J"⟩, 6), (⟨"PathQueries$RuleBook", "isOneLarge", "()Z"⟩, 6), (⟨"PathQueries$RuleBook", "goRound", "()Z"⟩, 6), (⟨"PathQueries$Finder", "measureFrom", "(LPathQueries$Way;I)V"⟩, 9)]
theorem lw_r3 : ∀ q ∈ lw_privs_3, lw_okq q := List.forall_mem_cons.mpr ⟨lw_p32, List.forall_mem_cons.mpr ⟨lw_p33, List.forall_mem_cons.mpr ⟨lw_p34, List.forall_mem_cons.mpr ⟨lw_p35, List.forall_mem_cons.mpr ⟨lw_p36, List.forall_mem_cons.mpr ⟨lw_p37, List.forall_mem_cons.mpr ⟨lw_p38, List.forall_mem_cons.mpr ⟨lw_p39, List.forall_mem_cons.mpr ⟨lw_p40, List.forall_mem_cons.mpr ⟨lw_p41, List.forall_mem_cons.mpr ⟨lw_p42, List.forall_mem_cons.mpr ⟨lw_p43, List.forall_mem_cons.mpr ⟨lw_p44, List.forall_mem_cons.mpr ⟨lw_p45, List.forall_mem_cons.mpr ⟨lw_p46, List.forall_mem_cons.mpr ⟨lw_p47, fun _ h => absurd h List.not_mem_nil⟩⟩⟩⟩⟩⟩⟩⟩⟩⟩⟩⟩⟩⟩⟩⟩
theorem lw_p48 : lw_okq (⟨"PathQueries$Finder", "goFirst", "(LPathQueries$Way;I)Z"⟩, 9) := ⟨⟨by decide +kernel, by decide +kernel⟩, List.mem_of_getElem? (i := 412) (by decide +kernel), List.mem_of_getElem? (i := 1188) (by decide +kernel), List.mem_of_getElem? (i := 1189) (by decide +kernel)⟩
theorem lw_p49 : lw_okq (⟨"PathQueries$Finder", "goOn", "(LPathQueries$Way;)Z"⟩, 9) := ⟨⟨by decide +kernel, by decide +kernel⟩, List.mem_of_getElem? (i := 412) (by decide +kernel), List.mem_of_getElem? (i := 1192) (by decide +kernel), List.mem_of_getElem? (i := 1193) (by decide +kernel)⟩
theorem lw_p50 : lw_okq (⟨"PathQueries$Finder", "spread", "(LPathQueries$Way;II)V"⟩, 9) := ⟨⟨by decide +kernel, by decide +kernel⟩, List.mem_of_getElem? (i := 412) (by decide +kernel), List.mem_of_getElem? (i := 1197) (by decide +kernel), List.mem_of_getElem? (i := 1198) (by decide +kernel)⟩
theorem lw_p51 : lw_okq (⟨"PathQueries$Search", "candidates", "(I)I"⟩, 12) := ⟨⟨by decide +kernel, by decide +kernel⟩, List.mem_of_getElem? (i := 418) (by decide +kernel), List.mem_of_getElem? (i := 1209) (by decide +kernel), List.mem_of_getElem? (i := 1210) (by decide +kernel)⟩
theorem lw_p52 : lw_okq (⟨"PathQueries$Search", "knownFit", "(I)Z"⟩, 12) := ⟨⟨by decide +kernel, by decide +kernel⟩, List.mem_of_getElem? (i := 418) (by decide +kernel), List.mem_of_getElem? (i := 1236) (by decide +kernel), List.mem_of_getElem? (i := 1237) (by decide +kernel)⟩
theorem lw_p53 : lw_okq (⟨"PathQueries$Finder", "load", "(II)I"⟩, 9) := ⟨⟨by decide +kernel, by decide +kernel⟩, List.mem_of_getElem? (i := 412) (by decide +kernel), List.mem_of_getElem? (i := 1241) (by decide +kernel), List.mem_of_getElem? (i := 1242) (by decide +kernel)⟩
theorem lw_p54 : lw_okq (⟨"PathQueries$RuleBook", "linkAll", "(III)V"⟩, 6) := ⟨⟨by decide +kernel, by decide +kernel⟩, List.mem_of_getElem? (i := 490) (by decide +kernel), List.mem_of_getElem? (i := 1264) (by decide +kernel), List.mem_of_getElem? (i := 1265) (by decide +kernel)⟩
theorem lw_p55 : lw_okq (⟨"PathQueries$Collector", "gather", "(LPathQueries$Text;)V"⟩, 4) := ⟨⟨by decide +kernel, by decide +kernel⟩, List.mem_of_getElem? (i := 519) (by decide +kernel), List.mem_of_getElem? (i := 1275) (by decide +kernel), List.mem_of_getElem? (i := 1276) (by decide +kernel)⟩
theorem lw_p56 : lw_okq (⟨"PathQueries$Rows", "merge", "(IIII)V"⟩, 5) := ⟨⟨by decide +kernel, by decide +kernel⟩, List.mem_of_getElem? (i := 525) (by decide +kernel), List.mem_of_getElem? (i := 1325) (by decide +kernel), List.mem_of_getElem? (i := 1326) (by decide +kernel)⟩
theorem lw_p57 : lw_okq (⟨"PathQueries$Collector", "fold", "(LPathQueries$Text;I)V"⟩, 4) := ⟨⟨by decide +kernel, by decide +kernel⟩, List.mem_of_getElem? (i := 519) (by decide +kernel), List.mem_of_getElem? (i := 1333) (by decide +kernel), List.mem_of_getElem? (i := 1334) (by decide +kernel)⟩
theorem lw_p58 : lw_okq (⟨"PathQueries$Collector", "addTo", "(LPathQueries$Text;I)V"⟩, 4) := ⟨⟨by decide +kernel, by decide +kernel⟩, List.mem_of_getElem? (i := 519) (by decide +kernel), List.mem_of_getElem? (i := 1346) (by decide +kernel), List.mem_of_getElem? (i := 1347) (by decide +kernel)⟩
theorem lw_p59 : lw_okq (⟨"PathQueriesModel", "feedOne", "(I)V"⟩, 90) := ⟨⟨by decide +kernel, by decide +kernel⟩, List.mem_of_getElem? (i := 1390) (by decide +kernel), List.mem_of_getElem? (i := 1674) (by decide +kernel), List.mem_of_getElem? (i := 1675) (by decide +kernel)⟩
theorem lw_p60 : lw_okq (⟨"PathQueriesModel", "changed", "()V"⟩, 90) := ⟨⟨by decide +kernel, by decide +kernel⟩, List.mem_of_getElem? (i := 1390) (by decide +kernel), List.mem_of_getElem? (i := 1689) (by decide +kernel), List.mem_of_getElem? (i := 1690) (by decide +kernel)⟩
theorem lw_p61 : lw_okq (⟨"PathQueriesModel", "ruleCount", "()I"⟩, 90) := ⟨⟨by decide +kernel, by decide +kernel⟩, List.mem_of_getElem? (i := 1390) (by decide +kernel), List.mem_of_getElem? (i := 1713) (by decide +kernel), List.mem_of_getElem? (i := 1714) (by decide +kernel)⟩
theorem lw_p62 : lw_okq (⟨"PathQueriesModel", "readQuestion", "()I"⟩, 90) := ⟨⟨by decide +kernel, by decide +kernel⟩, List.mem_of_getElem? (i := 1390) (by decide +kernel), List.mem_of_getElem? (i := 1725) (by decide +kernel), List.mem_of_getElem? (i := 1726) (by decide +kernel)⟩
theorem lw_p63 : lw_okq (⟨"PathQueriesModel", "begin", "()V"⟩, 90) := ⟨⟨by decide +kernel, by decide +kernel⟩, List.mem_of_getElem? (i := 1390) (by decide +kernel), List.mem_of_getElem? (i := 1729) (by decide +kernel), List.mem_of_getElem? (i := 1730) (by decide +kernel)⟩
def lw_privs_4 : List (MethodName × Nat) := [(⟨"PathQueries$Finder", "goFirst", "(LPathQueries$Way;I)Z"⟩, 9), (⟨"PathQueries$Finder", "goOn", "(LPathQueries$Way;)Z"⟩, 9), (⟨"PathQueries$Finder", "spread", "(LPathQueries$Way;II)V"⟩, 9), (⟨"PathQueries$Search", "candidates", "(I)I"⟩, 12), (⟨"PathQueries$Search", "knownFit", "(I)Z"⟩, 12), (⟨"PathQueries$Finder", "load", "(II)I"⟩, 9), (⟨"PathQueries$RuleBook", "linkAll", "(III)V"⟩, 6), (⟨"PathQueries$Collector", "gather", "(LPathQueries$Text;)V"⟩, 4), (⟨"PathQueries$Rows", "merge", "(IIII)V"⟩, 5), (⟨"PathQueries$Collector", "fold", "(LPathQueries$Text;I)V"⟩, 4), (⟨"PathQueries$Collector", "addTo", "(LPathQueries$Text;I)V"⟩, 4), (⟨"PathQueriesModel", "feedOne", "(I)V"⟩, 90), (⟨"PathQueriesModel", "changed", "()V"⟩, 90), (⟨"PathQueriesModel", "ruleCount", "()I"⟩, 90), (⟨"PathQueriesModel", "readQuestion", "()I"⟩, 90), (⟨"PathQueriesModel", "begin", "()V"⟩, 90)]
theorem lw_r4 : ∀ q ∈ lw_privs_4, lw_okq q := List.forall_mem_cons.mpr ⟨lw_p48, List.forall_mem_cons.mpr ⟨lw_p49, List.forall_mem_cons.mpr ⟨lw_p50, List.forall_mem_cons.mpr ⟨lw_p51, List.forall_mem_cons.mpr ⟨lw_p52, List.forall_mem_cons.mpr ⟨lw_p53, List.forall_mem_cons.mpr ⟨lw_p54, List.forall_mem_cons.mpr ⟨lw_p55, List.forall_mem_cons.mpr ⟨lw_p56, List.forall_mem_cons.mpr ⟨lw_p57, List.forall_mem_cons.mpr ⟨lw_p58, List.forall_mem_cons.mpr ⟨lw_p59, List.forall_mem_cons.mpr ⟨lw_p60, List.forall_mem_cons.mpr ⟨lw_p61, List.forall_mem_cons.mpr ⟨lw_p62, List.forall_mem_cons.mpr ⟨lw_p63, fun _ h => absurd h List.not_mem_nil⟩⟩⟩⟩⟩⟩⟩⟩⟩⟩⟩⟩⟩⟩⟩⟩
theorem lw_p64 : lw_okq (⟨"PathQueriesModel", "cutTokens", "(I)V"⟩, 90) := ⟨⟨by decide +kernel, by decide +kernel⟩, List.mem_of_getElem? (i := 1390) (by decide +kernel), List.mem_of_getElem? (i := 1733) (by decide +kernel), List.mem_of_getElem? (i := 1734) (by decide +kernel)⟩
theorem lw_p65 : lw_okq (⟨"PathQueriesModel", "at", "(II)I"⟩, 90) := ⟨⟨by decide +kernel, by decide +kernel⟩, List.mem_of_getElem? (i := 1390) (by decide +kernel), List.mem_of_getElem? (i := 1737) (by decide +kernel), List.mem_of_getElem? (i := 1738) (by decide +kernel)⟩
theorem lw_p66 : lw_okq (⟨"PathQueriesModel", "wordToken", "(II)V"⟩, 90) := ⟨⟨by decide +kernel, by decide +kernel⟩, List.mem_of_getElem? (i := 1390) (by decide +kernel), List.mem_of_getElem? (i := 1750) (by decide +kernel), List.mem_of_getElem? (i := 1751) (by decide +kernel)⟩
theorem lw_p67 : lw_okq (⟨"PathQueriesModel", "patterns", "()V"⟩, 90) := ⟨⟨by decide +kernel, by decide +kernel⟩, List.mem_of_getElem? (i := 1390) (by decide +kernel), List.mem_of_getElem? (i := 1777) (by decide +kernel), List.mem_of_getElem? (i := 1778) (by decide +kernel)⟩
theorem lw_p68 : lw_okq (⟨"PathQueriesModel", "need", "(I)V"⟩, 90) := ⟨⟨by decide +kernel, by decide +kernel⟩, List.mem_of_getElem? (i := 1390) (by decide +kernel), List.mem_of_getElem? (i := 1781) (by decide +kernel), List.mem_of_getElem? (i := 1782) (by decide +kernel)⟩
theorem lw_p69 : lw_okq (⟨"PathQueriesModel", "takes", "(I)Z"⟩, 90) := ⟨⟨by decide +kernel, by decide +kernel⟩, List.mem_of_getElem? (i := 1390) (by decide +kernel), List.mem_of_getElem? (i := 1785) (by decide +kernel), List.mem_of_getElem? (i := 1786) (by decide +kernel)⟩
theorem lw_p70 : lw_okq (⟨"PathQueriesModel", "kind", "()I"⟩, 90) := ⟨⟨by decide +kernel, by decide +kernel⟩, List.mem_of_getElem? (i := 1390) (by decide +kernel), List.mem_of_getElem? (i := 1789) (by decide +kernel), List.mem_of_getElem? (i := 1790) (by decide +kernel)⟩
theorem lw_p71 : lw_okq (⟨"PathQueriesModel", "refuse", "(II)V"⟩, 90) := ⟨⟨by decide +kernel, by decide +kernel⟩, List.mem_of_getElem? (i := 1390) (by decide +kernel), List.mem_of_getElem? (i := 1793) (by decide +kernel), List.mem_of_getElem? (i := 1794) (by decide +kernel)⟩
theorem lw_p72 : lw_okq (⟨"PathQueriesModel", "pass", "()V"⟩, 90) := ⟨⟨by decide +kernel, by decide +kernel⟩, List.mem_of_getElem? (i := 1390) (by decide +kernel), List.mem_of_getElem? (i := 1797) (by decide +kernel), List.mem_of_getElem? (i := 1798) (by decide +kernel)⟩
theorem lw_p73 : lw_okq (⟨"PathQueriesModel", "stands", "()V"⟩, 90) := ⟨⟨by decide +kernel, by decide +kernel⟩, List.mem_of_getElem? (i := 1390) (by decide +kernel), List.mem_of_getElem? (i := 1801) (by decide +kernel), List.mem_of_getElem? (i := 1802) (by decide +kernel)⟩
theorem lw_p74 : lw_okq (⟨"PathQueriesModel", "wrong", "()V"⟩, 90) := ⟨⟨by decide +kernel, by decide +kernel⟩, List.mem_of_getElem? (i := 1390) (by decide +kernel), List.mem_of_getElem? (i := 1805) (by decide +kernel), List.mem_of_getElem? (i := 1806) (by decide +kernel)⟩
theorem lw_p75 : lw_okq (⟨"PathQueriesModel", "pattern", "()V"⟩, 90) := ⟨⟨by decide +kernel, by decide +kernel⟩, List.mem_of_getElem? (i := 1390) (by decide +kernel), List.mem_of_getElem? (i := 1809) (by decide +kernel), List.mem_of_getElem? (i := 1810) (by decide +kernel)⟩
theorem lw_p76 : lw_okq (⟨"PathQueriesModel", "nodeOf", "()I"⟩, 90) := ⟨⟨by decide +kernel, by decide +kernel⟩, List.mem_of_getElem? (i := 1390) (by decide +kernel), List.mem_of_getElem? (i := 1813) (by decide +kernel), List.mem_of_getElem? (i := 1814) (by decide +kernel)⟩
theorem lw_p77 : lw_okq (⟨"PathQueriesModel", "meaning", "(I)I"⟩, 90) := ⟨⟨by decide +kernel, by decide +kernel⟩, List.mem_of_getElem? (i := 1390) (by decide +kernel), List.mem_of_getElem? (i := 1817) (by decide +kernel), List.mem_of_getElem? (i := 1818) (by decide +kernel)⟩
theorem lw_p78 : lw_okq (⟨"PathQueriesModel", "oneMore", "(I)Z"⟩, 90) := ⟨⟨by decide +kernel, by decide +kernel⟩, List.mem_of_getElem? (i := 1390) (by decide +kernel), List.mem_of_getElem? (i := 1821) (by decide +kernel), List.mem_of_getElem? (i := 1822) (by decide +kernel)⟩
theorem lw_p79 : lw_okq (⟨"PathQueriesModel", "newSlot", "()I"⟩, 90) := ⟨⟨by decide +kernel, by decide +kernel⟩, List.mem_of_getElem? (i := 1390) (by decide +kernel), List.mem_of_getElem? (i := 1825) (by decide +kernel), List.mem_of_getElem? (i := 1826) (by decide +kernel)⟩
def lw_privs_5 : List (MethodName × Nat) := [(⟨"PathQueriesModel", "cutTokens", "(I)V"⟩, 90), (⟨"PathQueriesModel", "at", "(II)I"⟩, 90), (⟨"PathQueriesModel", "wordToken", "(II)V"⟩, 90), (⟨"PathQueriesModel", "patterns", "()V"⟩, 90), (⟨"PathQueriesModel", "need", "(I)V"⟩, 90), (⟨"PathQueriesModel", "takes", "(I)Z"⟩, 90), (⟨"PathQueriesModel", "kind", "()I"⟩, 90), (⟨"PathQueriesModel", "refuse", "(II)V"⟩, 90), (⟨"PathQueriesModel", "pass", "()V"⟩, 90), (⟨"PathQueriesModel", "stands", "()V"⟩, 90), (⟨"PathQueriesModel", "wrong", "()V"⟩, 90), (⟨"PathQueriesModel", "pattern", "()V"⟩, 90), (⟨"PathQueriesModel", "nodeOf", "()I"⟩, 90), (⟨"PathQueriesModel", "meaning", "(I)I"⟩, 90), (⟨"PathQueriesModel", "oneMore", "(I)Z"⟩, 90), (⟨"PathQueriesModel", "newSlot", "()I"⟩, 90)]
theorem lw_r5 : ∀ q ∈ lw_privs_5, lw_okq q := List.forall_mem_cons.mpr ⟨lw_p64, List.forall_mem_cons.mpr ⟨lw_p65, List.forall_mem_cons.mpr ⟨lw_p66, List.forall_mem_cons.mpr ⟨lw_p67, List.forall_mem_cons.mpr ⟨lw_p68, List.forall_mem_cons.mpr ⟨lw_p69, List.forall_mem_cons.mpr ⟨lw_p70, List.forall_mem_cons.mpr ⟨lw_p71, List.forall_mem_cons.mpr ⟨lw_p72, List.forall_mem_cons.mpr ⟨lw_p73, List.forall_mem_cons.mpr ⟨lw_p74, List.forall_mem_cons.mpr ⟨lw_p75, List.forall_mem_cons.mpr ⟨lw_p76, List.forall_mem_cons.mpr ⟨lw_p77, List.forall_mem_cons.mpr ⟨lw_p78, List.forall_mem_cons.mpr ⟨lw_p79, fun _ h => absurd h List.not_mem_nil⟩⟩⟩⟩⟩⟩⟩⟩⟩⟩⟩⟩⟩⟩⟩⟩
theorem lw_p80 : lw_okq (⟨"PathQueriesModel", "learn", "(II)V"⟩, 90) := ⟨⟨by decide +kernel, by decide +kernel⟩, List.mem_of_getElem? (i := 1390) (by decide +kernel), List.mem_of_getElem? (i := 1829) (by decide +kernel), List.mem_of_getElem? (i := 1830) (by decide +kernel)⟩
theorem lw_p81 : lw_okq (⟨"PathQueriesModel", "way", "(I)I"⟩, 90) := ⟨⟨by decide +kernel, by decide +kernel⟩, List.mem_of_getElem? (i := 1390) (by decide +kernel), List.mem_of_getElem? (i := 1833) (by decide +kernel), List.mem_of_getElem? (i := 1834) (by decide +kernel)⟩
theorem lw_p82 : lw_okq (⟨"PathQueriesModel", "rows", "(I)V"⟩, 90) := ⟨⟨by decide +kernel, by decide +kernel⟩, List.mem_of_getElem? (i := 1390) (by decide +kernel), List.mem_of_getElem? (i := 1837) (by decide +kernel), List.mem_of_getElem? (i := 1838) (by decide +kernel)⟩
theorem lw_p83 : lw_okq (⟨"PathQueriesModel", "open", "()V"⟩, 90) := ⟨⟨by decide +kernel, by decide +kernel⟩, List.mem_of_getElem? (i := 1390) (by decide +kernel), List.mem_of_getElem? (i := 1841) (by decide +kernel), List.mem_of_getElem? (i := 1842) (by decide +kernel)⟩
theorem lw_p84 : lw_okq (⟨"PathQueriesModel", "beginRow", "(I)V"⟩, 90) := ⟨⟨by decide +kernel, by decide +kernel⟩, List.mem_of_getElem? (i := 1390) (by decide +kernel), List.mem_of_getElem? (i := 1845) (by decide +kernel), List.mem_of_getElem? (i := 1846) (by decide +kernel)⟩
theorem lw_p85 : lw_okq (⟨"PathQueriesModel", "within", "()V"⟩, 90) := ⟨⟨by decide +kernel, by decide +kernel⟩, List.mem_of_getElem? (i := 1390) (by decide +kernel), List.mem_of_getElem? (i := 1849) (by decide +kernel), List.mem_of_getElem? (i := 1850) (by decide +kernel)⟩
theorem lw_p86 : lw_okq (⟨"PathQueriesModel", "single", "(I)V"⟩, 90) := ⟨⟨by decide +kernel, by decide +kernel⟩, List.mem_of_getElem? (i := 1390) (by decide +kernel), List.mem_of_getElem? (i := 1853) (by decide +kernel), List.mem_of_getElem? (i := 1854) (by decide +kernel)⟩
theorem lw_p87 : lw_okq (⟨"PathQueriesModel", "step", "(IZII)V"⟩, 90) := ⟨⟨by decide +kernel, by decide +kernel⟩, List.mem_of_getElem? (i := 1390) (by decide +kernel), List.mem_of_getElem? (i := 1857) (by decide +kernel), List.mem_of_getElem? (i := 1858) (by decide +kernel)⟩
theorem lw_p88 : lw_okq (⟨"PathQueriesModel", "link", "(III)V"⟩, 90) := ⟨⟨by decide +kernel, by decide +kernel⟩, List.mem_of_getElem? (i := 1390) (by decide +kernel), List.mem_of_getElem? (i := 1861) (by decide +kernel), List.mem_of_getElem? (i := 1862) (by decide +kernel)⟩
theorem lw_p89 : lw_okq (⟨"PathQueriesModel", "endRow", "(I)V"⟩, 90) := ⟨⟨by decide +kernel, by decide +kernel⟩, List.mem_of_getElem? (i := 1390) (by decide +kernel), List.mem_of_getElem? (i := 1865) (by decide +kernel), List.mem_of_getElem? (i := 1866) (by decide +kernel)⟩
theorem lw_p90 : lw_okq (⟨"PathQueriesModel", "parse", "(I)V"⟩, 90) := ⟨⟨by decide +kernel, by decide +kernel⟩, List.mem_of_getElem? (i := 1390) (by decide +kernel), List.mem_of_getElem? (i := 1869) (by decide +kernel), List.mem_of_getElem? (i := 1870) (by decide +kernel)⟩
theorem lw_p91 : lw_okq (⟨"PathQueriesModel", "frame", "(I)V"⟩, 90) := ⟨⟨by decide +kernel, by decide +kernel⟩, List.mem_of_getElem? (i := 1390) (by decide +kernel), List.mem_of_getElem? (i := 1873) (by decide +kernel), List.mem_of_getElem? (i := 1874) (by decide +kernel)⟩
theorem lw_p92 : lw_okq (⟨"PathQueriesModel", "joined", "(IIII)V"⟩, 90) := ⟨⟨by decide +kernel, by decide +kernel⟩, List.mem_of_getElem? (i := 1390) (by decide +kernel), List.mem_of_getElem? (i := 1877) (by decide +kernel), List.mem_of_getElem? (i := 1878) (by decide +kernel)⟩
theorem lw_p93 : lw_okq (⟨"PathQueriesModel", "code", "(II)V"⟩, 90) := ⟨⟨by decide +kernel, by decide +kernel⟩, List.mem_of_getElem? (i := 1390) (by decide +kernel), List.mem_of_getElem? (i := 1881) (by decide +kernel), List.mem_of_getElem? (i := 1882) (by decide +kernel)⟩
theorem lw_p94 : lw_okq (⟨"PathQueriesModel", "fact", "(I)V"⟩, 90) := ⟨⟨by decide +kernel, by decide +kernel⟩, List.mem_of_getElem? (i := 1390) (by decide +kernel), List.mem_of_getElem? (i := 1885) (by decide +kernel), List.mem_of_getElem? (i := 1886) (by decide +kernel)⟩
theorem lw_p95 : lw_okq (⟨"PathQueriesModel", "factBegins", "(I)V"⟩, 90) := ⟨⟨by decide +kernel, by decide +kernel⟩, List.mem_of_getElem? (i := 1390) (by decide +kernel), List.mem_of_getElem? (i := 1889) (by decide +kernel), List.mem_of_getElem? (i := 1890) (by decide +kernel)⟩
def lw_privs_6 : List (MethodName × Nat) := [(⟨"PathQueriesModel", "learn", "(II)V"⟩, 90), (⟨"PathQueriesModel", "way", "(I)I"⟩, 90), (⟨"PathQueriesModel", "rows", "(I)V"⟩, 90), (⟨"PathQueriesModel", "open", "()V"⟩, 90), (⟨"PathQueriesModel", "beginRow", "(I)V"⟩, 90), (⟨"PathQueriesModel", "within", "()V"⟩, 90), (⟨"PathQueriesModel", "single", "(I)V"⟩, 90), (⟨"PathQueriesModel", "step", "(IZII)V"⟩, 90), (⟨"PathQueriesModel", "link", "(III)V"⟩, 90), (⟨"PathQueriesModel", "endRow", "(I)V"⟩, 90), (⟨"PathQueriesModel", "parse", "(I)V"⟩, 90), (⟨"PathQueriesModel", "frame", "(I)V"⟩, 90), (⟨"PathQueriesModel", "joined", "(IIII)V"⟩, 90), (⟨"PathQueriesModel", "code", "(II)V"⟩, 90), (⟨"PathQueriesModel", "fact", "(I)V"⟩, 90), (⟨"PathQueriesModel", "factBegins", "(I)V"⟩, 90)]
theorem lw_r6 : ∀ q ∈ lw_privs_6, lw_okq q := List.forall_mem_cons.mpr ⟨lw_p80, List.forall_mem_cons.mpr ⟨lw_p81, List.forall_mem_cons.mpr ⟨lw_p82, List.forall_mem_cons.mpr ⟨lw_p83, List.forall_mem_cons.mpr ⟨lw_p84, List.forall_mem_cons.mpr ⟨lw_p85, List.forall_mem_cons.mpr ⟨lw_p86, List.forall_mem_cons.mpr ⟨lw_p87, List.forall_mem_cons.mpr ⟨lw_p88, List.forall_mem_cons.mpr ⟨lw_p89, List.forall_mem_cons.mpr ⟨lw_p90, List.forall_mem_cons.mpr ⟨lw_p91, List.forall_mem_cons.mpr ⟨lw_p92, List.forall_mem_cons.mpr ⟨lw_p93, List.forall_mem_cons.mpr ⟨lw_p94, List.forall_mem_cons.mpr ⟨lw_p95, fun _ h => absurd h List.not_mem_nil⟩⟩⟩⟩⟩⟩⟩⟩⟩⟩⟩⟩⟩⟩⟩⟩
theorem lw_p96 : lw_okq (⟨"PathQueriesModel", "without", "()V"⟩, 90) := ⟨⟨by decide +kernel, by decide +kernel⟩, List.mem_of_getElem? (i := 1390) (by decide +kernel), List.mem_of_getElem? (i := 1893) (by decide +kernel), List.mem_of_getElem? (i := 1894) (by decide +kernel)⟩
theorem lw_p97 : lw_okq (⟨"PathQueriesModel", "reckoned", "(I)V"⟩, 90) := ⟨⟨by decide +kernel, by decide +kernel⟩, List.mem_of_getElem? (i := 1390) (by decide +kernel), List.mem_of_getElem? (i := 1900) (by decide +kernel), List.mem_of_getElem? (i := 1901) (by decide +kernel)⟩
theorem lw_p98 : lw_okq (⟨"PathQueriesModel", "unit", "(I)V"⟩, 90) := ⟨⟨by decide +kernel, by decide +kernel⟩, List.mem_of_getElem? (i := 1390) (by decide +kernel), List.mem_of_getElem? (i := 1904) (by decide +kernel), List.mem_of_getElem? (i := 1905) (by decide +kernel)⟩
theorem lw_p99 : lw_okq (⟨"PathQueriesModel", "variable", "()V"⟩, 90) := ⟨⟨by decide +kernel, by decide +kernel⟩, List.mem_of_getElem? (i := 1390) (by decide +kernel), List.mem_of_getElem? (i := 1908) (by decide +kernel), List.mem_of_getElem? (i := 1909) (by decide +kernel)⟩
theorem lw_p100 : lw_okq (⟨"PathQueriesModel", "item", "()V"⟩, 90) := ⟨⟨by decide +kernel, by decide +kernel⟩, List.mem_of_getElem? (i := 1390) (by decide +kernel), List.mem_of_getElem? (i := 1912) (by decide +kernel), List.mem_of_getElem? (i := 1913) (by decide +kernel)⟩
theorem lw_p101 : lw_okq (⟨"PathQueriesModel", "ended", "(I)I"⟩, 90) := ⟨⟨by decide +kernel, by decide +kernel⟩, List.mem_of_getElem? (i := 1390) (by decide +kernel), List.mem_of_getElem? (i := 1916) (by decide +kernel), List.mem_of_getElem? (i := 1917) (by decide +kernel)⟩
theorem lw_p102 : lw_okq (⟨"PathQueriesModel", "settle", "(I)V"⟩, 90) := ⟨⟨by decide +kernel, by decide +kernel⟩, List.mem_of_getElem? (i := 1390) (by decide +kernel), List.mem_of_getElem? (i := 1920) (by decide +kernel), List.mem_of_getElem? (i := 1921) (by decide +kernel)⟩
theorem lw_p103 : lw_okq (⟨"PathQueriesModel", "readRule", "()I"⟩, 90) := ⟨⟨by decide +kernel, by decide +kernel⟩, List.mem_of_getElem? (i := 1390) (by decide +kernel), List.mem_of_getElem? (i := 1928) (by decide +kernel), List.mem_of_getElem? (i := 1929) (by decide +kernel)⟩
theorem lw_p104 : lw_okq (⟨"PathQueriesModel", "endOf", "()I"⟩, 90) := ⟨⟨by decide +kernel, by decide +kernel⟩, List.mem_of_getElem? (i := 1390) (by decide +kernel), List.mem_of_getElem? (i := 1932) (by decide +kernel), List.mem_of_getElem? (i := 1933) (by decide +kernel)⟩
theorem lw_p105 : lw_okq (⟨"PathQueriesModel", "workRules", "()V"⟩, 90) := ⟨⟨by decide +kernel, by decide +kernel⟩, List.mem_of_getElem? (i := 1390) (by decide +kernel), List.mem_of_getElem? (i := 1948) (by decide +kernel), List.mem_of_getElem? (i := 1949) (by decide +kernel)⟩
theorem lw_p106 : lw_okq (⟨"PathQueriesModel", "workOf", "(I)J"⟩, 90) := ⟨⟨by decide +kernel, by decide +kernel⟩, List.mem_of_getElem? (i := 1390) (by decide +kernel), List.mem_of_getElem? (i := 1952) (by decide +kernel), List.mem_of_getElem? (i := 1953) (by decide +kernel)⟩
theorem lw_p107 : lw_okq (⟨"PathQueriesModel", "round", "()Z"⟩, 90) := ⟨⟨by decide +kernel, by decide +kernel⟩, List.mem_of_getElem? (i := 1390) (by decide +kernel), List.mem_of_getElem? (i := 1958) (by decide +kernel), List.mem_of_getElem? (i := 1959) (by decide +kernel)⟩
theorem lw_p108 : lw_okq (⟨"PathQueriesModel", "measureAll", "()V"⟩, 90) := ⟨⟨by decide +kernel, by decide +kernel⟩, List.mem_of_getElem? (i := 1390) (by decide +kernel), List.mem_of_getElem? (i := 1962) (by decide +kernel), List.mem_of_getElem? (i := 1963) (by decide +kernel)⟩
theorem lw_p109 : lw_okq (⟨"PathQueriesModel", "measure", "(II)V"⟩, 90) := ⟨⟨by decide +kernel, by decide +kernel⟩, List.mem_of_getElem? (i := 1390) (by decide +kernel), List.mem_of_getElem? (i := 1966) (by decide +kernel), List.mem_of_getElem? (i := 1967) (by decide +kernel)⟩
theorem lw_p110 : lw_okq (⟨"PathQueriesModel", "leadsBy", "(III)Z"⟩, 90) := ⟨⟨by decide +kernel, by decide +kernel⟩, List.mem_of_getElem? (i := 1390) (by decide +kernel), List.mem_of_getElem? (i := 1970) (by decide +kernel), List.mem_of_getElem? (i := 1971) (by decide +kernel)⟩
theorem lw_p111 : lw_okq (⟨"PathQueriesModel", "firstRow", "()V"⟩, 90) := ⟨⟨by decide +kernel, by decide +kernel⟩, List.mem_of_getElem? (i := 1390) (by decide +kernel), List.mem_of_getElem? (i := 1974) (by decide +kernel), List.mem_of_getElem? (i := 1975) (by decide +kernel)⟩
def lw_privs_7 : List (MethodName × Nat) := [(⟨"PathQueriesModel", "without", "()V"⟩, 90), (⟨"PathQueriesModel", "reckoned", "(I)V"⟩, 90), (⟨"PathQueriesModel", "unit", "(I)V"⟩, 90), (⟨"PathQueriesModel", "variable", "()V"⟩, 90), (⟨"PathQueriesModel", "item", "()V"⟩, 90), (⟨"PathQueriesModel", "ended", "(I)I"⟩, 90), (⟨"PathQueriesModel", "settle", "(I)V"⟩, 90), (⟨"PathQueriesModel", "readRule", "()I"⟩, 90), (⟨"PathQueriesModel", "endOf", "()I"⟩, 90), (⟨"PathQueriesModel", "workRules", "()V"⟩, 90), (⟨"PathQueriesModel", "workOf", "(I)J"⟩, 90), (⟨"PathQueriesModel", "round", "()Z"⟩, 90), (⟨"PathQueriesModel", "measureAll", "()V"⟩, 90), (⟨"PathQueriesModel", "measure", "(II)V"⟩, 90), (⟨"PathQueriesModel", "leadsBy", "(III)Z"⟩, 90), (⟨"PathQueriesModel", "firstRow", "()V"⟩, 90)]
theorem lw_r7 : ∀ q ∈ lw_privs_7, lw_okq q := List.forall_mem_cons.mpr ⟨lw_p96, List.forall_mem_cons.mpr ⟨lw_p97, List.forall_mem_cons.mpr ⟨lw_p98, List.forall_mem_cons.mpr ⟨lw_p99, List.forall_mem_cons.mpr ⟨lw_p100, List.forall_mem_cons.mpr ⟨lw_p101, List.forall_mem_cons.mpr ⟨lw_p102, List.forall_mem_cons.mpr ⟨lw_p103, List.forall_mem_cons.mpr ⟨lw_p104, List.forall_mem_cons.mpr ⟨lw_p105, List.forall_mem_cons.mpr ⟨lw_p106, List.forall_mem_cons.mpr ⟨lw_p107, List.forall_mem_cons.mpr ⟨lw_p108, List.forall_mem_cons.mpr ⟨lw_p109, List.forall_mem_cons.mpr ⟨lw_p110, List.forall_mem_cons.mpr ⟨lw_p111, fun _ h => absurd h List.not_mem_nil⟩⟩⟩⟩⟩⟩⟩⟩⟩⟩⟩⟩⟩⟩⟩⟩
theorem lw_p112 : lw_okq (⟨"PathQueriesModel", "holds", "()Z"⟩, 90) := ⟨⟨by decide +kernel, by decide +kernel⟩, List.mem_of_getElem? (i := 1390) (by decide +kernel), List.mem_of_getElem? (i := 1978) (by decide +kernel), List.mem_of_getElem? (i := 1979) (by decide +kernel)⟩
theorem lw_p113 : lw_okq (⟨"PathQueriesModel", "fits", "(I)Z"⟩, 90) := ⟨⟨by decide +kernel, by decide +kernel⟩, List.mem_of_getElem? (i := 1390) (by decide +kernel), List.mem_of_getElem? (i := 1982) (by decide +kernel), List.mem_of_getElem? (i := 1983) (by decide +kernel)⟩
theorem lw_p114 : lw_okq (⟨"PathQueriesModel", "distance", "(I)I"⟩, 90) := ⟨⟨by decide +kernel, by decide +kernel⟩, List.mem_of_getElem? (i := 1390) (by decide +kernel), List.mem_of_getElem? (i := 1986) (by decide +kernel), List.mem_of_getElem? (i := 1987) (by decide +kernel)⟩
theorem lw_p115 : lw_okq (⟨"PathQueriesModel", "work", "(II)I"⟩, 90) := ⟨⟨by decide +kernel, by decide +kernel⟩, List.mem_of_getElem? (i := 1390) (by decide +kernel), List.mem_of_getElem? (i := 1990) (by decide +kernel), List.mem_of_getElem? (i := 1991) (by decide +kernel)⟩
theorem lw_p116 : lw_okq (⟨"PathQueriesModel", "isWithout", "(I)Z"⟩, 90) := ⟨⟨by decide +kernel, by decide +kernel⟩, List.mem_of_getElem? (i := 1390) (by decide +kernel), List.mem_of_getElem? (i := 1994) (by decide +kernel), List.mem_of_getElem? (i := 1995) (by decide +kernel)⟩
theorem lw_p117 : lw_okq (⟨"PathQueriesModel", "goesOn", "(I)Z"⟩, 90) := ⟨⟨by decide +kernel, by decide +kernel⟩, List.mem_of_getElem? (i := 1390) (by decide +kernel), List.mem_of_getElem? (i := 1998) (by decide +kernel), List.mem_of_getElem? (i := 1999) (by decide +kernel)⟩
theorem lw_p118 : lw_okq (⟨"PathQueriesModel", "answered", "(I)I"⟩, 90) := ⟨⟨by decide +kernel, by decide +kernel⟩, List.mem_of_getElem? (i := 1390) (by decide +kernel), List.mem_of_getElem? (i := 2012) (by decide +kernel), List.mem_of_getElem? (i := 2013) (by decide +kernel)⟩
theorem lw_p119 : lw_okq (⟨"PathQueriesModel", "collect", "()V"⟩, 90) := ⟨⟨by decide +kernel, by decide +kernel⟩, List.mem_of_getElem? (i := 1390) (by decide +kernel), List.mem_of_getElem? (i := 2016) (by decide +kernel), List.mem_of_getElem? (i := 2017) (by decide +kernel)⟩
theorem lw_p120 : lw_okq (⟨"PathQueriesModel", "groupRows", "()I"⟩, 90) := ⟨⟨by decide +kernel, by decide +kernel⟩, List.mem_of_getElem? (i := 1390) (by decide +kernel), List.mem_of_getElem? (i := 2020) (by decide +kernel), List.mem_of_getElem? (i := 2021) (by decide +kernel)⟩
theorem lw_p121 : lw_okq (⟨"PathQueriesModel", "sortRows", "()V"⟩, 90) := ⟨⟨by decide +kernel, by decide +kernel⟩, List.mem_of_getElem? (i := 1390) (by decide +kernel), List.mem_of_getElem? (i := 2024) (by decide +kernel), List.mem_of_getElem? (i := 2025) (by decide +kernel)⟩
theorem lw_p122 : lw_okq (⟨"PathQueriesModel", "compareRows", "(II)I"⟩, 90) := ⟨⟨by decide +kernel, by decide +kernel⟩, List.mem_of_getElem? (i := 1390) (by decide +kernel), List.mem_of_getElem? (i := 2028) (by decide +kernel), List.mem_of_getElem? (i := 2029) (by decide +kernel)⟩
theorem lw_p123 : lw_okq (⟨"PathQueriesModel", "together", "(III)I"⟩, 90) := ⟨⟨by decide +kernel, by decide +kernel⟩, List.mem_of_getElem? (i := 1390) (by decide +kernel), List.mem_of_getElem? (i := 2032) (by decide +kernel), List.mem_of_getElem? (i := 2033) (by decide +kernel)⟩
def lw_privs_8 : List (MethodName × Nat) := [(⟨"PathQueriesModel", "holds", "()Z"⟩, 90), (⟨"PathQueriesModel", "fits", "(I)Z"⟩, 90), (⟨"PathQueriesModel", "distance", "(I)I"⟩, 90), (⟨"PathQueriesModel", "work", "(II)I"⟩, 90), (⟨"PathQueriesModel", "isWithout", "(I)Z"⟩, 90), (⟨"PathQueriesModel", "goesOn", "(I)Z"⟩, 90), (⟨"PathQueriesModel", "answered", "(I)I"⟩, 90), (⟨"PathQueriesModel", "collect", "()V"⟩, 90), (⟨"PathQueriesModel", "groupRows", "()I"⟩, 90), (⟨"PathQueriesModel", "sortRows", "()V"⟩, 90), (⟨"PathQueriesModel", "compareRows", "(II)I"⟩, 90), (⟨"PathQueriesModel", "together", "(III)I"⟩, 90)]
theorem lw_r8 : ∀ q ∈ lw_privs_8, lw_okq q := List.forall_mem_cons.mpr ⟨lw_p112, List.forall_mem_cons.mpr ⟨lw_p113, List.forall_mem_cons.mpr ⟨lw_p114, List.forall_mem_cons.mpr ⟨lw_p115, List.forall_mem_cons.mpr ⟨lw_p116, List.forall_mem_cons.mpr ⟨lw_p117, List.forall_mem_cons.mpr ⟨lw_p118, List.forall_mem_cons.mpr ⟨lw_p119, List.forall_mem_cons.mpr ⟨lw_p120, List.forall_mem_cons.mpr ⟨lw_p121, List.forall_mem_cons.mpr ⟨lw_p122, List.forall_mem_cons.mpr ⟨lw_p123, fun _ h => absurd h List.not_mem_nil⟩⟩⟩⟩⟩⟩⟩⟩⟩⟩⟩⟩
def lw_privs : List (MethodName × Nat) := lw_privs_1 ++ (lw_privs_2 ++ (lw_privs_3 ++ (lw_privs_4 ++ (lw_privs_5 ++ (lw_privs_6 ++ (lw_privs_7 ++ (lw_privs_8)))))))
def lw_tbl : List Cond := k2_sels lw_privs ++ tables_1
theorem lw_privs_ok : ∀ q ∈ lw_privs, lw_okq q := by
  show ∀ q ∈ lw_privs_1 ++ (lw_privs_2 ++ (lw_privs_3 ++ (lw_privs_4 ++ (lw_privs_5 ++ (lw_privs_6 ++ (lw_privs_7 ++ (lw_privs_8))))))), lw_okq q
  exact List.forall_mem_append.mpr ⟨lw_r1, List.forall_mem_append.mpr ⟨lw_r2, List.forall_mem_append.mpr ⟨lw_r3, List.forall_mem_append.mpr ⟨lw_r4, List.forall_mem_append.mpr ⟨lw_r5, List.forall_mem_append.mpr ⟨lw_r6, List.forall_mem_append.mpr ⟨lw_r7, lw_r8⟩⟩⟩⟩⟩⟩⟩
def zT : List Cond := lw_tbl.filter goodWord
theorem zT_good : ∀ w ∈ zT, w ∈ zT ∧ ((w.onTables && w.keeps) = true ∨ ∃ ty, w = .arrayClass ty) := fun w hw => ⟨hw, good_of_word (List.mem_filter.mp hw).2⟩
theorem zm {w : Cond} (i : Nat) (h : lw_tbl[i]? = some w) (hg : goodWord w = true) : w ∈ zT := List.mem_filter.mpr ⟨List.mem_of_getElem? h, hg⟩
def rr_Graph : String := "PathQueries$Graph"
def ff_Graph : u_T := fun k => match k with
  | 0 => ("PathQueries$Graph", "marks", "[I", true)
  | 1 => ("PathQueries$Graph", "columns", "[I", true)
  | 2 => ("PathQueries$Graph", "from", "[I", true)
  | 3 => ("PathQueries$Graph", "to", "[I", true)
  | 4 => ("PathQueries$Graph", "label", "[I", true)
  | 5 => ("PathQueries$Graph", "weight", "[I", true)
  | 6 => ("PathQueries$Graph", "reach", "[I", true)
  | 7 => ("PathQueries$Graph", "nodes", "I", false)
  | 8 => ("PathQueries$Graph", "arcs", "I", false)
  | _ => ("PathQueries$Graph", "version", "I", false)
def tt_Graph : Nat → FieldType := fun k => match k with
  | 0 => .array .int
  | 1 => .array .int
  | 2 => .array .int
  | 3 => .array .int
  | 4 => .array .int
  | 5 => .array .int
  | 6 => .array .int
  | 7 => .int
  | 8 => .int
  | _ => .int
theorem nn_Graph : ∀ a, a < 10 → ∀ b, b < 10 → a ≠ b → (ff_Graph a).2.1 ≠ (ff_Graph b).2.1 := by decide +kernel
theorem tk_Graph : ∀ k, k < 10 → parseFieldDescriptor (ff_Graph k).2.2.1 = some (tt_Graph k) := by decide +kernel
def rr_Way : String := "PathQueries$Way"
def ff_Way : u_T := fun k => match k with
  | 0 => ("PathQueries$Way", "from", "I", false)
  | 1 => ("PathQueries$Way", "to", "I", false)
  | 2 => ("PathQueries$Way", "leastSlot", "I", false)
  | 3 => ("PathQueries$Way", "turned", "Z", false)
  | 4 => ("PathQueries$Way", "ruled", "Z", false)
  | 5 => ("PathQueries$Way", "steps", "I", false)
  | 6 => ("PathQueries$Way", "step", "[I", true)
  | 7 => ("PathQueries$Way", "follow", "[I", true)
  | 8 => ("PathQueries$Way", "whole", "J", false)
  | 9 => ("PathQueries$Way", "level", "I", false)
  | 10 => ("PathQueries$Way", "pending", "J", false)
  | 11 => ("PathQueries$Way", "either", "[J", true)
  | 12 => ("PathQueries$Way", "row", "[J", true)
  | 13 => ("PathQueries$Way", "arcs", "[I", true)
  | 14 => ("PathQueries$Way", "ahead", "[I", true)
  | 15 => ("PathQueries$Way", "behind", "[I", true)
  | 16 => ("PathQueries$Way", "loops", "I", false)
  | _ => ("PathQueries$Way", "measuredAt", "I", false)
def tt_Way : Nat → FieldType := fun k => match k with
  | 0 => .int
  | 1 => .int
  | 2 => .int
  | 3 => .boolean
  | 4 => .boolean
  | 5 => .int
  | 6 => .array .int
  | 7 => .array .int
  | 8 => .long
  | 9 => .int
  | 10 => .long
  | 11 => .array .long
  | 12 => .array .long
  | 13 => .array .int
  | 14 => .array .int
  | 15 => .array .int
  | 16 => .int
  | _ => .int
theorem nn_Way : ∀ a, a < 18 → ∀ b, b < 18 → a ≠ b → (ff_Way a).2.1 ≠ (ff_Way b).2.1 := by decide +kernel
theorem tk_Way : ∀ k, k < 18 → parseFieldDescriptor (ff_Way k).2.2.1 = some (tt_Way k) := by decide +kernel
def rr_Text : String := "PathQueries$Text"
def ff_Text : u_T := fun k => match k with
  | 0 => ("PathQueries$Text", "stands", "Z", false)
  | 1 => ("PathQueries$Text", "label", "I", false)
  | 2 => ("PathQueries$Text", "nodeSlots", "I", false)
  | 3 => ("PathQueries$Text", "ways", "I", false)
  | 4 => ("PathQueries$Text", "way", "[LPathQueries$Way;", true)
  | 5 => ("PathQueries$Text", "demands", "I", false)
  | 6 => ("PathQueries$Text", "demand", "[I", true)
  | 7 => ("PathQueries$Text", "suited", "[I", true)
  | 8 => ("PathQueries$Text", "groups", "I", false)
  | 9 => ("PathQueries$Text", "own", "[I", true)
  | 10 => ("PathQueries$Text", "wayEnd", "[I", true)
  | 11 => ("PathQueries$Text", "demandEnd", "[I", true)
  | 12 => ("PathQueries$Text", "codeEnd", "I", false)
  | 13 => ("PathQueries$Text", "code", "[I", true)
  | 14 => ("PathQueries$Text", "condEnd", "I", false)
  | 15 => ("PathQueries$Text", "items", "I", false)
  | 16 => ("PathQueries$Text", "itemKind", "[I", true)
  | 17 => ("PathQueries$Text", "itemEnd", "[I", true)
  | 18 => ("PathQueries$Text", "limit", "I", false)
  | 19 => ("PathQueries$Text", "giveFrom", "I", false)
  | _ => ("PathQueries$Text", "giveTo", "I", false)
def tt_Text : Nat → FieldType := fun k => match k with
  | 0 => .boolean
  | 1 => .int
  | 2 => .int
  | 3 => .int
  | 4 => .array (.object "PathQueries$Way")
  | 5 => .int
  | 6 => .array .int
  | 7 => .array .int
  | 8 => .int
  | 9 => .array .int
  | 10 => .array .int
  | 11 => .array .int
  | 12 => .int
  | 13 => .array .int
  | 14 => .int
  | 15 => .int
  | 16 => .array .int
  | 17 => .array .int
  | 18 => .int
  | 19 => .int
  | _ => .int
theorem nn_Text : ∀ a, a < 21 → ∀ b, b < 21 → a ≠ b → (ff_Text a).2.1 ≠ (ff_Text b).2.1 := by decide +kernel
theorem tk_Text : ∀ k, k < 21 → parseFieldDescriptor (ff_Text k).2.2.1 = some (tt_Text k) := by decide +kernel
def rr_Tokens : String := "PathQueries$Tokens"
def ff_Tokens : u_T := fun k => match k with
  | 0 => ("PathQueries$Tokens", "kind", "[I", true)
  | 1 => ("PathQueries$Tokens", "value", "[I", true)
  | 2 => ("PathQueries$Tokens", "place", "[I", true)
  | 3 => ("PathQueries$Tokens", "count", "I", false)
  | 4 => ("PathQueries$Tokens", "tape", "[B", false)
  | _ => ("PathQueries$Tokens", "length", "I", false)
def tt_Tokens : Nat → FieldType := fun k => match k with
  | 0 => .array .int
  | 1 => .array .int
  | 2 => .array .int
  | 3 => .int
  | 4 => .array .byte
  | _ => .int
theorem nn_Tokens : ∀ a, a < 6 → ∀ b, b < 6 → a ≠ b → (ff_Tokens a).2.1 ≠ (ff_Tokens b).2.1 := by decide +kernel
theorem tk_Tokens : ∀ k, k < 6 → parseFieldDescriptor (ff_Tokens k).2.2.1 = some (tt_Tokens k) := by decide +kernel
def rr_Operators : String := "PathQueries$Operators"
def ff_Operators : u_T := fun k => match k with
  | 0 => ("PathQueries$Operators", "open", "I", false)
  | 1 => ("PathQueries$Operators", "parens", "I", false)
  | 2 => ("PathQueries$Operators", "brackets", "I", false)
  | 3 => ("PathQueries$Operators", "text", "LPathQueries$Text;", false)
  | 4 => ("PathQueries$Operators", "top", "I", false)
  | 5 => ("PathQueries$Operators", "rank", "[I", true)
  | 6 => ("PathQueries$Operators", "op", "[I", true)
  | _ => ("PathQueries$Operators", "skip", "[I", true)
def tt_Operators : Nat → FieldType := fun k => match k with
  | 0 => .int
  | 1 => .int
  | 2 => .int
  | 3 => .object "PathQueries$Text"
  | 4 => .int
  | 5 => .array .int
  | 6 => .array .int
  | _ => .array .int
theorem nn_Operators : ∀ a, a < 8 → ∀ b, b < 8 → a ≠ b → (ff_Operators a).2.1 ≠ (ff_Operators b).2.1 := by decide +kernel
theorem tk_Operators : ∀ k, k < 8 → parseFieldDescriptor (ff_Operators k).2.2.1 = some (tt_Operators k) := by decide +kernel
def rr_Reader : String := "PathQueries$Reader"
def ff_Reader : u_T := fun k => match k with
  | 0 => ("PathQueries$Reader", "faultPlace", "I", false)
  | 1 => ("PathQueries$Reader", "tokens", "LPathQueries$Tokens;", true)
  | 2 => ("PathQueries$Reader", "operators", "LPathQueries$Operators;", true)
  | 3 => ("PathQueries$Reader", "slotOf", "[I", true)
  | 4 => ("PathQueries$Reader", "text", "LPathQueries$Text;", false)
  | 5 => ("PathQueries$Reader", "way", "LPathQueries$Way;", false)
  | 6 => ("PathQueries$Reader", "forRule", "Z", false)
  | 7 => ("PathQueries$Reader", "at", "I", false)
  | 8 => ("PathQueries$Reader", "state", "I", false)
  | 9 => ("PathQueries$Reader", "fault", "I", false)
  | 10 => ("PathQueries$Reader", "slots", "I", false)
  | 11 => ("PathQueries$Reader", "known", "I", false)
  | 12 => ("PathQueries$Reader", "leasts", "I", false)
  | 13 => ("PathQueries$Reader", "knownOutside", "I", false)
  | 14 => ("PathQueries$Reader", "opener", "I", false)
  | 15 => ("PathQueries$Reader", "front", "I", false)
  | 16 => ("PathQueries$Reader", "slot", "I", false)
  | 17 => ("PathQueries$Reader", "marks", "I", false)
  | 18 => ("PathQueries$Reader", "side", "I", false)
  | _ => ("PathQueries$Reader", "taken", "Z", false)
def tt_Reader : Nat → FieldType := fun k => match k with
  | 0 => .int
  | 1 => .object "PathQueries$Tokens"
  | 2 => .object "PathQueries$Operators"
  | 3 => .array .int
  | 4 => .object "PathQueries$Text"
  | 5 => .object "PathQueries$Way"
  | 6 => .boolean
  | 7 => .int
  | 8 => .int
  | 9 => .int
  | 10 => .int
  | 11 => .int
  | 12 => .int
  | 13 => .int
  | 14 => .int
  | 15 => .int
  | 16 => .int
  | 17 => .int
  | 18 => .int
  | _ => .boolean
theorem nn_Reader : ∀ a, a < 20 → ∀ b, b < 20 → a ≠ b → (ff_Reader a).2.1 ≠ (ff_Reader b).2.1 := by decide +kernel
theorem tk_Reader : ∀ k, k < 20 → parseFieldDescriptor (ff_Reader k).2.2.1 = some (tt_Reader k) := by decide +kernel
def rr_Search : String := "PathQueries$Search"
def ff_Search : u_T := fun k => match k with
  | 0 => ("PathQueries$Search", "graph", "LPathQueries$Graph;", true)
  | 1 => ("PathQueries$Search", "value", "[I", true)
  | 2 => ("PathQueries$Search", "order", "[I", true)
  | 3 => ("PathQueries$Search", "before", "[I", true)
  | 4 => ("PathQueries$Search", "left", "[I", true)
  | 5 => ("PathQueries$Search", "text", "LPathQueries$Text;", false)
  | 6 => ("PathQueries$Search", "firstWay", "I", false)
  | 7 => ("PathQueries$Search", "endWay", "I", false)
  | 8 => ("PathQueries$Search", "firstDemand", "I", false)
  | 9 => ("PathQueries$Search", "endDemand", "I", false)
  | 10 => ("PathQueries$Search", "count", "I", false)
  | _ => ("PathQueries$Search", "depth", "I", false)
def tt_Search : Nat → FieldType := fun k => match k with
  | 0 => .object "PathQueries$Graph"
  | 1 => .array .int
  | 2 => .array .int
  | 3 => .array .int
  | 4 => .array .int
  | 5 => .object "PathQueries$Text"
  | 6 => .int
  | 7 => .int
  | 8 => .int
  | 9 => .int
  | 10 => .int
  | _ => .int
theorem nn_Search : ∀ a, a < 12 → ∀ b, b < 12 → a ≠ b → (ff_Search a).2.1 ≠ (ff_Search b).2.1 := by decide +kernel
theorem tk_Search : ∀ k, k < 12 → parseFieldDescriptor (ff_Search k).2.2.1 = some (tt_Search k) := by decide +kernel
def rr_Finder : String := "PathQueries$Finder"
def ff_Finder : u_T := fun k => match k with
  | 0 => ("PathQueries$Finder", "value", "[I", true)
  | 1 => ("PathQueries$Finder", "graph", "LPathQueries$Graph;", true)
  | 2 => ("PathQueries$Finder", "matched", "LPathQueries$Search;", true)
  | 3 => ("PathQueries$Finder", "absent", "LPathQueries$Search;", true)
  | 4 => ("PathQueries$Finder", "stack", "[I", true)
  | 5 => ("PathQueries$Finder", "now", "[I", true)
  | 6 => ("PathQueries$Finder", "next", "[I", true)
  | 7 => ("PathQueries$Finder", "seen", "[I", true)
  | _ => ("PathQueries$Finder", "text", "LPathQueries$Text;", false)
def tt_Finder : Nat → FieldType := fun k => match k with
  | 0 => .array .int
  | 1 => .object "PathQueries$Graph"
  | 2 => .object "PathQueries$Search"
  | 3 => .object "PathQueries$Search"
  | 4 => .array .int
  | 5 => .array .int
  | 6 => .array .int
  | 7 => .array .int
  | _ => .object "PathQueries$Text"
theorem nn_Finder : ∀ a, a < 9 → ∀ b, b < 9 → a ≠ b → (ff_Finder a).2.1 ≠ (ff_Finder b).2.1 := by decide +kernel
theorem tk_Finder : ∀ k, k < 9 → parseFieldDescriptor (ff_Finder k).2.2.1 = some (tt_Finder k) := by decide +kernel
def rr_RuleBook : String := "PathQueries$RuleBook"
def ff_RuleBook : u_T := fun k => match k with
  | 0 => ("PathQueries$RuleBook", "rules", "[LPathQueries$Text;", true)
  | 1 => ("PathQueries$RuleBook", "graph", "LPathQueries$Graph;", true)
  | 2 => ("PathQueries$RuleBook", "finder", "LPathQueries$Finder;", true)
  | 3 => ("PathQueries$RuleBook", "gained", "[I", true)
  | 4 => ("PathQueries$RuleBook", "settledAt", "I", false)
  | _ => ("PathQueries$RuleBook", "large", "Z", false)
def tt_RuleBook : Nat → FieldType := fun k => match k with
  | 0 => .array (.object "PathQueries$Text")
  | 1 => .object "PathQueries$Graph"
  | 2 => .object "PathQueries$Finder"
  | 3 => .array .int
  | 4 => .int
  | _ => .boolean
theorem nn_RuleBook : ∀ a, a < 6 → ∀ b, b < 6 → a ≠ b → (ff_RuleBook a).2.1 ≠ (ff_RuleBook b).2.1 := by decide +kernel
theorem tk_RuleBook : ∀ k, k < 6 → parseFieldDescriptor (ff_RuleBook k).2.2.1 = some (tt_RuleBook k) := by decide +kernel
def rr_Rows : String := "PathQueries$Rows"
def ff_Rows : u_T := fun k => match k with
  | 0 => ("PathQueries$Rows", "rows", "I", false)
  | 1 => ("PathQueries$Rows", "width", "I", false)
  | 2 => ("PathQueries$Rows", "cells", "[I", false)
  | 3 => ("PathQueries$Rows", "order", "[I", false)
  | _ => ("PathQueries$Rows", "other", "[I", false)
def tt_Rows : Nat → FieldType := fun k => match k with
  | 0 => .int
  | 1 => .int
  | 2 => .array .int
  | 3 => .array .int
  | _ => .array .int
theorem nn_Rows : ∀ a, a < 5 → ∀ b, b < 5 → a ≠ b → (ff_Rows a).2.1 ≠ (ff_Rows b).2.1 := by decide +kernel
theorem tk_Rows : ∀ k, k < 5 → parseFieldDescriptor (ff_Rows k).2.2.1 = some (tt_Rows k) := by decide +kernel
def rr_Collector : String := "PathQueries$Collector"
def ff_Collector : u_T := fun k => match k with
  | 0 => ("PathQueries$Collector", "finder", "LPathQueries$Finder;", true)
  | 1 => ("PathQueries$Collector", "raw", "LPathQueries$Rows;", true)
  | 2 => ("PathQueries$Collector", "folded", "LPathQueries$Rows;", true)
  | _ => ("PathQueries$Collector", "total", "[J", true)
def tt_Collector : Nat → FieldType := fun k => match k with
  | 0 => .object "PathQueries$Finder"
  | 1 => .object "PathQueries$Rows"
  | 2 => .object "PathQueries$Rows"
  | _ => .array .long
theorem nn_Collector : ∀ a, a < 4 → ∀ b, b < 4 → a ≠ b → (ff_Collector a).2.1 ≠ (ff_Collector b).2.1 := by decide +kernel
theorem tk_Collector : ∀ k, k < 4 → parseFieldDescriptor (ff_Collector k).2.2.1 = some (tt_Collector k) := by decide +kernel
def rr_PQ : String := "PathQueries"
def ff_PQ : u_T := fun k => match k with
  | 0 => ("PathQueries", "tape", "[B", true)
  | 1 => ("PathQueries", "graph", "LPathQueries$Graph;", true)
  | 2 => ("PathQueries", "spare", "LPathQueries$Text;", false)
  | 3 => ("PathQueries", "reader", "LPathQueries$Reader;", true)
  | 4 => ("PathQueries", "finder", "LPathQueries$Finder;", true)
  | 5 => ("PathQueries", "book", "LPathQueries$RuleBook;", true)
  | 6 => ("PathQueries", "collector", "LPathQueries$Collector;", true)
  | 7 => ("PathQueries", "questions", "[LPathQueries$Text;", true)
  | 8 => ("PathQueries", "answers", "[LPathQueries$Rows;", true)
  | 9 => ("PathQueries", "answeredAt", "[I", true)
  | _ => ("PathQueries", "length", "I", false)
def tt_PQ : Nat → FieldType := fun k => match k with
  | 0 => .array .byte
  | 1 => .object "PathQueries$Graph"
  | 2 => .object "PathQueries$Text"
  | 3 => .object "PathQueries$Reader"
  | 4 => .object "PathQueries$Finder"
  | 5 => .object "PathQueries$RuleBook"
  | 6 => .object "PathQueries$Collector"
  | 7 => .array (.object "PathQueries$Text")
  | 8 => .array (.object "PathQueries$Rows")
  | 9 => .array .int
  | _ => .int
theorem nn_PQ : ∀ a, a < 11 → ∀ b, b < 11 → a ≠ b → (ff_PQ a).2.1 ≠ (ff_PQ b).2.1 := by decide +kernel
theorem tk_PQ : ∀ k, k < 11 → parseFieldDescriptor (ff_PQ k).2.2.1 = some (tt_PQ k) := by decide +kernel
def rr_Mo : String := "PathQueriesModel"
def ff_Mo : u_T := fun k => match k with
  | 0 => ("PathQueriesModel", "nodes", "I", false)
  | 1 => ("PathQueriesModel", "marks", "[I", true)
  | 2 => ("PathQueriesModel", "columns", "[I", true)
  | 3 => ("PathQueriesModel", "arcThere", "[Z", true)
  | 4 => ("PathQueriesModel", "arcFroms", "[I", true)
  | 5 => ("PathQueriesModel", "arcTos", "[I", true)
  | 6 => ("PathQueriesModel", "arcLabels", "[I", true)
  | 7 => ("PathQueriesModel", "arcWeights", "[I", true)
  | 8 => ("PathQueriesModel", "arcs", "I", false)
  | 9 => ("PathQueriesModel", "leads", "[I", true)
  | 10 => ("PathQueriesModel", "stale", "Z", false)
  | 11 => ("PathQueriesModel", "tooLarge", "Z", false)
  | 12 => ("PathQueriesModel", "tape", "[B", true)
  | 13 => ("PathQueriesModel", "taped", "I", false)
  | 14 => ("PathQueriesModel", "kinds", "[I", true)
  | 15 => ("PathQueriesModel", "values", "[I", true)
  | 16 => ("PathQueriesModel", "froms", "[I", true)
  | 17 => ("PathQueriesModel", "tokens", "I", false)
  | 18 => ("PathQueriesModel", "t", "I", false)
  | 19 => ("PathQueriesModel", "fault", "I", false)
  | 20 => ("PathQueriesModel", "faultPlace", "I", false)
  | 21 => ("PathQueriesModel", "place", "I", false)
  | 22 => ("PathQueriesModel", "slots", "[I", true)
  | 23 => ("PathQueriesModel", "there", "[Z", true)
  | 24 => ("PathQueriesModel", "draft", "I", false)
  | 25 => ("PathQueriesModel", "p", "I", false)
  | 26 => ("PathQueriesModel", "nodeSlots", "[I", true)
  | 27 => ("PathQueriesModel", "leastSlots", "[I", true)
  | 28 => ("PathQueriesModel", "groupCounts", "[I", true)
  | 29 => ("PathQueriesModel", "slotGroups", "[I", true)
  | 30 => ("PathQueriesModel", "wanted", "[I", true)
  | 31 => ("PathQueriesModel", "ways", "[I", true)
  | 32 => ("PathQueriesModel", "wayGroups", "[I", true)
  | 33 => ("PathQueriesModel", "wayFroms", "[I", true)
  | 34 => ("PathQueriesModel", "wayTos", "[I", true)
  | 35 => ("PathQueriesModel", "wayLeasts", "[I", true)
  | 36 => ("PathQueriesModel", "wayEmpty", "[Z", true)
  | 37 => ("PathQueriesModel", "wayFirsts", "[I", true)
  | 38 => ("PathQueriesModel", "wayLasts", "[I", true)
  | 39 => ("PathQueriesModel", "waySteps", "[I", true)
  | 40 => ("PathQueriesModel", "stepLabels", "[I", true)
  | 41 => ("PathQueriesModel", "stepBacks", "[Z", true)
  | 42 => ("PathQueriesModel", "follows", "[I", true)
  | 43 => ("PathQueriesModel", "items", "[I", true)
  | 44 => ("PathQueriesModel", "itemSorts", "[I", true)
  | 45 => ("PathQueriesModel", "itemCodes", "[I", true)
  | 46 => ("PathQueriesModel", "condCodes", "[I", true)
  | 47 => ("PathQueriesModel", "limits", "[I", true)
  | 48 => ("PathQueriesModel", "givesA", "[I", true)
  | 49 => ("PathQueriesModel", "givesB", "[I", true)
  | 50 => ("PathQueriesModel", "codes", "[I", true)
  | 51 => ("PathQueriesModel", "args", "[I", true)
  | 52 => ("PathQueriesModel", "coded", "I", false)
  | 53 => ("PathQueriesModel", "deep", "I", false)
  | 54 => ("PathQueriesModel", "known", "[I", true)
  | 55 => ("PathQueriesModel", "knownHere", "[I", true)
  | 56 => ("PathQueriesModel", "group", "I", false)
  | 57 => ("PathQueriesModel", "variables", "I", false)
  | 58 => ("PathQueriesModel", "openEmpty", "[Z", true)
  | 59 => ("PathQueriesModel", "openFirsts", "[I", true)
  | 60 => ("PathQueriesModel", "openLasts", "[I", true)
  | 61 => ("PathQueriesModel", "rowEmpty", "[Z", true)
  | 62 => ("PathQueriesModel", "rowFirsts", "[I", true)
  | 63 => ("PathQueriesModel", "rowLasts", "[I", true)
  | 64 => ("PathQueriesModel", "rowSome", "[Z", true)
  | 65 => ("PathQueriesModel", "opens", "I", false)
  | 66 => ("PathQueriesModel", "sorts", "[I", true)
  | 67 => ("PathQueriesModel", "far", "[I", true)
  | 68 => ("PathQueriesModel", "one", "[I", true)
  | 69 => ("PathQueriesModel", "frames", "I", false)
  | 70 => ("PathQueriesModel", "distances", "[I", true)
  | 71 => ("PathQueriesModel", "queueNodes", "[I", true)
  | 72 => ("PathQueriesModel", "queueSteps", "[I", true)
  | 73 => ("PathQueriesModel", "reached", "[I", true)
  | 74 => ("PathQueriesModel", "now", "[I", true)
  | 75 => ("PathQueriesModel", "leastNow", "[I", true)
  | 76 => ("PathQueriesModel", "stack", "[I", true)
  | 77 => ("PathQueriesModel", "given", "[I", true)
  | 78 => ("PathQueriesModel", "rowsAll", "[I", true)
  | 79 => ("PathQueriesModel", "order", "[I", true)
  | 80 => ("PathQueriesModel", "merged", "[I", true)
  | 81 => ("PathQueriesModel", "rowCount", "I", false)
  | 82 => ("PathQueriesModel", "answers", "[I", true)
  | 83 => ("PathQueriesModel", "answerCounts", "[I", true)
  | 84 => ("PathQueriesModel", "answerItems", "[I", true)
  | 85 => ("PathQueriesModel", "fresh", "[Z", true)
  | 86 => ("PathQueriesModel", "keyItems", "[I", true)
  | 87 => ("PathQueriesModel", "keys", "I", false)
  | 88 => ("PathQueriesModel", "spare", "[I", true)
  | _ => ("PathQueriesModel", "wayBacks", "[Z", true)
def tt_Mo : Nat → FieldType := fun k => match k with
  | 0 => .int
  | 1 => .array .int
  | 2 => .array .int
  | 3 => .array .boolean
  | 4 => .array .int
  | 5 => .array .int
  | 6 => .array .int
  | 7 => .array .int
  | 8 => .int
  | 9 => .array .int
  | 10 => .boolean
  | 11 => .boolean
  | 12 => .array .byte
  | 13 => .int
  | 14 => .array .int
  | 15 => .array .int
  | 16 => .array .int
  | 17 => .int
  | 18 => .int
  | 19 => .int
  | 20 => .int
  | 21 => .int
  | 22 => .array .int
  | 23 => .array .boolean
  | 24 => .int
  | 25 => .int
  | 26 => .array .int
  | 27 => .array .int
  | 28 => .array .int
  | 29 => .array .int
  | 30 => .array .int
  | 31 => .array .int
  | 32 => .array .int
  | 33 => .array .int
  | 34 => .array .int
  | 35 => .array .int
  | 36 => .array .boolean
  | 37 => .array .int
  | 38 => .array .int
  | 39 => .array .int
  | 40 => .array .int
  | 41 => .array .boolean
  | 42 => .array .int
  | 43 => .array .int
  | 44 => .array .int
  | 45 => .array .int
  | 46 => .array .int
  | 47 => .array .int
  | 48 => .array .int
  | 49 => .array .int
  | 50 => .array .int
  | 51 => .array .int
  | 52 => .int
  | 53 => .int
  | 54 => .array .int
  | 55 => .array .int
  | 56 => .int
  | 57 => .int
  | 58 => .array .boolean
  | 59 => .array .int
  | 60 => .array .int
  | 61 => .array .boolean
  | 62 => .array .int
  | 63 => .array .int
  | 64 => .array .boolean
  | 65 => .int
  | 66 => .array .int
  | 67 => .array .int
  | 68 => .array .int
  | 69 => .int
  | 70 => .array .int
  | 71 => .array .int
  | 72 => .array .int
  | 73 => .array .int
  | 74 => .array .int
  | 75 => .array .int
  | 76 => .array .int
  | 77 => .array .int
  | 78 => .array .int
  | 79 => .array .int
  | 80 => .array .int
  | 81 => .int
  | 82 => .array .int
  | 83 => .array .int
  | 84 => .array .int
  | 85 => .array .boolean
  | 86 => .array .int
  | 87 => .int
  | 88 => .array .int
  | _ => .array .boolean
theorem nn_Mo : ∀ a, a < 90 → ∀ b, b < 90 → a ≠ b → (ff_Mo a).2.1 ≠ (ff_Mo b).2.1 := by decide +kernel
theorem tk_Mo : ∀ k, k < 90 → parseFieldDescriptor (ff_Mo k).2.2.1 = some (tt_Mo k) := by decide +kernel
def vwCl : List vw_C := [(rr_Graph, ff_Graph, 10), (rr_Way, ff_Way, 18), (rr_Text, ff_Text, 21), (rr_Tokens, ff_Tokens, 6), (rr_Operators, ff_Operators, 8), (rr_Reader, ff_Reader, 20), (rr_Search, ff_Search, 12), (rr_Finder, ff_Finder, 9), (rr_RuleBook, ff_RuleBook, 6), (rr_Rows, ff_Rows, 5), (rr_Collector, ff_Collector, 4), (rr_PQ, ff_PQ, 11), (rr_Mo, ff_Mo, 90)]
theorem kc_0 : vwCl[0]? = some (rr_Graph, ff_Graph, 10) := rfl
set_option maxRecDepth 100000 in
theorem ki_0_0 : ∀ k, k < 10 → lw_tbl[([184, 186, 188, 190, 192, 194, 196, 198, 200, 202] : List Nat).getD k 0]? = some (u_lay rr_Graph ff_Graph (k + 0)) ∧ goodWord (u_lay rr_Graph ff_Graph (k + 0)) = true := by decide +kernel
theorem ki_0 : ∀ w ∈ u_ws rr_Graph ff_Graph 10, w ∈ zT := by
  intro w hw
  obtain ⟨k, hk, rfl⟩ := List.mem_map.mp hw
  have hk := List.mem_range.mp hk
  by_cases h0 : k < 10
  · have h := ki_0_0 (k - 0) (by omega)
    rw [show k - 0 + 0 = k by omega] at h
    exact List.mem_filter.mpr ⟨List.mem_of_getElem? h.1, h.2⟩
  omega
theorem kc_1 : vwCl[1]? = some (rr_Way, ff_Way, 18) := rfl
set_option maxRecDepth 100000 in
theorem ki_1_0 : ∀ k, k < 10 → lw_tbl[([260, 262, 264, 266, 268, 270, 272, 274, 276, 278] : List Nat).getD k 0]? = some (u_lay rr_Way ff_Way (k + 0)) ∧ goodWord (u_lay rr_Way ff_Way (k + 0)) = true := by decide +kernel
set_option maxRecDepth 100000 in
theorem ki_1_10 : ∀ k, k < 8 → lw_tbl[([280, 282, 284, 286, 288, 290, 292, 294] : List Nat).getD k 0]? = some (u_lay rr_Way ff_Way (k + 10)) ∧ goodWord (u_lay rr_Way ff_Way (k + 10)) = true := by decide +kernel
theorem ki_1 : ∀ w ∈ u_ws rr_Way ff_Way 18, w ∈ zT := by
  intro w hw
  obtain ⟨k, hk, rfl⟩ := List.mem_map.mp hw
  have hk := List.mem_range.mp hk
  by_cases h0 : k < 10
  · have h := ki_1_0 (k - 0) (by omega)
    rw [show k - 0 + 0 = k by omega] at h
    exact List.mem_filter.mpr ⟨List.mem_of_getElem? h.1, h.2⟩
  by_cases h10 : k < 18
  · have h := ki_1_10 (k - 10) (by omega)
    rw [show k - 10 + 10 = k by omega] at h
    exact List.mem_filter.mpr ⟨List.mem_of_getElem? h.1, h.2⟩
  omega
theorem kc_2 : vwCl[2]? = some (rr_Text, ff_Text, 21) := rfl
set_option maxRecDepth 100000 in
theorem ki_2_0 : ∀ k, k < 10 → lw_tbl[([361, 363, 365, 367, 369, 371, 373, 375, 377, 379] : List Nat).getD k 0]? = some (u_lay rr_Text ff_Text (k + 0)) ∧ goodWord (u_lay rr_Text ff_Text (k + 0)) = true := by decide +kernel
set_option maxRecDepth 100000 in
theorem ki_2_10 : ∀ k, k < 10 → lw_tbl[([381, 383, 385, 387, 389, 391, 393, 395, 397, 399] : List Nat).getD k 0]? = some (u_lay rr_Text ff_Text (k + 10)) ∧ goodWord (u_lay rr_Text ff_Text (k + 10)) = true := by decide +kernel
set_option maxRecDepth 100000 in
theorem ki_2_20 : ∀ k, k < 1 → lw_tbl[([401] : List Nat).getD k 0]? = some (u_lay rr_Text ff_Text (k + 20)) ∧ goodWord (u_lay rr_Text ff_Text (k + 20)) = true := by decide +kernel
theorem ki_2 : ∀ w ∈ u_ws rr_Text ff_Text 21, w ∈ zT := by
  intro w hw
  obtain ⟨k, hk, rfl⟩ := List.mem_map.mp hw
  have hk := List.mem_range.mp hk
  by_cases h0 : k < 10
  · have h := ki_2_0 (k - 0) (by omega)
    rw [show k - 0 + 0 = k by omega] at h
    exact List.mem_filter.mpr ⟨List.mem_of_getElem? h.1, h.2⟩
  by_cases h10 : k < 20
  · have h := ki_2_10 (k - 10) (by omega)
    rw [show k - 10 + 10 = k by omega] at h
    exact List.mem_filter.mpr ⟨List.mem_of_getElem? h.1, h.2⟩
  by_cases h20 : k < 21
  · have h := ki_2_20 (k - 20) (by omega)
    rw [show k - 20 + 20 = k by omega] at h
    exact List.mem_filter.mpr ⟨List.mem_of_getElem? h.1, h.2⟩
  omega
theorem kc_3 : vwCl[3]? = some (rr_Tokens, ff_Tokens, 6) := rfl
set_option maxRecDepth 100000 in
theorem ki_3_0 : ∀ k, k < 6 → lw_tbl[([426, 428, 430, 432, 434, 436] : List Nat).getD k 0]? = some (u_lay rr_Tokens ff_Tokens (k + 0)) ∧ goodWord (u_lay rr_Tokens ff_Tokens (k + 0)) = true := by decide +kernel
theorem ki_3 : ∀ w ∈ u_ws rr_Tokens ff_Tokens 6, w ∈ zT := by
  intro w hw
  obtain ⟨k, hk, rfl⟩ := List.mem_map.mp hw
  have hk := List.mem_range.mp hk
  by_cases h0 : k < 6
  · have h := ki_3_0 (k - 0) (by omega)
    rw [show k - 0 + 0 = k by omega] at h
    exact List.mem_filter.mpr ⟨List.mem_of_getElem? h.1, h.2⟩
  omega
theorem kc_4 : vwCl[4]? = some (rr_Operators, ff_Operators, 8) := rfl
set_option maxRecDepth 100000 in
theorem ki_4_0 : ∀ k, k < 8 → lw_tbl[([456, 458, 460, 462, 464, 466, 468, 470] : List Nat).getD k 0]? = some (u_lay rr_Operators ff_Operators (k + 0)) ∧ goodWord (u_lay rr_Operators ff_Operators (k + 0)) = true := by decide +kernel
theorem ki_4 : ∀ w ∈ u_ws rr_Operators ff_Operators 8, w ∈ zT := by
  intro w hw
  obtain ⟨k, hk, rfl⟩ := List.mem_map.mp hw
  have hk := List.mem_range.mp hk
  by_cases h0 : k < 8
  · have h := ki_4_0 (k - 0) (by omega)
    rw [show k - 0 + 0 = k by omega] at h
    exact List.mem_filter.mpr ⟨List.mem_of_getElem? h.1, h.2⟩
  omega
theorem kc_5 : vwCl[5]? = some (rr_Reader, ff_Reader, 20) := rfl
set_option maxRecDepth 100000 in
theorem ki_5_0 : ∀ k, k < 10 → lw_tbl[([494, 496, 498, 500, 502, 504, 506, 508, 510, 512] : List Nat).getD k 0]? = some (u_lay rr_Reader ff_Reader (k + 0)) ∧ goodWord (u_lay rr_Reader ff_Reader (k + 0)) = true := by decide +kernel
set_option maxRecDepth 100000 in
theorem ki_5_10 : ∀ k, k < 10 → lw_tbl[([514, 516, 518, 520, 522, 524, 526, 528, 530, 532] : List Nat).getD k 0]? = some (u_lay rr_Reader ff_Reader (k + 10)) ∧ goodWord (u_lay rr_Reader ff_Reader (k + 10)) = true := by decide +kernel
theorem ki_5 : ∀ w ∈ u_ws rr_Reader ff_Reader 20, w ∈ zT := by
  intro w hw
  obtain ⟨k, hk, rfl⟩ := List.mem_map.mp hw
  have hk := List.mem_range.mp hk
  by_cases h0 : k < 10
  · have h := ki_5_0 (k - 0) (by omega)
    rw [show k - 0 + 0 = k by omega] at h
    exact List.mem_filter.mpr ⟨List.mem_of_getElem? h.1, h.2⟩
  by_cases h10 : k < 20
  · have h := ki_5_10 (k - 10) (by omega)
    rw [show k - 10 + 10 = k by omega] at h
    exact List.mem_filter.mpr ⟨List.mem_of_getElem? h.1, h.2⟩
  omega
theorem kc_6 : vwCl[6]? = some (rr_Search, ff_Search, 12) := rfl
set_option maxRecDepth 100000 in
theorem ki_6_0 : ∀ k, k < 10 → lw_tbl[([559, 561, 563, 565, 567, 569, 571, 573, 575, 577] : List Nat).getD k 0]? = some (u_lay rr_Search ff_Search (k + 0)) ∧ goodWord (u_lay rr_Search ff_Search (k + 0)) = true := by decide +kernel
set_option maxRecDepth 100000 in
theorem ki_6_10 : ∀ k, k < 2 → lw_tbl[([579, 581] : List Nat).getD k 0]? = some (u_lay rr_Search ff_Search (k + 10)) ∧ goodWord (u_lay rr_Search ff_Search (k + 10)) = true := by decide +kernel
theorem ki_6 : ∀ w ∈ u_ws rr_Search ff_Search 12, w ∈ zT := by
  intro w hw
  obtain ⟨k, hk, rfl⟩ := List.mem_map.mp hw
  have hk := List.mem_range.mp hk
  by_cases h0 : k < 10
  · have h := ki_6_0 (k - 0) (by omega)
    rw [show k - 0 + 0 = k by omega] at h
    exact List.mem_filter.mpr ⟨List.mem_of_getElem? h.1, h.2⟩
  by_cases h10 : k < 12
  · have h := ki_6_10 (k - 10) (by omega)
    rw [show k - 10 + 10 = k by omega] at h
    exact List.mem_filter.mpr ⟨List.mem_of_getElem? h.1, h.2⟩
  omega
theorem kc_7 : vwCl[7]? = some (rr_Finder, ff_Finder, 9) := rfl
set_option maxRecDepth 100000 in
theorem ki_7_0 : ∀ k, k < 9 → lw_tbl[([594, 596, 598, 600, 602, 604, 606, 608, 610] : List Nat).getD k 0]? = some (u_lay rr_Finder ff_Finder (k + 0)) ∧ goodWord (u_lay rr_Finder ff_Finder (k + 0)) = true := by decide +kernel
theorem ki_7 : ∀ w ∈ u_ws rr_Finder ff_Finder 9, w ∈ zT := by
  intro w hw
  obtain ⟨k, hk, rfl⟩ := List.mem_map.mp hw
  have hk := List.mem_range.mp hk
  by_cases h0 : k < 9
  · have h := ki_7_0 (k - 0) (by omega)
    rw [show k - 0 + 0 = k by omega] at h
    exact List.mem_filter.mpr ⟨List.mem_of_getElem? h.1, h.2⟩
  omega
theorem kc_8 : vwCl[8]? = some (rr_RuleBook, ff_RuleBook, 6) := rfl
set_option maxRecDepth 100000 in
theorem ki_8_0 : ∀ k, k < 6 → lw_tbl[([629, 631, 633, 635, 637, 639] : List Nat).getD k 0]? = some (u_lay rr_RuleBook ff_RuleBook (k + 0)) ∧ goodWord (u_lay rr_RuleBook ff_RuleBook (k + 0)) = true := by decide +kernel
theorem ki_8 : ∀ w ∈ u_ws rr_RuleBook ff_RuleBook 6, w ∈ zT := by
  intro w hw
  obtain ⟨k, hk, rfl⟩ := List.mem_map.mp hw
  have hk := List.mem_range.mp hk
  by_cases h0 : k < 6
  · have h := ki_8_0 (k - 0) (by omega)
    rw [show k - 0 + 0 = k by omega] at h
    exact List.mem_filter.mpr ⟨List.mem_of_getElem? h.1, h.2⟩
  omega
theorem kc_9 : vwCl[9]? = some (rr_Rows, ff_Rows, 5) := rfl
set_option maxRecDepth 100000 in
theorem ki_9_0 : ∀ k, k < 5 → lw_tbl[([662, 664, 666, 668, 670] : List Nat).getD k 0]? = some (u_lay rr_Rows ff_Rows (k + 0)) ∧ goodWord (u_lay rr_Rows ff_Rows (k + 0)) = true := by decide +kernel
theorem ki_9 : ∀ w ∈ u_ws rr_Rows ff_Rows 5, w ∈ zT := by
  intro w hw
  obtain ⟨k, hk, rfl⟩ := List.mem_map.mp hw
  have hk := List.mem_range.mp hk
  by_cases h0 : k < 5
  · have h := ki_9_0 (k - 0) (by omega)
    rw [show k - 0 + 0 = k by omega] at h
    exact List.mem_filter.mpr ⟨List.mem_of_getElem? h.1, h.2⟩
  omega
theorem kc_10 : vwCl[10]? = some (rr_Collector, ff_Collector, 4) := rfl
set_option maxRecDepth 100000 in
theorem ki_10_0 : ∀ k, k < 4 → lw_tbl[([677, 679, 681, 683] : List Nat).getD k 0]? = some (u_lay rr_Collector ff_Collector (k + 0)) ∧ goodWord (u_lay rr_Collector ff_Collector (k + 0)) = true := by decide +kernel
theorem ki_10 : ∀ w ∈ u_ws rr_Collector ff_Collector 4, w ∈ zT := by
  intro w hw
  obtain ⟨k, hk, rfl⟩ := List.mem_map.mp hw
  have hk := List.mem_range.mp hk
  by_cases h0 : k < 4
  · have h := ki_10_0 (k - 0) (by omega)
    rw [show k - 0 + 0 = k by omega] at h
    exact List.mem_filter.mpr ⟨List.mem_of_getElem? h.1, h.2⟩
  omega
theorem kc_11 : vwCl[11]? = some (rr_PQ, ff_PQ, 11) := rfl
set_option maxRecDepth 100000 in
theorem ki_11_0 : ∀ k, k < 10 → lw_tbl[([700, 702, 704, 706, 708, 710, 712, 714, 716, 718] : List Nat).getD k 0]? = some (u_lay rr_PQ ff_PQ (k + 0)) ∧ goodWord (u_lay rr_PQ ff_PQ (k + 0)) = true := by decide +kernel
set_option maxRecDepth 100000 in
theorem ki_11_10 : ∀ k, k < 1 → lw_tbl[([720] : List Nat).getD k 0]? = some (u_lay rr_PQ ff_PQ (k + 10)) ∧ goodWord (u_lay rr_PQ ff_PQ (k + 10)) = true := by decide +kernel
theorem ki_11 : ∀ w ∈ u_ws rr_PQ ff_PQ 11, w ∈ zT := by
  intro w hw
  obtain ⟨k, hk, rfl⟩ := List.mem_map.mp hw
  have hk := List.mem_range.mp hk
  by_cases h0 : k < 10
  · have h := ki_11_0 (k - 0) (by omega)
    rw [show k - 0 + 0 = k by omega] at h
    exact List.mem_filter.mpr ⟨List.mem_of_getElem? h.1, h.2⟩
  by_cases h10 : k < 11
  · have h := ki_11_10 (k - 10) (by omega)
    rw [show k - 10 + 10 = k by omega] at h
    exact List.mem_filter.mpr ⟨List.mem_of_getElem? h.1, h.2⟩
  omega
theorem kc_12 : vwCl[12]? = some (rr_Mo, ff_Mo, 90) := rfl
set_option maxRecDepth 100000 in
theorem ki_12_0 : ∀ k, k < 10 → lw_tbl[([1611, 1613, 1615, 1617, 1619, 1621, 1623, 1625, 1627, 1629] : List Nat).getD k 0]? = some (u_lay rr_Mo ff_Mo (k + 0)) ∧ goodWord (u_lay rr_Mo ff_Mo (k + 0)) = true := by decide +kernel
set_option maxRecDepth 100000 in
theorem ki_12_10 : ∀ k, k < 10 → lw_tbl[([1631, 1633, 1635, 1637, 1639, 1641, 1643, 1645, 1647, 1649] : List Nat).getD k 0]? = some (u_lay rr_Mo ff_Mo (k + 10)) ∧ goodWord (u_lay rr_Mo ff_Mo (k + 10)) = true := by decide +kernel
set_option maxRecDepth 100000 in
theorem ki_12_20 : ∀ k, k < 10 → lw_tbl[([1651, 1653, 1655, 1657, 1659, 1661, 1663, 1665, 1667, 1669] : List Nat).getD k 0]? = some (u_lay rr_Mo ff_Mo (k + 20)) ∧ goodWord (u_lay rr_Mo ff_Mo (k + 20)) = true := by decide +kernel
set_option maxRecDepth 100000 in
theorem ki_12_30 : ∀ k, k < 10 → lw_tbl[([1671, 1673, 1675, 1677, 1679, 1681, 1683, 1685, 1687, 1689] : List Nat).getD k 0]? = some (u_lay rr_Mo ff_Mo (k + 30)) ∧ goodWord (u_lay rr_Mo ff_Mo (k + 30)) = true := by decide +kernel
set_option maxRecDepth 100000 in
theorem ki_12_40 : ∀ k, k < 10 → lw_tbl[([1691, 1693, 1695, 1697, 1699, 1701, 1703, 1705, 1707, 1709] : List Nat).getD k 0]? = some (u_lay rr_Mo ff_Mo (k + 40)) ∧ goodWord (u_lay rr_Mo ff_Mo (k + 40)) = true := by decide +kernel
set_option maxRecDepth 100000 in
theorem ki_12_50 : ∀ k, k < 10 → lw_tbl[([1711, 1713, 1715, 1717, 1719, 1721, 1723, 1725, 1727, 1729] : List Nat).getD k 0]? = some (u_lay rr_Mo ff_Mo (k + 50)) ∧ goodWord (u_lay rr_Mo ff_Mo (k + 50)) = true := by decide +kernel
set_option maxRecDepth 100000 in
theorem ki_12_60 : ∀ k, k < 10 → lw_tbl[([1731, 1733, 1735, 1737, 1739, 1741, 1743, 1745, 1747, 1749] : List Nat).getD k 0]? = some (u_lay rr_Mo ff_Mo (k + 60)) ∧ goodWord (u_lay rr_Mo ff_Mo (k + 60)) = true := by decide +kernel
set_option maxRecDepth 100000 in
theorem ki_12_70 : ∀ k, k < 10 → lw_tbl[([1751, 1753, 1755, 1757, 1759, 1761, 1763, 1765, 1767, 1769] : List Nat).getD k 0]? = some (u_lay rr_Mo ff_Mo (k + 70)) ∧ goodWord (u_lay rr_Mo ff_Mo (k + 70)) = true := by decide +kernel
set_option maxRecDepth 100000 in
theorem ki_12_80 : ∀ k, k < 10 → lw_tbl[([1771, 1773, 1775, 1777, 1779, 1781, 1783, 1785, 1787, 1789] : List Nat).getD k 0]? = some (u_lay rr_Mo ff_Mo (k + 80)) ∧ goodWord (u_lay rr_Mo ff_Mo (k + 80)) = true := by decide +kernel
theorem ki_12 : ∀ w ∈ u_ws rr_Mo ff_Mo 90, w ∈ zT := by
  intro w hw
  obtain ⟨k, hk, rfl⟩ := List.mem_map.mp hw
  have hk := List.mem_range.mp hk
  by_cases h0 : k < 10
  · have h := ki_12_0 (k - 0) (by omega)
    rw [show k - 0 + 0 = k by omega] at h
    exact List.mem_filter.mpr ⟨List.mem_of_getElem? h.1, h.2⟩
  by_cases h10 : k < 20
  · have h := ki_12_10 (k - 10) (by omega)
    rw [show k - 10 + 10 = k by omega] at h
    exact List.mem_filter.mpr ⟨List.mem_of_getElem? h.1, h.2⟩
  by_cases h20 : k < 30
  · have h := ki_12_20 (k - 20) (by omega)
    rw [show k - 20 + 20 = k by omega] at h
    exact List.mem_filter.mpr ⟨List.mem_of_getElem? h.1, h.2⟩
  by_cases h30 : k < 40
  · have h := ki_12_30 (k - 30) (by omega)
    rw [show k - 30 + 30 = k by omega] at h
    exact List.mem_filter.mpr ⟨List.mem_of_getElem? h.1, h.2⟩
  by_cases h40 : k < 50
  · have h := ki_12_40 (k - 40) (by omega)
    rw [show k - 40 + 40 = k by omega] at h
    exact List.mem_filter.mpr ⟨List.mem_of_getElem? h.1, h.2⟩
  by_cases h50 : k < 60
  · have h := ki_12_50 (k - 50) (by omega)
    rw [show k - 50 + 50 = k by omega] at h
    exact List.mem_filter.mpr ⟨List.mem_of_getElem? h.1, h.2⟩
  by_cases h60 : k < 70
  · have h := ki_12_60 (k - 60) (by omega)
    rw [show k - 60 + 60 = k by omega] at h
    exact List.mem_filter.mpr ⟨List.mem_of_getElem? h.1, h.2⟩
  by_cases h70 : k < 80
  · have h := ki_12_70 (k - 70) (by omega)
    rw [show k - 70 + 70 = k by omega] at h
    exact List.mem_filter.mpr ⟨List.mem_of_getElem? h.1, h.2⟩
  by_cases h80 : k < 90
  · have h := ki_12_80 (k - 80) (by omega)
    rw [show k - 80 + 80 = k by omega] at h
    exact List.mem_filter.mpr ⟨List.mem_of_getElem? h.1, h.2⟩
  omega
def zao : List String := ["PathQueries$Way", "PathQueries$Text", "PathQueries$Rows"]
def zs_len : List Nat := [6, 12, 66, 17]
def zs_byt : List (List Int32) := [[120, 121, 122, 117, 118, 119], [97, 98, 99, 100, 101, 102, 103, 104, 65, 66, 67, 68], [109, 97, 116, 99, 104, 32, 119, 104, 101, 114, 101, 32, 103, 105, 118, 101, 32, 108, 105, 109, 105, 116, 32, 97, 110, 100, 32, 111, 114, 32, 110, 111, 116, 32, 110, 111, 32, 108, 101, 97, 115, 116, 32, 99, 111, 117, 110, 116, 32, 115, 117, 109, 32, 109, 105, 110, 32, 109, 97, 120, 32, 114, 117, 108, 101, 32], [40, 41, 91, 93, 45, 58, 44, 46, 95, 94, 42, 43, 63, 124, 61, 60, 62]]
def zs_ix : List Nat := [79, 81, 83, 58]
def zs_tx : List String := ["xyzuvw", "abcdefghABCD", "match where give limit and or not no least count sum min max rule ", "()[]-:,._^*+?|=<>"]
def ztl : List FieldType := [.int, .byte, .long, .object "PathQueries$Way", .object "PathQueries$Text", .object "PathQueries$Rows", .boolean]
def rr_Integer : String := "java/lang/Integer"
def rr_Math : String := "java/lang/Math"
def rr_String : String := "java/lang/String"
def rr_StringLatin1 : String := "java/lang/StringLatin1"
def rr_Arrays : String := "java/util/Arrays"
def rr_Preconditions : String := "jdk/internal/util/Preconditions"
abbrev bb_Arrays_fill : ByteArray := prog_23_method_103_code
def yy_Arrays_fill : MethodName := ⟨rr_Arrays, "fill", "([II)V"⟩
def ww_Arrays_fill : List Cond := .code yy_Arrays_fill bb_Arrays_fill 4 none :: zT
abbrev bb_Graph_init : ByteArray := prog_4_method_1_code
def yy_Graph_init : MethodName := ⟨rr_Graph, "<init>", "()V"⟩
def ww_Graph_init : List Cond := .code yy_Graph_init bb_Graph_init 1 none :: zT
abbrev bb_Graph_isNode : ByteArray := prog_4_method_2_code
def yy_Graph_isNode : MethodName := ⟨rr_Graph, "isNode", "(I)Z"⟩
def ww_Graph_isNode : List Cond := .code yy_Graph_isNode bb_Graph_isNode 2 (some (.boolean)) :: zT
abbrev bb_Graph_isArc : ByteArray := prog_4_method_3_code
def yy_Graph_isArc : MethodName := ⟨rr_Graph, "isArc", "(I)Z"⟩
def ww_Graph_isArc : List Cond := .code yy_Graph_isArc bb_Graph_isArc 2 (some (.boolean)) :: zT
abbrev bb_Graph_addNode : ByteArray := prog_4_method_4_code
def yy_Graph_addNode : MethodName := ⟨rr_Graph, "addNode", "(I)I"⟩
def ww_Graph_addNode : List Cond := .code yy_Graph_addNode bb_Graph_addNode 2 (some (.int)) :: zT
abbrev bb_Graph_changeMarks : ByteArray := prog_4_method_5_code
def yy_Graph_changeMarks : MethodName := ⟨rr_Graph, "changeMarks", "(II)I"⟩
def ww_Graph_changeMarks : List Cond := .code yy_Graph_changeMarks bb_Graph_changeMarks 4 (some (.int)) :: zT
abbrev bb_Graph_changeColumn : ByteArray := prog_4_method_6_code
def yy_Graph_changeColumn : MethodName := ⟨rr_Graph, "changeColumn", "(III)I"⟩
def ww_Graph_changeColumn : List Cond := .code yy_Graph_changeColumn bb_Graph_changeColumn 5 (some (.int)) :: zT
abbrev bb_Graph_addArc : ByteArray := prog_4_method_7_code
def yy_Graph_addArc : MethodName := ⟨rr_Graph, "addArc", "(IIII)I"⟩
def ww_Graph_addArc : List Cond := .code yy_Graph_addArc bb_Graph_addArc 6 (some (.int)) :: zT
abbrev bb_Graph_removeArc : ByteArray := prog_4_method_8_code
def yy_Graph_removeArc : MethodName := ⟨rr_Graph, "removeArc", "(I)V"⟩
def ww_Graph_removeArc : List Cond := .code yy_Graph_removeArc bb_Graph_removeArc 2 none :: zT
abbrev bb_Graph_strip : ByteArray := prog_4_method_9_code
def yy_Graph_strip : MethodName := ⟨rr_Graph, "strip", "(I)I"⟩
def ww_Graph_strip : List Cond := .code yy_Graph_strip bb_Graph_strip 4 (some (.int)) :: zT
abbrev bb_Graph_ofNode : ByteArray := prog_4_method_10_code
def yy_Graph_ofNode : MethodName := ⟨rr_Graph, "ofNode", "(II)I"⟩
def ww_Graph_ofNode : List Cond := .code yy_Graph_ofNode bb_Graph_ofNode 5 (some (.int)) :: zT
abbrev bb_Graph_nodesWith : ByteArray := prog_4_method_11_code
def yy_Graph_nodesWith : MethodName := ⟨rr_Graph, "nodesWith", "(I)I"⟩
def ww_Graph_nodesWith : List Cond := .code yy_Graph_nodesWith bb_Graph_nodesWith 4 (some (.int)) :: zT
abbrev bb_Graph_ofArc : ByteArray := prog_4_method_12_code
def yy_Graph_ofArc : MethodName := ⟨rr_Graph, "ofArc", "(II)I"⟩
def ww_Graph_ofArc : List Cond := .code yy_Graph_ofArc bb_Graph_ofArc 3 (some (.int)) :: zT
abbrev bb_Graph_countArcs : ByteArray := prog_4_method_13_code
def yy_Graph_countArcs : MethodName := ⟨rr_Graph, "countArcs", "(III)I"⟩
def ww_Graph_countArcs : List Cond := .code yy_Graph_countArcs bb_Graph_countArcs 6 (some (.int)) :: zT
abbrev bb_Graph_link : ByteArray := prog_4_method_15_code
def yy_Graph_link : MethodName := ⟨rr_Graph, "link", "(III)V"⟩
def ww_Graph_link : List Cond := .code yy_Graph_link bb_Graph_link 4 none :: zT
abbrev bb_Graph_relate : ByteArray := prog_4_method_14_code
def yy_Graph_relate : MethodName := ⟨rr_Graph, "relate", "()V"⟩
def ww_Graph_relate : List Cond := .code yy_Graph_relate bb_Graph_relate 2 none :: zT
abbrev bb_Graph_reached : ByteArray := prog_4_method_16_code
def yy_Graph_reached : MethodName := ⟨rr_Graph, "reached", "(II)I"⟩
def ww_Graph_reached : List Cond := .code yy_Graph_reached bb_Graph_reached 3 (some (.int)) :: zT
abbrev bb_Way_init : ByteArray := prog_12_method_1_code
def yy_Way_init : MethodName := ⟨rr_Way, "<init>", "()V"⟩
def ww_Way_init : List Cond := .code yy_Way_init bb_Way_init 1 none :: zT
abbrev bb_Way_open : ByteArray := prog_12_method_2_code
def yy_Way_open : MethodName := ⟨rr_Way, "open", "(Z)V"⟩
def ww_Way_open : List Cond := .code yy_Way_open bb_Way_open 2 none :: zT
abbrev bb_Way_join : ByteArray := prog_12_method_3_code
def yy_Way_join : MethodName := ⟨rr_Way, "join", "(II)V"⟩
def ww_Way_join : List Cond := .code yy_Way_join bb_Way_join 3 none :: zT
abbrev bb_Way_lead : ByteArray := prog_12_method_11_code
def yy_Way_lead : MethodName := ⟨rr_Way, "lead", "(JJ)V"⟩
def ww_Way_lead : List Cond := .code yy_Way_lead bb_Way_lead 6 none :: zT
abbrev bb_Way_settlePending : ByteArray := prog_12_method_10_code
def yy_Way_settlePending : MethodName := ⟨rr_Way, "settlePending", "()V"⟩
def ww_Way_settlePending : List Cond := .code yy_Way_settlePending bb_Way_settlePending 7 none :: zT
abbrev bb_Way_openRows : ByteArray := prog_12_method_4_code
def yy_Way_openRows : MethodName := ⟨rr_Way, "openRows", "()V"⟩
def ww_Way_openRows : List Cond := .code yy_Way_openRows bb_Way_openRows 1 none :: zT
abbrev bb_Way_nextRow : ByteArray := prog_12_method_7_code
def yy_Way_nextRow : MethodName := ⟨rr_Way, "nextRow", "()V"⟩
def ww_Way_nextRow : List Cond := .code yy_Way_nextRow bb_Way_nextRow 3 none :: zT
abbrev bb_Way_closeRows : ByteArray := prog_12_method_5_code
def yy_Way_closeRows : MethodName := ⟨rr_Way, "closeRows", "()V"⟩
def ww_Way_closeRows : List Cond := .code yy_Way_closeRows bb_Way_closeRows 1 none :: zT
abbrev bb_Way_endRows : ByteArray := prog_12_method_6_code
def yy_Way_endRows : MethodName := ⟨rr_Way, "endRows", "()V"⟩
def ww_Way_endRows : List Cond := .code yy_Way_endRows bb_Way_endRows 1 none :: zT
abbrev bb_Way_addStep : ByteArray := prog_12_method_8_code
def yy_Way_addStep : MethodName := ⟨rr_Way, "addStep", "(II)V"⟩
def ww_Way_addStep : List Cond := .code yy_Way_addStep bb_Way_addStep 3 none :: zT
abbrev bb_Way_repeat : ByteArray := prog_12_method_9_code
def yy_Way_repeat : MethodName := ⟨rr_Way, "repeat", "(ZZ)V"⟩
def ww_Way_repeat : List Cond := .code yy_Way_repeat bb_Way_repeat 3 none :: zT
abbrev bb_Way_forgetArcs : ByteArray := prog_12_method_12_code
def yy_Way_forgetArcs : MethodName := ⟨rr_Way, "forgetArcs", "()V"⟩
def ww_Way_forgetArcs : List Cond := .code yy_Way_forgetArcs bb_Way_forgetArcs 1 none :: zT
abbrev bb_Way_arrive : ByteArray := prog_12_method_13_code
def yy_Way_arrive : MethodName := ⟨rr_Way, "arrive", "(III)V"⟩
def ww_Way_arrive : List Cond := .code yy_Way_arrive bb_Way_arrive 6 none :: zT
abbrev bb_Way_arcsBetween : ByteArray := prog_12_method_14_code
def yy_Way_arcsBetween : MethodName := ⟨rr_Way, "arcsBetween", "(II)I"⟩
def ww_Way_arcsBetween : List Cond := .code yy_Way_arcsBetween bb_Way_arcsBetween 3 (some (.int)) :: zT
abbrev bb_Text_init : ByteArray := prog_10_method_1_code
def yy_Text_init : MethodName := ⟨rr_Text, "<init>", "()V"⟩
def ww_Text_init : List Cond := .code yy_Text_init bb_Text_init 2 none :: zT
abbrev bb_Text_endGroup : ByteArray := prog_10_method_4_code
def yy_Text_endGroup : MethodName := ⟨rr_Text, "endGroup", "()V"⟩
def ww_Text_endGroup : List Cond := .code yy_Text_endGroup bb_Text_endGroup 1 none :: zT
abbrev bb_Text_openGroup : ByteArray := prog_10_method_3_code
def yy_Text_openGroup : MethodName := ⟨rr_Text, "openGroup", "()V"⟩
def ww_Text_openGroup : List Cond := .code yy_Text_openGroup bb_Text_openGroup 1 none :: zT
abbrev bb_Text_clear : ByteArray := prog_10_method_2_code
def yy_Text_clear : MethodName := ⟨rr_Text, "clear", "()V"⟩
def ww_Text_clear : List Cond := .code yy_Text_clear bb_Text_clear 1 none :: zT
abbrev bb_Text_addDemand : ByteArray := prog_10_method_5_code
def yy_Text_addDemand : MethodName := ⟨rr_Text, "addDemand", "(II)V"⟩
def ww_Text_addDemand : List Cond := .code yy_Text_addDemand bb_Text_addDemand 3 none :: zT
abbrev bb_Text_emit : ByteArray := prog_10_method_6_code
def yy_Text_emit : MethodName := ⟨rr_Text, "emit", "(II)I"⟩
def ww_Text_emit : List Cond := .code yy_Text_emit bb_Text_emit 3 (some (.int)) :: zT
abbrev bb_Text_change : ByteArray := prog_10_method_7_code
def yy_Text_change : MethodName := ⟨rr_Text, "change", "(III)V"⟩
def ww_Text_change : List Cond := .code yy_Text_change bb_Text_change 4 none :: zT
abbrev bb_Text_openItem : ByteArray := prog_10_method_8_code
def yy_Text_openItem : MethodName := ⟨rr_Text, "openItem", "(I)V"⟩
def ww_Text_openItem : List Cond := .code yy_Text_openItem bb_Text_openItem 2 none :: zT
abbrev bb_Text_endItem : ByteArray := prog_10_method_9_code
def yy_Text_endItem : MethodName := ⟨rr_Text, "endItem", "()V"⟩
def ww_Text_endItem : List Cond := .code yy_Text_endItem bb_Text_endItem 1 none :: zT
abbrev bb_Text_itemBegin : ByteArray := prog_10_method_10_code
def yy_Text_itemBegin : MethodName := ⟨rr_Text, "itemBegin", "(I)I"⟩
def ww_Text_itemBegin : List Cond := .code yy_Text_itemBegin bb_Text_itemBegin 2 (some (.int)) :: zT
abbrev bb_Text_wayOfLeast : ByteArray := prog_10_method_11_code
def yy_Text_wayOfLeast : MethodName := ⟨rr_Text, "wayOfLeast", "(I)I"⟩
def ww_Text_wayOfLeast : List Cond := .code yy_Text_wayOfLeast bb_Text_wayOfLeast 3 (some (.int)) :: zT
abbrev bb_Text_work : ByteArray := prog_10_method_12_code
def yy_Text_work : MethodName := ⟨rr_Text, "work", "(I)J"⟩
def ww_Text_work : List Cond := .code yy_Text_work bb_Text_work 5 (some (.long)) :: zT
abbrev bb_Tokens_init : ByteArray := prog_11_method_1_code
def yy_Tokens_init : MethodName := ⟨rr_Tokens, "<init>", "()V"⟩
def ww_Tokens_init : List Cond := .code yy_Tokens_init bb_Tokens_init 1 none :: zT
abbrev bb_Math_min_0 : ByteArray := prog_18_method_69_code
def yy_Math_min_0 : MethodName := ⟨rr_Math, "min", "(II)I"⟩
def ww_Math_min_0 : List Cond := .code yy_Math_min_0 bb_Math_min_0 2 (some (.int)) :: zT
abbrev bb_Tokens_isBlank : ByteArray := prog_11_method_4_code
def yy_Tokens_isBlank : MethodName := ⟨rr_Tokens, "isBlank", "(I)Z"⟩
def ww_Tokens_isBlank : List Cond := .code yy_Tokens_isBlank bb_Tokens_isBlank 1 (some (.boolean)) :: zT
abbrev bb_Tokens_isLetter : ByteArray := prog_11_method_5_code
def yy_Tokens_isLetter : MethodName := ⟨rr_Tokens, "isLetter", "(I)Z"⟩
def ww_Tokens_isLetter : List Cond := .code yy_Tokens_isLetter bb_Tokens_isLetter 1 (some (.boolean)) :: zT
abbrev bb_Tokens_isDigit : ByteArray := prog_11_method_6_code
def yy_Tokens_isDigit : MethodName := ⟨rr_Tokens, "isDigit", "(I)Z"⟩
def ww_Tokens_isDigit : List Cond := .code yy_Tokens_isDigit bb_Tokens_isDigit 1 (some (.boolean)) :: zT
abbrev bb_Tokens_numberKind : ByteArray := prog_11_method_9_code
def yy_Tokens_numberKind : MethodName := ⟨rr_Tokens, "numberKind", "(II)I"⟩
def ww_Tokens_numberKind : List Cond := .code yy_Tokens_numberKind bb_Tokens_numberKind 5 (some (.int)) :: zT
abbrev bb_String_isLatin1 : ByteArray := prog_19_method_154_code
def yy_String_isLatin1 : MethodName := ⟨rr_String, "isLatin1", "()Z"⟩
def ww_String_isLatin1 : List Cond := .code yy_String_isLatin1 bb_String_isLatin1 1 (some (.boolean)) :: zT
abbrev bb_String_coder : ByteArray := prog_19_method_152_code
def yy_String_coder : MethodName := ⟨rr_String, "coder", "()B"⟩
def ww_String_coder : List Cond := .code yy_String_coder bb_String_coder 1 (some (.byte)) :: zT
abbrev bb_String_length : ByteArray := prog_19_method_54_code
def yy_String_length : MethodName := ⟨rr_String, "length", "()I"⟩
def ww_String_length : List Cond := .code yy_String_length bb_String_length 1 (some (.int)) :: zT
abbrev bb_StringLatin1_canEncode : ByteArray := prog_20_method_4_code
def yy_StringLatin1_canEncode : MethodName := ⟨rr_StringLatin1, "canEncode", "(I)Z"⟩
def ww_StringLatin1_canEncode : List Cond := .code yy_StringLatin1_canEncode bb_StringLatin1_canEncode 1 (some (.boolean)) :: zT
abbrev bb_Math_max_0 : ByteArray := prog_18_method_65_code
def yy_Math_max_0 : MethodName := ⟨rr_Math, "max", "(II)I"⟩
def ww_Math_max_0 : List Cond := .code yy_Math_max_0 bb_Math_max_0 2 (some (.int)) :: zT
abbrev bb_StringLatin1_indexOfChar : ByteArray := prog_20_method_23_code
def yy_StringLatin1_indexOfChar : MethodName := ⟨rr_StringLatin1, "indexOfChar", "([BIII)I"⟩
def ww_StringLatin1_indexOfChar : List Cond := .code yy_StringLatin1_indexOfChar bb_StringLatin1_indexOfChar 6 (some (.int)) :: zT
abbrev bb_StringLatin1_indexOf : ByteArray := prog_20_method_22_code
def yy_StringLatin1_indexOf : MethodName := ⟨rr_StringLatin1, "indexOf", "([BIII)I"⟩
def ww_StringLatin1_indexOf : List Cond := .code yy_StringLatin1_indexOf bb_StringLatin1_indexOf 4 (some (.int)) :: zT
abbrev bb_String_indexOf_1 : ByteArray := prog_19_method_80_code
def yy_String_indexOf_1 : MethodName := ⟨rr_String, "indexOf", "(II)I"⟩
def ww_String_indexOf_1 : List Cond := .code yy_String_indexOf_1 bb_String_indexOf_1 3 (some (.int)) :: zT
abbrev bb_String_indexOf_0 : ByteArray := prog_19_method_79_code
def yy_String_indexOf_0 : MethodName := ⟨rr_String, "indexOf", "(I)I"⟩
def ww_String_indexOf_0 : List Cond := .code yy_String_indexOf_0 bb_String_indexOf_0 2 (some (.int)) :: zT
abbrev bb_Tokens_letterKind : ByteArray := prog_11_method_10_code
def yy_Tokens_letterKind : MethodName := ⟨rr_Tokens, "letterKind", "(C)I"⟩
def ww_Tokens_letterKind : List Cond := .code yy_Tokens_letterKind bb_Tokens_letterKind 4 (some (.int)) :: zT
abbrev bb_Tokens_numberedKind : ByteArray := prog_11_method_11_code
def yy_Tokens_numberedKind : MethodName := ⟨rr_Tokens, "numberedKind", "(CI)I"⟩
def ww_Tokens_numberedKind : List Cond := .code yy_Tokens_numberedKind bb_Tokens_numberedKind 4 (some (.int)) :: zT
abbrev bb_Preconditions_checkIndex : ByteArray := prog_24_method_11_code
def yy_Preconditions_checkIndex : MethodName := ⟨rr_Preconditions, "checkIndex", "(IILjava/util/function/BiFunction;)I"⟩
def ww_Preconditions_checkIndex : List Cond := .code yy_Preconditions_checkIndex bb_Preconditions_checkIndex 3 (some (.int)) :: zT
abbrev bb_String_checkIndex : ByteArray := prog_19_method_155_code
def yy_String_checkIndex : MethodName := ⟨rr_String, "checkIndex", "(II)V"⟩
def ww_String_checkIndex : List Cond := .code yy_String_checkIndex bb_String_checkIndex 2 none :: zT
abbrev bb_StringLatin1_charAt : ByteArray := prog_20_method_2_code
def yy_StringLatin1_charAt : MethodName := ⟨rr_StringLatin1, "charAt", "([BI)C"⟩
def ww_StringLatin1_charAt : List Cond := .code yy_StringLatin1_charAt bb_StringLatin1_charAt 2 (some (.char)) :: zT
abbrev bb_String_charAt : ByteArray := prog_19_method_56_code
def yy_String_charAt : MethodName := ⟨rr_String, "charAt", "(I)C"⟩
def ww_String_charAt : List Cond := .code yy_String_charAt bb_String_charAt 2 (some (.char)) :: zT
abbrev bb_Tokens_isSame : ByteArray := prog_11_method_13_code
def yy_Tokens_isSame : MethodName := ⟨rr_Tokens, "isSame", "(III)Z"⟩
def ww_Tokens_isSame : List Cond := .code yy_Tokens_isSame bb_Tokens_isSame 5 (some (.boolean)) :: zT
abbrev bb_Tokens_wordKind : ByteArray := prog_11_method_12_code
def yy_Tokens_wordKind : MethodName := ⟨rr_Tokens, "wordKind", "(II)I"⟩
def ww_Tokens_wordKind : List Cond := .code yy_Tokens_wordKind bb_Tokens_wordKind 6 (some (.int)) :: zT
abbrev bb_Tokens_nameKind : ByteArray := prog_11_method_8_code
def yy_Tokens_nameKind : MethodName := ⟨rr_Tokens, "nameKind", "(II)I"⟩
def ww_Tokens_nameKind : List Cond := .code yy_Tokens_nameKind bb_Tokens_nameKind 3 (some (.int)) :: zT
abbrev bb_Tokens_signKind : ByteArray := prog_11_method_7_code
def yy_Tokens_signKind : MethodName := ⟨rr_Tokens, "signKind", "(I)I"⟩
def ww_Tokens_signKind : List Cond := .code yy_Tokens_signKind bb_Tokens_signKind 4 (some (.int)) :: zT
abbrev bb_Tokens_takeToken : ByteArray := prog_11_method_3_code
def yy_Tokens_takeToken : MethodName := ⟨rr_Tokens, "takeToken", "(I)I"⟩
def ww_Tokens_takeToken : List Cond := .code yy_Tokens_takeToken bb_Tokens_takeToken 4 (some (.int)) :: zT
abbrev bb_Tokens_split : ByteArray := prog_11_method_2_code
def yy_Tokens_split : MethodName := ⟨rr_Tokens, "split", "([BI)V"⟩
def ww_Tokens_split : List Cond := .code yy_Tokens_split bb_Tokens_split 5 none :: zT
abbrev bb_Operators_init : ByteArray := prog_5_method_1_code
def yy_Operators_init : MethodName := ⟨rr_Operators, "<init>", "(LPathQueries$Text;)V"⟩
def ww_Operators_init : List Cond := .code yy_Operators_init bb_Operators_init 2 none :: zT
abbrev bb_Operators_begin : ByteArray := prog_5_method_2_code
def yy_Operators_begin : MethodName := ⟨rr_Operators, "begin", "(LPathQueries$Text;)V"⟩
def ww_Operators_begin : List Cond := .code yy_Operators_begin bb_Operators_begin 2 none :: zT
abbrev bb_Operators_unwind : ByteArray := prog_5_method_11_code
def yy_Operators_unwind : MethodName := ⟨rr_Operators, "unwind", "(I)V"⟩
def ww_Operators_unwind : List Cond := .code yy_Operators_unwind bb_Operators_unwind 3 none :: zT
abbrev bb_Operators_push : ByteArray := prog_5_method_4_code
def yy_Operators_push : MethodName := ⟨rr_Operators, "push", "(II)V"⟩
def ww_Operators_push : List Cond := .code yy_Operators_push bb_Operators_push 3 none :: zT
abbrev bb_Operators_between : ByteArray := prog_5_method_3_code
def yy_Operators_between : MethodName := ⟨rr_Operators, "between", "(II)V"⟩
def ww_Operators_between : List Cond := .code yy_Operators_between bb_Operators_between 3 none :: zT
abbrev bb_Operators_openPrefix : ByteArray := prog_5_method_5_code
def yy_Operators_openPrefix : MethodName := ⟨rr_Operators, "openPrefix", "(II)V"⟩
def ww_Operators_openPrefix : List Cond := .code yy_Operators_openPrefix bb_Operators_openPrefix 3 none :: zT
abbrev bb_Operators_openParen : ByteArray := prog_5_method_6_code
def yy_Operators_openParen : MethodName := ⟨rr_Operators, "openParen", "()V"⟩
def ww_Operators_openParen : List Cond := .code yy_Operators_openParen bb_Operators_openParen 1 none :: zT
abbrev bb_Operators_openBracket : ByteArray := prog_5_method_7_code
def yy_Operators_openBracket : MethodName := ⟨rr_Operators, "openBracket", "()V"⟩
def ww_Operators_openBracket : List Cond := .code yy_Operators_openBracket bb_Operators_openBracket 1 none :: zT
abbrev bb_Operators_popOpen : ByteArray := prog_5_method_10_code
def yy_Operators_popOpen : MethodName := ⟨rr_Operators, "popOpen", "()V"⟩
def ww_Operators_popOpen : List Cond := .code yy_Operators_popOpen bb_Operators_popOpen 1 none :: zT
abbrev bb_Operators_closeParen : ByteArray := prog_5_method_8_code
def yy_Operators_closeParen : MethodName := ⟨rr_Operators, "closeParen", "()V"⟩
def ww_Operators_closeParen : List Cond := .code yy_Operators_closeParen bb_Operators_closeParen 1 none :: zT
abbrev bb_Operators_closeBracket : ByteArray := prog_5_method_9_code
def yy_Operators_closeBracket : MethodName := ⟨rr_Operators, "closeBracket", "()V"⟩
def ww_Operators_closeBracket : List Cond := .code yy_Operators_closeBracket bb_Operators_closeBracket 1 none :: zT
abbrev bb_Reader_init : ByteArray := prog_6_method_1_code
def yy_Reader_init : MethodName := ⟨rr_Reader, "<init>", "(LPathQueries$Text;)V"⟩
def ww_Reader_init : List Cond := .code yy_Reader_init bb_Reader_init 2 none :: zT
abbrev bb_Reader_begin : ByteArray := prog_6_method_3_code
def yy_Reader_begin : MethodName := ⟨rr_Reader, "begin", "(LPathQueries$Text;Z)V"⟩
def ww_Reader_begin : List Cond := .code yy_Reader_begin bb_Reader_begin 3 none :: zT
abbrev bb_Reader_failAt : ByteArray := prog_6_method_6_code
def yy_Reader_failAt : MethodName := ⟨rr_Reader, "failAt", "(II)V"⟩
def ww_Reader_failAt : List Cond := .code yy_Reader_failAt bb_Reader_failAt 3 none :: zT
abbrev bb_Reader_fail : ByteArray := prog_6_method_5_code
def yy_Reader_fail : MethodName := ⟨rr_Reader, "fail", "(I)V"⟩
def ww_Reader_fail : List Cond := .code yy_Reader_fail bb_Reader_fail 2 none :: zT
abbrev bb_Reader_takeHead : ByteArray := prog_6_method_9_code
def yy_Reader_takeHead : MethodName := ⟨rr_Reader, "takeHead", "(I)V"⟩
def ww_Reader_takeHead : List Cond := .code yy_Reader_takeHead bb_Reader_takeHead 3 none :: zT
abbrev bb_Reader_takeSlot : ByteArray := prog_6_method_13_code
def yy_Reader_takeSlot : MethodName := ⟨rr_Reader, "takeSlot", "(I)V"⟩
def ww_Reader_takeSlot : List Cond := .code yy_Reader_takeSlot bb_Reader_takeSlot 2 none :: zT
abbrev bb_Reader_makeKnown : ByteArray := prog_6_method_14_code
def yy_Reader_makeKnown : MethodName := ⟨rr_Reader, "makeKnown", "()V"⟩
def ww_Reader_makeKnown : List Cond := .code yy_Reader_makeKnown bb_Reader_makeKnown 1 none :: zT
abbrev bb_Reader_tellNode : ByteArray := prog_6_method_12_code
def yy_Reader_tellNode : MethodName := ⟨rr_Reader, "tellNode", "(I)V"⟩
def ww_Reader_tellNode : List Cond := .code yy_Reader_tellNode bb_Reader_tellNode 2 none :: zT
abbrev bb_Reader_nameNode : ByteArray := prog_6_method_11_code
def yy_Reader_nameNode : MethodName := ⟨rr_Reader, "nameNode", "(I)V"⟩
def ww_Reader_nameNode : List Cond := .code yy_Reader_nameNode bb_Reader_nameNode 2 none :: zT
abbrev bb_Reader_closeNode : ByteArray := prog_6_method_15_code
def yy_Reader_closeNode : MethodName := ⟨rr_Reader, "closeNode", "()V"⟩
def ww_Reader_closeNode : List Cond := .code yy_Reader_closeNode bb_Reader_closeNode 1 none :: zT
abbrev bb_Reader_takeInNode : ByteArray := prog_6_method_10_code
def yy_Reader_takeInNode : MethodName := ⟨rr_Reader, "takeInNode", "(I)V"⟩
def ww_Reader_takeInNode : List Cond := .code yy_Reader_takeInNode bb_Reader_takeInNode 2 none :: zT
abbrev bb_Reader_openWay : ByteArray := prog_6_method_17_code
def yy_Reader_openWay : MethodName := ⟨rr_Reader, "openWay", "(Z)V"⟩
def ww_Reader_openWay : List Cond := .code yy_Reader_openWay bb_Reader_openWay 2 none :: zT
abbrev bb_Reader_passOn : ByteArray := prog_6_method_4_code
def yy_Reader_passOn : MethodName := ⟨rr_Reader, "passOn", "(I)V"⟩
def ww_Reader_passOn : List Cond := .code yy_Reader_passOn bb_Reader_passOn 2 none :: zT
abbrev bb_Reader_openGive : ByteArray := prog_6_method_25_code
def yy_Reader_openGive : MethodName := ⟨rr_Reader, "openGive", "()V"⟩
def ww_Reader_openGive : List Cond := .code yy_Reader_openGive bb_Reader_openGive 1 none :: zT
abbrev bb_Reader_takeAfterNode : ByteArray := prog_6_method_16_code
def yy_Reader_takeAfterNode : MethodName := ⟨rr_Reader, "takeAfterNode", "(I)V"⟩
def ww_Reader_takeAfterNode : List Cond := .code yy_Reader_takeAfterNode bb_Reader_takeAfterNode 2 none :: zT
abbrev bb_Reader_nameLeast : ByteArray := prog_6_method_19_code
def yy_Reader_nameLeast : MethodName := ⟨rr_Reader, "nameLeast", "(I)V"⟩
def ww_Reader_nameLeast : List Cond := .code yy_Reader_nameLeast bb_Reader_nameLeast 2 none :: zT
abbrev bb_Reader_takeInWay : ByteArray := prog_6_method_18_code
def yy_Reader_takeInWay : MethodName := ⟨rr_Reader, "takeInWay", "(I)V"⟩
def ww_Reader_takeInWay : List Cond := .code yy_Reader_takeInWay bb_Reader_takeInWay 2 none :: zT
abbrev bb_Reader_addStep : ByteArray := prog_6_method_21_code
def yy_Reader_addStep : MethodName := ⟨rr_Reader, "addStep", "(I)V"⟩
def ww_Reader_addStep : List Cond := .code yy_Reader_addStep bb_Reader_addStep 2 none :: zT
abbrev bb_Reader_takeStep : ByteArray := prog_6_method_20_code
def yy_Reader_takeStep : MethodName := ⟨rr_Reader, "takeStep", "(I)V"⟩
def ww_Reader_takeStep : List Cond := .code yy_Reader_takeStep bb_Reader_takeStep 4 none :: zT
abbrev bb_Reader_takeAfterStep : ByteArray := prog_6_method_22_code
def yy_Reader_takeAfterStep : MethodName := ⟨rr_Reader, "takeAfterStep", "(I)V"⟩
def ww_Reader_takeAfterStep : List Cond := .code yy_Reader_takeAfterStep bb_Reader_takeAfterStep 3 none :: zT
abbrev bb_Reader_takeFact : ByteArray := prog_6_method_23_code
def yy_Reader_takeFact : MethodName := ⟨rr_Reader, "takeFact", "(I)V"⟩
def ww_Reader_takeFact : List Cond := .code yy_Reader_takeFact bb_Reader_takeFact 2 none :: zT
abbrev bb_Reader_takeAfterFact : ByteArray := prog_6_method_24_code
def yy_Reader_takeAfterFact : MethodName := ⟨rr_Reader, "takeAfterFact", "(I)V"⟩
def ww_Reader_takeAfterFact : List Cond := .code yy_Reader_takeAfterFact bb_Reader_takeAfterFact 2 none :: zT
abbrev bb_Reader_findVariable : ByteArray := prog_6_method_27_code
def yy_Reader_findVariable : MethodName := ⟨rr_Reader, "findVariable", "(I)V"⟩
def ww_Reader_findVariable : List Cond := .code yy_Reader_findVariable bb_Reader_findVariable 2 none :: zT
abbrev bb_Reader_takeUnit : ByteArray := prog_6_method_26_code
def yy_Reader_takeUnit : MethodName := ⟨rr_Reader, "takeUnit", "(I)V"⟩
def ww_Reader_takeUnit : List Cond := .code yy_Reader_takeUnit bb_Reader_takeUnit 2 none :: zT
abbrev bb_Reader_takeAfterVariable : ByteArray := prog_6_method_28_code
def yy_Reader_takeAfterVariable : MethodName := ⟨rr_Reader, "takeAfterVariable", "(I)V"⟩
def ww_Reader_takeAfterVariable : List Cond := .code yy_Reader_takeAfterVariable bb_Reader_takeAfterVariable 2 none :: zT
abbrev bb_Reader_comparison : ByteArray := prog_6_method_31_code
def yy_Reader_comparison : MethodName := ⟨rr_Reader, "comparison", "(I)I"⟩
def ww_Reader_comparison : List Cond := .code yy_Reader_comparison bb_Reader_comparison 1 (some (.int)) :: zT
abbrev bb_Reader_takeComparison : ByteArray := prog_6_method_30_code
def yy_Reader_takeComparison : MethodName := ⟨rr_Reader, "takeComparison", "(I)V"⟩
def ww_Reader_takeComparison : List Cond := .code yy_Reader_takeComparison bb_Reader_takeComparison 3 none :: zT
abbrev bb_Reader_takeAfterUnit : ByteArray := prog_6_method_29_code
def yy_Reader_takeAfterUnit : MethodName := ⟨rr_Reader, "takeAfterUnit", "(I)V"⟩
def ww_Reader_takeAfterUnit : List Cond := .code yy_Reader_takeAfterUnit bb_Reader_takeAfterUnit 2 none :: zT
abbrev bb_Reader_takeItem : ByteArray := prog_6_method_32_code
def yy_Reader_takeItem : MethodName := ⟨rr_Reader, "takeItem", "(I)V"⟩
def ww_Reader_takeItem : List Cond := .code yy_Reader_takeItem bb_Reader_takeItem 4 none :: zT
abbrev bb_Reader_takeLimit : ByteArray := prog_6_method_34_code
def yy_Reader_takeLimit : MethodName := ⟨rr_Reader, "takeLimit", "(I)V"⟩
def ww_Reader_takeLimit : List Cond := .code yy_Reader_takeLimit bb_Reader_takeLimit 2 none :: zT
abbrev bb_Reader_givenSlot : ByteArray := prog_6_method_35_code
def yy_Reader_givenSlot : MethodName := ⟨rr_Reader, "givenSlot", "(I)I"⟩
def ww_Reader_givenSlot : List Cond := .code yy_Reader_givenSlot bb_Reader_givenSlot 2 (some (.int)) :: zT
abbrev bb_Reader_takeTail : ByteArray := prog_6_method_33_code
def yy_Reader_takeTail : MethodName := ⟨rr_Reader, "takeTail", "(I)V"⟩
def ww_Reader_takeTail : List Cond := .code yy_Reader_takeTail bb_Reader_takeTail 2 none :: zT
abbrev bb_Reader_take : ByteArray := prog_6_method_8_code
def yy_Reader_take : MethodName := ⟨rr_Reader, "take", "(I)V"⟩
def ww_Reader_take : List Cond := .code yy_Reader_take bb_Reader_take 2 none :: zT
abbrev bb_Reader_checkLast : ByteArray := prog_6_method_7_code
def yy_Reader_checkLast : MethodName := ⟨rr_Reader, "checkLast", "(I)V"⟩
def ww_Reader_checkLast : List Cond := .code yy_Reader_checkLast bb_Reader_checkLast 2 none :: zT
abbrev bb_Reader_read : ByteArray := prog_6_method_2_code
def yy_Reader_read : MethodName := ⟨rr_Reader, "read", "([BILPathQueries$Text;Z)I"⟩
def ww_Reader_read : List Cond := .code yy_Reader_read bb_Reader_read 7 (some (.int)) :: zT
abbrev bb_Search_init : ByteArray := prog_9_method_1_code
def yy_Search_init : MethodName := ⟨rr_Search, "<init>", "(LPathQueries$Graph;LPathQueries$Text;[I)V"⟩
def ww_Search_init : List Cond := .code yy_Search_init bb_Search_init 4 none :: zT
abbrev bb_Search_candidates : ByteArray := prog_9_method_5_code
def yy_Search_candidates : MethodName := ⟨rr_Search, "candidates", "(I)I"⟩
def ww_Search_candidates : List Cond := .code yy_Search_candidates bb_Search_candidates 7 (some (.int)) :: zT
abbrev bb_Search_begin : ByteArray := prog_9_method_2_code
def yy_Search_begin : MethodName := ⟨rr_Search, "begin", "(LPathQueries$Text;I)V"⟩
def ww_Search_begin : List Cond := .code yy_Search_begin bb_Search_begin 5 none :: zT
abbrev bb_Integer_numberOfTrailingZeros : ByteArray := prog_17_method_48_code
def yy_Integer_numberOfTrailingZeros : MethodName := ⟨rr_Integer, "numberOfTrailingZeros", "(I)I"⟩
def ww_Integer_numberOfTrailingZeros : List Cond := .code yy_Integer_numberOfTrailingZeros bb_Integer_numberOfTrailingZeros 2 (some (.int)) :: zT
abbrev bb_Search_next : ByteArray := prog_9_method_3_code
def yy_Search_next : MethodName := ⟨rr_Search, "next", "()Z"⟩
def ww_Search_next : List Cond := .code yy_Search_next bb_Search_next 3 (some (.boolean)) :: zT
abbrev bb_Search_knownFit : ByteArray := prog_9_method_6_code
def yy_Search_knownFit : MethodName := ⟨rr_Search, "knownFit", "(I)Z"⟩
def ww_Search_knownFit : List Cond := .code yy_Search_knownFit bb_Search_knownFit 5 (some (.boolean)) :: zT
abbrev bb_Search_fits : ByteArray := prog_9_method_4_code
def yy_Search_fits : MethodName := ⟨rr_Search, "fits", "(LPathQueries$Text;I)Z"⟩
def ww_Search_fits : List Cond := .code yy_Search_fits bb_Search_fits 3 (some (.boolean)) :: zT
abbrev bb_Finder_init : ByteArray := prog_3_method_1_code
def yy_Finder_init : MethodName := ⟨rr_Finder, "<init>", "(LPathQueries$Graph;LPathQueries$Text;)V"⟩
def ww_Finder_init : List Cond := .code yy_Finder_init bb_Finder_init 3 none :: zT
abbrev bb_Finder_goFirst : ByteArray := prog_3_method_10_code
def yy_Finder_goFirst : MethodName := ⟨rr_Finder, "goFirst", "(LPathQueries$Way;I)Z"⟩
def ww_Finder_goFirst : List Cond := .code yy_Finder_goFirst bb_Finder_goFirst 6 (some (.boolean)) :: zT
abbrev bb_Finder_spread : ByteArray := prog_3_method_12_code
def yy_Finder_spread : MethodName := ⟨rr_Finder, "spread", "(LPathQueries$Way;II)V"⟩
def ww_Finder_spread : List Cond := .code yy_Finder_spread bb_Finder_spread 7 none :: zT
abbrev bb_Finder_goOn : ByteArray := prog_3_method_11_code
def yy_Finder_goOn : MethodName := ⟨rr_Finder, "goOn", "(LPathQueries$Way;)Z"⟩
def ww_Finder_goOn : List Cond := .code yy_Finder_goOn bb_Finder_goOn 4 (some (.boolean)) :: zT
abbrev bb_Finder_measureFrom : ByteArray := prog_3_method_9_code
def yy_Finder_measureFrom : MethodName := ⟨rr_Finder, "measureFrom", "(LPathQueries$Way;I)V"⟩
def ww_Finder_measureFrom : List Cond := .code yy_Finder_measureFrom bb_Finder_measureFrom 9 none :: zT
abbrev bb_Finder_bringUpToDate : ByteArray := prog_3_method_8_code
def yy_Finder_bringUpToDate : MethodName := ⟨rr_Finder, "bringUpToDate", "(LPathQueries$Way;)V"⟩
def ww_Finder_bringUpToDate : List Cond := .code yy_Finder_bringUpToDate bb_Finder_bringUpToDate 3 none :: zT
abbrev bb_Finder_start : ByteArray := prog_3_method_2_code
def yy_Finder_start : MethodName := ⟨rr_Finder, "start", "(LPathQueries$Text;)V"⟩
def ww_Finder_start : List Cond := .code yy_Finder_start bb_Finder_start 3 none :: zT
abbrev bb_Finder_load : ByteArray := prog_3_method_5_code
def yy_Finder_load : MethodName := ⟨rr_Finder, "load", "(II)I"⟩
def ww_Finder_load : List Cond := .code yy_Finder_load bb_Finder_load 4 (some (.int)) :: zT
abbrev bb_Finder_bounded : ByteArray := prog_3_method_7_code
def yy_Finder_bounded : MethodName := ⟨rr_Finder, "bounded", "(J)I"⟩
def ww_Finder_bounded : List Cond := .code yy_Finder_bounded bb_Finder_bounded 2 (some (.int)) :: zT
abbrev bb_Finder_operate : ByteArray := prog_3_method_6_code
def yy_Finder_operate : MethodName := ⟨rr_Finder, "operate", "(III)I"⟩
def ww_Finder_operate : List Cond := .code yy_Finder_operate bb_Finder_operate 3 (some (.int)) :: zT
abbrev bb_Finder_evaluate : ByteArray := prog_3_method_4_code
def yy_Finder_evaluate : MethodName := ⟨rr_Finder, "evaluate", "(II)I"⟩
def ww_Finder_evaluate : List Cond := .code yy_Finder_evaluate bb_Finder_evaluate 8 (some (.int)) :: zT
abbrev bb_Finder_nextRow : ByteArray := prog_3_method_3_code
def yy_Finder_nextRow : MethodName := ⟨rr_Finder, "nextRow", "()Z"⟩
def ww_Finder_nextRow : List Cond := .code yy_Finder_nextRow bb_Finder_nextRow 2 (some (.boolean)) :: zT
abbrev bb_RuleBook_init : ByteArray := prog_8_method_1_code
def yy_RuleBook_init : MethodName := ⟨rr_RuleBook, "<init>", "(LPathQueries$Graph;LPathQueries$Finder;)V"⟩
def ww_RuleBook_init : List Cond := .code yy_RuleBook_init bb_RuleBook_init 4 none :: zT
abbrev bb_RuleBook_has : ByteArray := prog_8_method_2_code
def yy_RuleBook_has : MethodName := ⟨rr_RuleBook, "has", "(I)Z"⟩
def ww_RuleBook_has : List Cond := .code yy_RuleBook_has bb_RuleBook_has 2 (some (.boolean)) :: zT
abbrev bb_RuleBook_replace : ByteArray := prog_8_method_3_code
def yy_RuleBook_replace : MethodName := ⟨rr_RuleBook, "replace", "(LPathQueries$Text;)LPathQueries$Text;"⟩
def ww_RuleBook_replace : List Cond := .code yy_RuleBook_replace bb_RuleBook_replace 3 (some (.object "PathQueries$Text")) :: zT
abbrev bb_RuleBook_standing : ByteArray := prog_8_method_4_code
def yy_RuleBook_standing : MethodName := ⟨rr_RuleBook, "standing", "()I"⟩
def ww_RuleBook_standing : List Cond := .code yy_RuleBook_standing bb_RuleBook_standing 3 (some (.int)) :: zT
abbrev bb_RuleBook_workOfAll : ByteArray := prog_8_method_7_code
def yy_RuleBook_workOfAll : MethodName := ⟨rr_RuleBook, "workOfAll", "()J"⟩
def ww_RuleBook_workOfAll : List Cond := .code yy_RuleBook_workOfAll bb_RuleBook_workOfAll 4 (some (.long)) :: zT
abbrev bb_RuleBook_isOneLarge : ByteArray := prog_8_method_6_code
def yy_RuleBook_isOneLarge : MethodName := ⟨rr_RuleBook, "isOneLarge", "()Z"⟩
def ww_RuleBook_isOneLarge : List Cond := .code yy_RuleBook_isOneLarge bb_RuleBook_isOneLarge 2 (some (.boolean)) :: zT
abbrev bb_RuleBook_forgetRuled : ByteArray := prog_8_method_9_code
def yy_RuleBook_forgetRuled : MethodName := ⟨rr_RuleBook, "forgetRuled", "(LPathQueries$Text;)V"⟩
def ww_RuleBook_forgetRuled : List Cond := .code yy_RuleBook_forgetRuled bb_RuleBook_forgetRuled 2 none :: zT
abbrev bb_RuleBook_linkAll : ByteArray := prog_8_method_10_code
def yy_RuleBook_linkAll : MethodName := ⟨rr_RuleBook, "linkAll", "(III)V"⟩
def ww_RuleBook_linkAll : List Cond := .code yy_RuleBook_linkAll bb_RuleBook_linkAll 5 none :: zT
abbrev bb_RuleBook_goRound : ByteArray := prog_8_method_8_code
def yy_RuleBook_goRound : MethodName := ⟨rr_RuleBook, "goRound", "()Z"⟩
def ww_RuleBook_goRound : List Cond := .code yy_RuleBook_goRound bb_RuleBook_goRound 5 (some (.boolean)) :: zT
abbrev bb_RuleBook_settle : ByteArray := prog_8_method_5_code
def yy_RuleBook_settle : MethodName := ⟨rr_RuleBook, "settle", "()Z"⟩
def ww_RuleBook_settle : List Cond := .code yy_RuleBook_settle bb_RuleBook_settle 6 (some (.boolean)) :: zT
abbrev bb_Rows_init : ByteArray := prog_7_method_1_code
def yy_Rows_init : MethodName := ⟨rr_Rows, "<init>", "()V"⟩
def ww_Rows_init : List Cond := .code yy_Rows_init bb_Rows_init 1 none :: zT
abbrev bb_Rows_clear : ByteArray := prog_7_method_2_code
def yy_Rows_clear : MethodName := ⟨rr_Rows, "clear", "(I)V"⟩
def ww_Rows_clear : List Cond := .code yy_Rows_clear bb_Rows_clear 2 none :: zT
abbrev bb_Arrays_copyOf : ByteArray := prog_23_method_123_code
def yy_Arrays_copyOf : MethodName := ⟨rr_Arrays, "copyOf", "([II)[I"⟩
def ww_Arrays_copyOf : List Cond := .code yy_Arrays_copyOf bb_Arrays_copyOf 3 (some (.array .int)) :: zT
abbrev bb_Rows_reserve : ByteArray := prog_7_method_3_code
def yy_Rows_reserve : MethodName := ⟨rr_Rows, "reserve", "(I)V"⟩
def ww_Rows_reserve : List Cond := .code yy_Rows_reserve bb_Rows_reserve 2 none :: zT
abbrev bb_Rows_addRow : ByteArray := prog_7_method_4_code
def yy_Rows_addRow : MethodName := ⟨rr_Rows, "addRow", "()V"⟩
def ww_Rows_addRow : List Cond := .code yy_Rows_addRow bb_Rows_addRow 1 none :: zT
abbrev bb_Rows_setCell : ByteArray := prog_7_method_5_code
def yy_Rows_setCell : MethodName := ⟨rr_Rows, "setCell", "(II)V"⟩
def ww_Rows_setCell : List Cond := .code yy_Rows_setCell bb_Rows_setCell 3 none :: zT
abbrev bb_Rows_cell : ByteArray := prog_7_method_6_code
def yy_Rows_cell : MethodName := ⟨rr_Rows, "cell", "(II)I"⟩
def ww_Rows_cell : List Cond := .code yy_Rows_cell bb_Rows_cell 3 (some (.int)) :: zT
abbrev bb_Rows_sorted : ByteArray := prog_7_method_7_code
def yy_Rows_sorted : MethodName := ⟨rr_Rows, "sorted", "(I)I"⟩
def ww_Rows_sorted : List Cond := .code yy_Rows_sorted bb_Rows_sorted 2 (some (.int)) :: zT
abbrev bb_Rows_compare : ByteArray := prog_7_method_10_code
def yy_Rows_compare : MethodName := ⟨rr_Rows, "compare", "(III)I"⟩
def ww_Rows_compare : List Cond := .code yy_Rows_compare bb_Rows_compare 7 (some (.int)) :: zT
abbrev bb_Rows_merge : ByteArray := prog_7_method_9_code
def yy_Rows_merge : MethodName := ⟨rr_Rows, "merge", "(IIII)V"⟩
def ww_Rows_merge : List Cond := .code yy_Rows_merge bb_Rows_merge 8 none :: zT
abbrev bb_Rows_sort : ByteArray := prog_7_method_8_code
def yy_Rows_sort : MethodName := ⟨rr_Rows, "sort", "(I)V"⟩
def ww_Rows_sort : List Cond := .code yy_Rows_sort bb_Rows_sort 4 none :: zT
abbrev bb_Collector_init : ByteArray := prog_2_method_1_code
def yy_Collector_init : MethodName := ⟨rr_Collector, "<init>", "(LPathQueries$Finder;)V"⟩
def ww_Collector_init : List Cond := .code yy_Collector_init bb_Collector_init 2 none :: zT
abbrev bb_Collector_gather : ByteArray := prog_2_method_3_code
def yy_Collector_gather : MethodName := ⟨rr_Collector, "gather", "(LPathQueries$Text;)V"⟩
def ww_Collector_gather : List Cond := .code yy_Collector_gather bb_Collector_gather 5 none :: zT
abbrev bb_Collector_keysOf : ByteArray := prog_2_method_4_code
def yy_Collector_keysOf : MethodName := ⟨rr_Collector, "keysOf", "(LPathQueries$Text;)I"⟩
def ww_Collector_keysOf : List Cond := .code yy_Collector_keysOf bb_Collector_keysOf 3 (some (.int)) :: zT
abbrev bb_Math_min_1 : ByteArray := prog_18_method_70_code
def yy_Math_min_1 : MethodName := ⟨rr_Math, "min", "(JJ)J"⟩
def ww_Math_min_1 : List Cond := .code yy_Math_min_1 bb_Math_min_1 4 (some (.long)) :: zT
abbrev bb_Math_max_1 : ByteArray := prog_18_method_66_code
def yy_Math_max_1 : MethodName := ⟨rr_Math, "max", "(JJ)J"⟩
def ww_Math_max_1 : List Cond := .code yy_Math_max_1 bb_Math_max_1 4 (some (.long)) :: zT
abbrev bb_Collector_addTo : ByteArray := prog_2_method_6_code
def yy_Collector_addTo : MethodName := ⟨rr_Collector, "addTo", "(LPathQueries$Text;I)V"⟩
def ww_Collector_addTo : List Cond := .code yy_Collector_addTo bb_Collector_addTo 6 none :: zT
abbrev bb_Collector_fold : ByteArray := prog_2_method_5_code
def yy_Collector_fold : MethodName := ⟨rr_Collector, "fold", "(LPathQueries$Text;I)V"⟩
def ww_Collector_fold : List Cond := .code yy_Collector_fold bb_Collector_fold 6 none :: zT
abbrev bb_Collector_collect : ByteArray := prog_2_method_2_code
def yy_Collector_collect : MethodName := ⟨rr_Collector, "collect", "(LPathQueries$Text;LPathQueries$Rows;)V"⟩
def ww_Collector_collect : List Cond := .code yy_Collector_collect bb_Collector_collect 7 none :: zT
abbrev bb_PQ_init : ByteArray := prog_1_method_1_code
def yy_PQ_init : MethodName := ⟨rr_PQ, "<init>", "()V"⟩
def ww_PQ_init : List Cond := .code yy_PQ_init bb_PQ_init 2 none :: zT
abbrev bb_PQ_append : ByteArray := prog_1_method_3_code
def yy_PQ_append : MethodName := ⟨rr_PQ, "append", "(I)V"⟩
def ww_PQ_append : List Cond := .code yy_PQ_append bb_PQ_append 3 none :: zT
abbrev bb_PQ_feed : ByteArray := prog_1_method_2_code
def yy_PQ_feed : MethodName := ⟨rr_PQ, "feed", "(IIIII)I"⟩
def ww_PQ_feed : List Cond := .code yy_PQ_feed bb_PQ_feed 6 (some (.int)) :: zT
abbrev bb_PQ_cut : ByteArray := prog_1_method_4_code
def yy_PQ_cut : MethodName := ⟨rr_PQ, "cut", "(I)I"⟩
def ww_PQ_cut : List Cond := .code yy_PQ_cut bb_PQ_cut 2 (some (.int)) :: zT
abbrev bb_PQ_node : ByteArray := prog_1_method_5_code
def yy_PQ_node : MethodName := ⟨rr_PQ, "node", "(I)I"⟩
def ww_PQ_node : List Cond := .code yy_PQ_node bb_PQ_node 2 (some (.int)) :: zT
abbrev bb_PQ_mark : ByteArray := prog_1_method_6_code
def yy_PQ_mark : MethodName := ⟨rr_PQ, "mark", "(II)I"⟩
def ww_PQ_mark : List Cond := .code yy_PQ_mark bb_PQ_mark 3 (some (.int)) :: zT
abbrev bb_PQ_put : ByteArray := prog_1_method_7_code
def yy_PQ_put : MethodName := ⟨rr_PQ, "put", "(III)I"⟩
def ww_PQ_put : List Cond := .code yy_PQ_put bb_PQ_put 5 (some (.int)) :: zT
abbrev bb_PQ_arc : ByteArray := prog_1_method_8_code
def yy_PQ_arc : MethodName := ⟨rr_PQ, "arc", "(IIII)I"⟩
def ww_PQ_arc : List Cond := .code yy_PQ_arc bb_PQ_arc 6 (some (.int)) :: zT
abbrev bb_PQ_drop : ByteArray := prog_1_method_9_code
def yy_PQ_drop : MethodName := ⟨rr_PQ, "drop", "(I)I"⟩
def ww_PQ_drop : List Cond := .code yy_PQ_drop bb_PQ_drop 2 (some (.int)) :: zT
abbrev bb_PQ_told : ByteArray := prog_1_method_10_code
def yy_PQ_told : MethodName := ⟨rr_PQ, "told", "(II)I"⟩
def ww_PQ_told : List Cond := .code yy_PQ_told bb_PQ_told 3 (some (.int)) :: zT
abbrev bb_PQ_bare : ByteArray := prog_1_method_11_code
def yy_PQ_bare : MethodName := ⟨rr_PQ, "bare", "(I)I"⟩
def ww_PQ_bare : List Cond := .code yy_PQ_bare bb_PQ_bare 2 (some (.int)) :: zT
abbrev bb_PQ_question : ByteArray := prog_1_method_12_code
def yy_PQ_question : MethodName := ⟨rr_PQ, "question", "(I)I"⟩
def ww_PQ_question : List Cond := .code yy_PQ_question bb_PQ_question 4 (some (.int)) :: zT
abbrev bb_PQ_rule : ByteArray := prog_1_method_13_code
def yy_PQ_rule : MethodName := ⟨rr_PQ, "rule", "()I"⟩
def ww_PQ_rule : List Cond := .code yy_PQ_rule bb_PQ_rule 3 (some (.int)) :: zT
abbrev bb_PQ_forget : ByteArray := prog_1_method_14_code
def yy_PQ_forget : MethodName := ⟨rr_PQ, "forget", "(I)I"⟩
def ww_PQ_forget : List Cond := .code yy_PQ_forget bb_PQ_forget 2 (some (.int)) :: zT
abbrev bb_PQ_place : ByteArray := prog_1_method_15_code
def yy_PQ_place : MethodName := ⟨rr_PQ, "place", "()I"⟩
def ww_PQ_place : List Cond := .code yy_PQ_place bb_PQ_place 1 (some (.int)) :: zT
abbrev bb_PQ_ask : ByteArray := prog_1_method_16_code
def yy_PQ_ask : MethodName := ⟨rr_PQ, "ask", "(I)I"⟩
def ww_PQ_ask : List Cond := .code yy_PQ_ask bb_PQ_ask 3 (some (.int)) :: zT
abbrev bb_PQ_answer : ByteArray := prog_1_method_17_code
def yy_PQ_answer : MethodName := ⟨rr_PQ, "answer", "(III)I"⟩
def ww_PQ_answer : List Cond := .code yy_PQ_answer bb_PQ_answer 5 (some (.int)) :: zT
abbrev bb_PQ_leads : ByteArray := prog_1_method_18_code
def yy_PQ_leads : MethodName := ⟨rr_PQ, "leads", "(III)I"⟩
def ww_PQ_leads : List Cond := .code yy_PQ_leads bb_PQ_leads 4 (some (.int)) :: zT
abbrev bb_Integer_bitCount : ByteArray := prog_17_method_49_code
def yy_Integer_bitCount : MethodName := ⟨rr_Integer, "bitCount", "(I)I"⟩
def ww_Integer_bitCount : List Cond := .code yy_Integer_bitCount bb_Integer_bitCount 1 (some (.int)) :: zT
abbrev bb_PQ_pairs : ByteArray := prog_1_method_19_code
def yy_PQ_pairs : MethodName := ⟨rr_PQ, "pairs", "(I)I"⟩
def ww_PQ_pairs : List Cond := .code yy_PQ_pairs bb_PQ_pairs 4 (some (.int)) :: zT
abbrev bb_PQ_least : ByteArray := prog_1_method_20_code
def yy_PQ_least : MethodName := ⟨rr_PQ, "least", "(III)I"⟩
def ww_PQ_least : List Cond := .code yy_PQ_least bb_PQ_least 7 (some (.int)) :: zT
abbrev bb_Mo_init : ByteArray := prog_14_method_1_code
def yy_Mo_init : MethodName := ⟨rr_Mo, "<init>", "()V"⟩
def ww_Mo_init : List Cond := .code yy_Mo_init bb_Mo_init 2 none :: zT
abbrev bb_Mo_isSmall : ByteArray := prog_14_method_2_code
def yy_Mo_isSmall : MethodName := ⟨rr_Mo, "isSmall", "(I)Z"⟩
def ww_Mo_isSmall : List Cond := .code yy_Mo_isSmall bb_Mo_isSmall 1 (some (.boolean)) :: zT
abbrev bb_Mo_isDigit : ByteArray := prog_14_method_3_code
def yy_Mo_isDigit : MethodName := ⟨rr_Mo, "isDigit", "(I)Z"⟩
def ww_Mo_isDigit : List Cond := .code yy_Mo_isDigit bb_Mo_isDigit 1 (some (.boolean)) :: zT
abbrev bb_Mo_isWordByte : ByteArray := prog_14_method_4_code
def yy_Mo_isWordByte : MethodName := ⟨rr_Mo, "isWordByte", "(I)Z"⟩
def ww_Mo_isWordByte : List Cond := .code yy_Mo_isWordByte bb_Mo_isWordByte 1 (some (.boolean)) :: zT
abbrev bb_Mo_at : ByteArray := prog_14_method_5_code
def yy_Mo_at : MethodName := ⟨rr_Mo, "at", "(II)I"⟩
def ww_Mo_at : List Cond := .code yy_Mo_at bb_Mo_at 3 (some (.int)) :: zT
abbrev bb_Mo_isVariable : ByteArray := prog_14_method_6_code
def yy_Mo_isVariable : MethodName := ⟨rr_Mo, "isVariable", "(I)Z"⟩
def ww_Mo_isVariable : List Cond := .code yy_Mo_isVariable bb_Mo_isVariable 1 (some (.boolean)) :: zT
abbrev bb_Mo_wordKind : ByteArray := prog_14_method_8_code
def yy_Mo_wordKind : MethodName := ⟨rr_Mo, "wordKind", "(J)I"⟩
def ww_Mo_wordKind : List Cond := .code yy_Mo_wordKind bb_Mo_wordKind 2 (some (.int)) :: zT
abbrev bb_Mo_wordToken : ByteArray := prog_14_method_7_code
def yy_Mo_wordToken : MethodName := ⟨rr_Mo, "wordToken", "(II)V"⟩
def ww_Mo_wordToken : List Cond := .code yy_Mo_wordToken bb_Mo_wordToken 8 none :: zT
abbrev bb_Mo_signKind : ByteArray := prog_14_method_9_code
def yy_Mo_signKind : MethodName := ⟨rr_Mo, "signKind", "(II)I"⟩
def ww_Mo_signKind : List Cond := .code yy_Mo_signKind bb_Mo_signKind 2 (some (.int)) :: zT
abbrev bb_Mo_cutTokens : ByteArray := prog_14_method_10_code
def yy_Mo_cutTokens : MethodName := ⟨rr_Mo, "cutTokens", "(I)V"⟩
def ww_Mo_cutTokens : List Cond := .code yy_Mo_cutTokens bb_Mo_cutTokens 5 none :: zT
abbrev bb_Mo_refuse : ByteArray := prog_14_method_11_code
def yy_Mo_refuse : MethodName := ⟨rr_Mo, "refuse", "(II)V"⟩
def ww_Mo_refuse : List Cond := .code yy_Mo_refuse bb_Mo_refuse 3 none :: zT
abbrev bb_Mo_kind : ByteArray := prog_14_method_12_code
def yy_Mo_kind : MethodName := ⟨rr_Mo, "kind", "()I"⟩
def ww_Mo_kind : List Cond := .code yy_Mo_kind bb_Mo_kind 1 (some (.int)) :: zT
abbrev bb_Mo_wrong : ByteArray := prog_14_method_13_code
def yy_Mo_wrong : MethodName := ⟨rr_Mo, "wrong", "()V"⟩
def ww_Mo_wrong : List Cond := .code yy_Mo_wrong bb_Mo_wrong 1 none :: zT
abbrev bb_Mo_stands : ByteArray := prog_14_method_14_code
def yy_Mo_stands : MethodName := ⟨rr_Mo, "stands", "()V"⟩
def ww_Mo_stands : List Cond := .code yy_Mo_stands bb_Mo_stands 1 none :: zT
abbrev bb_Mo_pass : ByteArray := prog_14_method_15_code
def yy_Mo_pass : MethodName := ⟨rr_Mo, "pass", "()V"⟩
def ww_Mo_pass : List Cond := .code yy_Mo_pass bb_Mo_pass 1 none :: zT
abbrev bb_Mo_takes : ByteArray := prog_14_method_16_code
def yy_Mo_takes : MethodName := ⟨rr_Mo, "takes", "(I)Z"⟩
def ww_Mo_takes : List Cond := .code yy_Mo_takes bb_Mo_takes 2 (some (.boolean)) :: zT
abbrev bb_Mo_need : ByteArray := prog_14_method_17_code
def yy_Mo_need : MethodName := ⟨rr_Mo, "need", "(I)V"⟩
def ww_Mo_need : List Cond := .code yy_Mo_need bb_Mo_need 2 none :: zT
abbrev bb_Mo_within : ByteArray := prog_14_method_18_code
def yy_Mo_within : MethodName := ⟨rr_Mo, "within", "()V"⟩
def ww_Mo_within : List Cond := .code yy_Mo_within bb_Mo_within 1 none :: zT
abbrev bb_Mo_meaning : ByteArray := prog_14_method_19_code
def yy_Mo_meaning : MethodName := ⟨rr_Mo, "meaning", "(I)I"⟩
def ww_Mo_meaning : List Cond := .code yy_Mo_meaning bb_Mo_meaning 2 (some (.int)) :: zT
abbrev bb_Mo_learn : ByteArray := prog_14_method_20_code
def yy_Mo_learn : MethodName := ⟨rr_Mo, "learn", "(II)V"⟩
def ww_Mo_learn : List Cond := .code yy_Mo_learn bb_Mo_learn 3 none :: zT
abbrev bb_Mo_oneMore : ByteArray := prog_14_method_21_code
def yy_Mo_oneMore : MethodName := ⟨rr_Mo, "oneMore", "(I)Z"⟩
def ww_Mo_oneMore : List Cond := .code yy_Mo_oneMore bb_Mo_oneMore 2 (some (.boolean)) :: zT
abbrev bb_Mo_newSlot : ByteArray := prog_14_method_22_code
def yy_Mo_newSlot : MethodName := ⟨rr_Mo, "newSlot", "()I"⟩
def ww_Mo_newSlot : List Cond := .code yy_Mo_newSlot bb_Mo_newSlot 2 (some (.int)) :: zT
abbrev bb_Mo_nodeOf : ByteArray := prog_14_method_23_code
def yy_Mo_nodeOf : MethodName := ⟨rr_Mo, "nodeOf", "()I"⟩
def ww_Mo_nodeOf : List Cond := .code yy_Mo_nodeOf bb_Mo_nodeOf 4 (some (.int)) :: zT
abbrev bb_Mo_beginRow : ByteArray := prog_14_method_27_code
def yy_Mo_beginRow : MethodName := ⟨rr_Mo, "beginRow", "(I)V"⟩
def ww_Mo_beginRow : List Cond := .code yy_Mo_beginRow bb_Mo_beginRow 2 none :: zT
abbrev bb_Mo_open : ByteArray := prog_14_method_26_code
def yy_Mo_open : MethodName := ⟨rr_Mo, "open", "()V"⟩
def ww_Mo_open : List Cond := .code yy_Mo_open bb_Mo_open 1 none :: zT
abbrev bb_Mo_link : ByteArray := prog_14_method_30_code
def yy_Mo_link : MethodName := ⟨rr_Mo, "link", "(III)V"⟩
def ww_Mo_link : List Cond := .code yy_Mo_link bb_Mo_link 5 none :: zT
abbrev bb_Mo_step : ByteArray := prog_14_method_29_code
def yy_Mo_step : MethodName := ⟨rr_Mo, "step", "(IZII)V"⟩
def ww_Mo_step : List Cond := .code yy_Mo_step bb_Mo_step 7 none :: zT
abbrev bb_Mo_single : ByteArray := prog_14_method_32_code
def yy_Mo_single : MethodName := ⟨rr_Mo, "single", "(I)V"⟩
def ww_Mo_single : List Cond := .code yy_Mo_single bb_Mo_single 5 none :: zT
abbrev bb_Mo_endRow : ByteArray := prog_14_method_28_code
def yy_Mo_endRow : MethodName := ⟨rr_Mo, "endRow", "(I)V"⟩
def ww_Mo_endRow : List Cond := .code yy_Mo_endRow bb_Mo_endRow 2 none :: zT
abbrev bb_Mo_rows : ByteArray := prog_14_method_31_code
def yy_Mo_rows : MethodName := ⟨rr_Mo, "rows", "(I)V"⟩
def ww_Mo_rows : List Cond := .code yy_Mo_rows bb_Mo_rows 5 none :: zT
abbrev bb_Mo_way : ByteArray := prog_14_method_25_code
def yy_Mo_way : MethodName := ⟨rr_Mo, "way", "(I)I"⟩
def ww_Mo_way : List Cond := .code yy_Mo_way bb_Mo_way 6 (some (.int)) :: zT
abbrev bb_Mo_pattern : ByteArray := prog_14_method_24_code
def yy_Mo_pattern : MethodName := ⟨rr_Mo, "pattern", "()V"⟩
def ww_Mo_pattern : List Cond := .code yy_Mo_pattern bb_Mo_pattern 2 none :: zT
abbrev bb_Mo_code : ByteArray := prog_14_method_33_code
def yy_Mo_code : MethodName := ⟨rr_Mo, "code", "(II)V"⟩
def ww_Mo_code : List Cond := .code yy_Mo_code bb_Mo_code 3 none :: zT
abbrev bb_Mo_frame : ByteArray := prog_14_method_34_code
def yy_Mo_frame : MethodName := ⟨rr_Mo, "frame", "(I)V"⟩
def ww_Mo_frame : List Cond := .code yy_Mo_frame bb_Mo_frame 2 none :: zT
abbrev bb_Mo_joined : ByteArray := prog_14_method_36_code
def yy_Mo_joined : MethodName := ⟨rr_Mo, "joined", "(IIII)V"⟩
def ww_Mo_joined : List Cond := .code yy_Mo_joined bb_Mo_joined 5 none :: zT
abbrev bb_Mo_without : ByteArray := prog_14_method_40_code
def yy_Mo_without : MethodName := ⟨rr_Mo, "without", "()V"⟩
def ww_Mo_without : List Cond := .code yy_Mo_without bb_Mo_without 2 none :: zT
abbrev bb_Mo_factBegins : ByteArray := prog_14_method_39_code
def yy_Mo_factBegins : MethodName := ⟨rr_Mo, "factBegins", "(I)V"⟩
def ww_Mo_factBegins : List Cond := .code yy_Mo_factBegins bb_Mo_factBegins 2 none :: zT
abbrev bb_Mo_relation : ByteArray := prog_14_method_37_code
def yy_Mo_relation : MethodName := ⟨rr_Mo, "relation", "(I)I"⟩
def ww_Mo_relation : List Cond := .code yy_Mo_relation bb_Mo_relation 1 (some (.int)) :: zT
abbrev bb_Mo_fact : ByteArray := prog_14_method_38_code
def yy_Mo_fact : MethodName := ⟨rr_Mo, "fact", "(I)V"⟩
def ww_Mo_fact : List Cond := .code yy_Mo_fact bb_Mo_fact 2 none :: zT
abbrev bb_Mo_reckoned : ByteArray := prog_14_method_41_code
def yy_Mo_reckoned : MethodName := ⟨rr_Mo, "reckoned", "(I)V"⟩
def ww_Mo_reckoned : List Cond := .code yy_Mo_reckoned bb_Mo_reckoned 5 none :: zT
abbrev bb_Mo_variable : ByteArray := prog_14_method_43_code
def yy_Mo_variable : MethodName := ⟨rr_Mo, "variable", "()V"⟩
def ww_Mo_variable : List Cond := .code yy_Mo_variable bb_Mo_variable 2 none :: zT
abbrev bb_Mo_unit : ByteArray := prog_14_method_42_code
def yy_Mo_unit : MethodName := ⟨rr_Mo, "unit", "(I)V"⟩
def ww_Mo_unit : List Cond := .code yy_Mo_unit bb_Mo_unit 2 none :: zT
abbrev bb_Mo_parse : ByteArray := prog_14_method_35_code
def yy_Mo_parse : MethodName := ⟨rr_Mo, "parse", "(I)V"⟩
def ww_Mo_parse : List Cond := .code yy_Mo_parse bb_Mo_parse 3 none :: zT
abbrev bb_Mo_begin : ByteArray := prog_14_method_44_code
def yy_Mo_begin : MethodName := ⟨rr_Mo, "begin", "()V"⟩
def ww_Mo_begin : List Cond := .code yy_Mo_begin bb_Mo_begin 2 none :: zT
abbrev bb_Mo_patterns : ByteArray := prog_14_method_45_code
def yy_Mo_patterns : MethodName := ⟨rr_Mo, "patterns", "()V"⟩
def ww_Mo_patterns : List Cond := .code yy_Mo_patterns bb_Mo_patterns 1 none :: zT
abbrev bb_Mo_item : ByteArray := prog_14_method_46_code
def yy_Mo_item : MethodName := ⟨rr_Mo, "item", "()V"⟩
def ww_Mo_item : List Cond := .code yy_Mo_item bb_Mo_item 3 none :: zT
abbrev bb_Mo_ended : ByteArray := prog_14_method_47_code
def yy_Mo_ended : MethodName := ⟨rr_Mo, "ended", "(I)I"⟩
def ww_Mo_ended : List Cond := .code yy_Mo_ended bb_Mo_ended 2 (some (.int)) :: zT
abbrev bb_Mo_readQuestion : ByteArray := prog_14_method_48_code
def yy_Mo_readQuestion : MethodName := ⟨rr_Mo, "readQuestion", "()I"⟩
def ww_Mo_readQuestion : List Cond := .code yy_Mo_readQuestion bb_Mo_readQuestion 1 (some (.int)) :: zT
abbrev bb_Mo_endOf : ByteArray := prog_14_method_49_code
def yy_Mo_endOf : MethodName := ⟨rr_Mo, "endOf", "()I"⟩
def ww_Mo_endOf : List Cond := .code yy_Mo_endOf bb_Mo_endOf 2 (some (.int)) :: zT
abbrev bb_Mo_readRule : ByteArray := prog_14_method_50_code
def yy_Mo_readRule : MethodName := ⟨rr_Mo, "readRule", "()I"⟩
def ww_Mo_readRule : List Cond := .code yy_Mo_readRule bb_Mo_readRule 2 (some (.int)) :: zT
abbrev bb_Mo_leadsBy : ByteArray := prog_14_method_51_code
def yy_Mo_leadsBy : MethodName := ⟨rr_Mo, "leadsBy", "(III)Z"⟩
def ww_Mo_leadsBy : List Cond := .code yy_Mo_leadsBy bb_Mo_leadsBy 5 (some (.boolean)) :: zT
abbrev bb_Mo_measure : ByteArray := prog_14_method_52_code
def yy_Mo_measure : MethodName := ⟨rr_Mo, "measure", "(II)V"⟩
def ww_Mo_measure : List Cond := .code yy_Mo_measure bb_Mo_measure 12 none :: zT
abbrev bb_Mo_measureAll : ByteArray := prog_14_method_53_code
def yy_Mo_measureAll : MethodName := ⟨rr_Mo, "measureAll", "()V"⟩
def ww_Mo_measureAll : List Cond := .code yy_Mo_measureAll bb_Mo_measureAll 3 none :: zT
abbrev bb_Mo_distance : ByteArray := prog_14_method_54_code
def yy_Mo_distance : MethodName := ⟨rr_Mo, "distance", "(I)I"⟩
def ww_Mo_distance : List Cond := .code yy_Mo_distance bb_Mo_distance 2 (some (.int)) :: zT
abbrev bb_Mo_workOf : ByteArray := prog_14_method_55_code
def yy_Mo_workOf : MethodName := ⟨rr_Mo, "workOf", "(I)J"⟩
def ww_Mo_workOf : List Cond := .code yy_Mo_workOf bb_Mo_workOf 5 (some (.long)) :: zT
abbrev bb_Mo_goesOn : ByteArray := prog_14_method_56_code
def yy_Mo_goesOn : MethodName := ⟨rr_Mo, "goesOn", "(I)Z"⟩
def ww_Mo_goesOn : List Cond := .code yy_Mo_goesOn bb_Mo_goesOn 3 (some (.boolean)) :: zT
abbrev bb_Mo_fits : ByteArray := prog_14_method_57_code
def yy_Mo_fits : MethodName := ⟨rr_Mo, "fits", "(I)Z"⟩
def ww_Mo_fits : List Cond := .code yy_Mo_fits bb_Mo_fits 5 (some (.boolean)) :: zT
abbrev bb_Mo_isWithout : ByteArray := prog_14_method_58_code
def yy_Mo_isWithout : MethodName := ⟨rr_Mo, "isWithout", "(I)Z"⟩
def ww_Mo_isWithout : List Cond := .code yy_Mo_isWithout bb_Mo_isWithout 4 (some (.boolean)) :: zT
abbrev bb_Mo_bounded : ByteArray := prog_14_method_59_code
def yy_Mo_bounded : MethodName := ⟨rr_Mo, "bounded", "(J)I"⟩
def ww_Mo_bounded : List Cond := .code yy_Mo_bounded bb_Mo_bounded 2 (some (.int)) :: zT
abbrev bb_Mo_both : ByteArray := prog_14_method_61_code
def yy_Mo_both : MethodName := ⟨rr_Mo, "both", "(III)I"⟩
def ww_Mo_both : List Cond := .code yy_Mo_both bb_Mo_both 3 (some (.int)) :: zT
abbrev bb_Mo_work : ByteArray := prog_14_method_60_code
def yy_Mo_work : MethodName := ⟨rr_Mo, "work", "(II)I"⟩
def ww_Mo_work : List Cond := .code yy_Mo_work bb_Mo_work 7 (some (.int)) :: zT
abbrev bb_Mo_holds : ByteArray := prog_14_method_62_code
def yy_Mo_holds : MethodName := ⟨rr_Mo, "holds", "()Z"⟩
def ww_Mo_holds : List Cond := .code yy_Mo_holds bb_Mo_holds 1 (some (.boolean)) :: zT
abbrev bb_Mo_firstRow : ByteArray := prog_14_method_63_code
def yy_Mo_firstRow : MethodName := ⟨rr_Mo, "firstRow", "()V"⟩
def ww_Mo_firstRow : List Cond := .code yy_Mo_firstRow bb_Mo_firstRow 2 none :: zT
abbrev bb_Mo_round : ByteArray := prog_14_method_65_code
def yy_Mo_round : MethodName := ⟨rr_Mo, "round", "()Z"⟩
def ww_Mo_round : List Cond := .code yy_Mo_round bb_Mo_round 3 (some (.boolean)) :: zT
abbrev bb_Mo_workRules : ByteArray := prog_14_method_64_code
def yy_Mo_workRules : MethodName := ⟨rr_Mo, "workRules", "()V"⟩
def ww_Mo_workRules : List Cond := .code yy_Mo_workRules bb_Mo_workRules 6 none :: zT
abbrev bb_Mo_compareRows : ByteArray := prog_14_method_66_code
def yy_Mo_compareRows : MethodName := ⟨rr_Mo, "compareRows", "(II)I"⟩
def ww_Mo_compareRows : List Cond := .code yy_Mo_compareRows bb_Mo_compareRows 6 (some (.int)) :: zT
abbrev bb_Mo_sortRows : ByteArray := prog_14_method_67_code
def yy_Mo_sortRows : MethodName := ⟨rr_Mo, "sortRows", "()V"⟩
def ww_Mo_sortRows : List Cond := .code yy_Mo_sortRows bb_Mo_sortRows 9 none :: zT
abbrev bb_Mo_collect : ByteArray := prog_14_method_68_code
def yy_Mo_collect : MethodName := ⟨rr_Mo, "collect", "()V"⟩
def ww_Mo_collect : List Cond := .code yy_Mo_collect bb_Mo_collect 4 none :: zT
abbrev bb_Mo_together : ByteArray := prog_14_method_70_code
def yy_Mo_together : MethodName := ⟨rr_Mo, "together", "(III)I"⟩
def ww_Mo_together : List Cond := .code yy_Mo_together bb_Mo_together 12 (some (.int)) :: zT
abbrev bb_Mo_groupRows : ByteArray := prog_14_method_69_code
def yy_Mo_groupRows : MethodName := ⟨rr_Mo, "groupRows", "()I"⟩
def ww_Mo_groupRows : List Cond := .code yy_Mo_groupRows bb_Mo_groupRows 5 (some (.int)) :: zT
abbrev bb_Mo_answered : ByteArray := prog_14_method_71_code
def yy_Mo_answered : MethodName := ⟨rr_Mo, "answered", "(I)I"⟩
def ww_Mo_answered : List Cond := .code yy_Mo_answered bb_Mo_answered 5 (some (.int)) :: zT
abbrev bb_Mo_isIn : ByteArray := prog_14_method_72_code
def yy_Mo_isIn : MethodName := ⟨rr_Mo, "isIn", "(II)Z"⟩
def ww_Mo_isIn : List Cond := .code yy_Mo_isIn bb_Mo_isIn 2 (some (.boolean)) :: zT
abbrev bb_Mo_changed : ByteArray := prog_14_method_73_code
def yy_Mo_changed : MethodName := ⟨rr_Mo, "changed", "()V"⟩
def ww_Mo_changed : List Cond := .code yy_Mo_changed bb_Mo_changed 2 none :: zT
abbrev bb_Mo_feedOne : ByteArray := prog_14_method_75_code
def yy_Mo_feedOne : MethodName := ⟨rr_Mo, "feedOne", "(I)V"⟩
def ww_Mo_feedOne : List Cond := .code yy_Mo_feedOne bb_Mo_feedOne 3 none :: zT
abbrev bb_Mo_feed : ByteArray := prog_14_method_74_code
def yy_Mo_feed : MethodName := ⟨rr_Mo, "feed", "(IIIII)I"⟩
def ww_Mo_feed : List Cond := .code yy_Mo_feed bb_Mo_feed 6 (some (.int)) :: zT
abbrev bb_Mo_cut : ByteArray := prog_14_method_76_code
def yy_Mo_cut : MethodName := ⟨rr_Mo, "cut", "(I)I"⟩
def ww_Mo_cut : List Cond := .code yy_Mo_cut bb_Mo_cut 2 (some (.int)) :: zT
abbrev bb_Mo_node : ByteArray := prog_14_method_77_code
def yy_Mo_node : MethodName := ⟨rr_Mo, "node", "(I)I"⟩
def ww_Mo_node : List Cond := .code yy_Mo_node bb_Mo_node 3 (some (.int)) :: zT
abbrev bb_Mo_mark : ByteArray := prog_14_method_78_code
def yy_Mo_mark : MethodName := ⟨rr_Mo, "mark", "(II)I"⟩
def ww_Mo_mark : List Cond := .code yy_Mo_mark bb_Mo_mark 4 (some (.int)) :: zT
abbrev bb_Mo_put : ByteArray := prog_14_method_79_code
def yy_Mo_put : MethodName := ⟨rr_Mo, "put", "(III)I"⟩
def ww_Mo_put : List Cond := .code yy_Mo_put bb_Mo_put 5 (some (.int)) :: zT
abbrev bb_Mo_arc : ByteArray := prog_14_method_80_code
def yy_Mo_arc : MethodName := ⟨rr_Mo, "arc", "(IIII)I"⟩
def ww_Mo_arc : List Cond := .code yy_Mo_arc bb_Mo_arc 6 (some (.int)) :: zT
abbrev bb_Mo_drop : ByteArray := prog_14_method_81_code
def yy_Mo_drop : MethodName := ⟨rr_Mo, "drop", "(I)I"⟩
def ww_Mo_drop : List Cond := .code yy_Mo_drop bb_Mo_drop 2 (some (.int)) :: zT
abbrev bb_Mo_ruleCount : ByteArray := prog_14_method_82_code
def yy_Mo_ruleCount : MethodName := ⟨rr_Mo, "ruleCount", "()I"⟩
def ww_Mo_ruleCount : List Cond := .code yy_Mo_ruleCount bb_Mo_ruleCount 3 (some (.int)) :: zT
abbrev bb_Mo_told : ByteArray := prog_14_method_83_code
def yy_Mo_told : MethodName := ⟨rr_Mo, "told", "(II)I"⟩
def ww_Mo_told : List Cond := .code yy_Mo_told bb_Mo_told 5 (some (.int)) :: zT
abbrev bb_Mo_bare : ByteArray := prog_14_method_84_code
def yy_Mo_bare : MethodName := ⟨rr_Mo, "bare", "(I)I"⟩
def ww_Mo_bare : List Cond := .code yy_Mo_bare bb_Mo_bare 4 (some (.int)) :: zT
abbrev bb_Mo_settle : ByteArray := prog_14_method_85_code
def yy_Mo_settle : MethodName := ⟨rr_Mo, "settle", "(I)V"⟩
def ww_Mo_settle : List Cond := .code yy_Mo_settle bb_Mo_settle 2 none :: zT
abbrev bb_Mo_question : ByteArray := prog_14_method_86_code
def yy_Mo_question : MethodName := ⟨rr_Mo, "question", "(I)I"⟩
def ww_Mo_question : List Cond := .code yy_Mo_question bb_Mo_question 3 (some (.int)) :: zT
abbrev bb_Mo_rule : ByteArray := prog_14_method_87_code
def yy_Mo_rule : MethodName := ⟨rr_Mo, "rule", "()I"⟩
def ww_Mo_rule : List Cond := .code yy_Mo_rule bb_Mo_rule 2 (some (.int)) :: zT
abbrev bb_Mo_forget : ByteArray := prog_14_method_88_code
def yy_Mo_forget : MethodName := ⟨rr_Mo, "forget", "(I)I"⟩
def ww_Mo_forget : List Cond := .code yy_Mo_forget bb_Mo_forget 2 (some (.int)) :: zT
abbrev bb_Mo_place : ByteArray := prog_14_method_89_code
def yy_Mo_place : MethodName := ⟨rr_Mo, "place", "()I"⟩
def ww_Mo_place : List Cond := .code yy_Mo_place bb_Mo_place 1 (some (.int)) :: zT
abbrev bb_Mo_ask : ByteArray := prog_14_method_90_code
def yy_Mo_ask : MethodName := ⟨rr_Mo, "ask", "(I)I"⟩
def ww_Mo_ask : List Cond := .code yy_Mo_ask bb_Mo_ask 2 (some (.int)) :: zT
abbrev bb_Mo_answer : ByteArray := prog_14_method_91_code
def yy_Mo_answer : MethodName := ⟨rr_Mo, "answer", "(III)I"⟩
def ww_Mo_answer : List Cond := .code yy_Mo_answer bb_Mo_answer 4 (some (.int)) :: zT
abbrev bb_Mo_leads : ByteArray := prog_14_method_92_code
def yy_Mo_leads : MethodName := ⟨rr_Mo, "leads", "(III)I"⟩
def ww_Mo_leads : List Cond := .code yy_Mo_leads bb_Mo_leads 4 (some (.int)) :: zT
abbrev bb_Mo_pairs : ByteArray := prog_14_method_93_code
def yy_Mo_pairs : MethodName := ⟨rr_Mo, "pairs", "(I)I"⟩
def ww_Mo_pairs : List Cond := .code yy_Mo_pairs bb_Mo_pairs 4 (some (.int)) :: zT
abbrev bb_Mo_least : ByteArray := prog_14_method_94_code
def yy_Mo_least : MethodName := ⟨rr_Mo, "least", "(III)I"⟩
def ww_Mo_least : List Cond := .code yy_Mo_least bb_Mo_least 7 (some (.int)) :: zT
