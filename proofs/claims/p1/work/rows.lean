section
/-- a private method of a class that the tables say can be made, by its rows of tables_1 -/
def lw_okq (q : MethodName × Nat) : Prop := (q.1.cls ≠ "java/lang/invoke/MethodHandle" ∧ q.1.cls ≠ "java/lang/invoke/VarHandle") ∧ Cond.instantiable q.1.cls q.2 ∈ tables_1 ∧ Cond.privateMethod q.1 ∈ tables_1 ∧ Cond.instanceMethod q.1 ∈ tables_1
theorem lw_p0 : lw_okq (⟨"TrialGarden$Tokens", "packWords", "(Ljava/lang/String;I)I"⟩, 10) := ⟨⟨by decide +kernel, by decide +kernel⟩, List.mem_of_getElem? (i := 41) (by decide +kernel), List.mem_of_getElem? (i := 48) (by decide +kernel), List.mem_of_getElem? (i := 49) (by decide +kernel)⟩
theorem lw_p1 : lw_okq (⟨"TrialGarden", "putBytes", "(I)V"⟩, 8) := ⟨⟨by decide +kernel, by decide +kernel⟩, List.mem_of_getElem? (i := 27) (by decide +kernel), List.mem_of_getElem? (i := 797) (by decide +kernel), List.mem_of_getElem? (i := 798) (by decide +kernel)⟩
theorem lw_p2 : lw_okq (⟨"TrialGarden$Tokens", "behindBlanks", "(I)I"⟩, 10) := ⟨⟨by decide +kernel, by decide +kernel⟩, List.mem_of_getElem? (i := 41) (by decide +kernel), List.mem_of_getElem? (i := 820) (by decide +kernel), List.mem_of_getElem? (i := 821) (by decide +kernel)⟩
theorem lw_p3 : lw_okq (⟨"TrialGarden$Tokens", "byteAt", "(I)I"⟩, 10) := ⟨⟨by decide +kernel, by decide +kernel⟩, List.mem_of_getElem? (i := 41) (by decide +kernel), List.mem_of_getElem? (i := 824) (by decide +kernel), List.mem_of_getElem? (i := 825) (by decide +kernel)⟩
theorem lw_p4 : lw_okq (⟨"TrialGarden$Tokens", "takeToken", "(II)I"⟩, 10) := ⟨⟨by decide +kernel, by decide +kernel⟩, List.mem_of_getElem? (i := 41) (by decide +kernel), List.mem_of_getElem? (i := 828) (by decide +kernel), List.mem_of_getElem? (i := 829) (by decide +kernel)⟩
theorem lw_p5 : lw_okq (⟨"TrialGarden$Tokens", "takeWord", "(II)I"⟩, 10) := ⟨⟨by decide +kernel, by decide +kernel⟩, List.mem_of_getElem? (i := 41) (by decide +kernel), List.mem_of_getElem? (i := 832) (by decide +kernel), List.mem_of_getElem? (i := 833) (by decide +kernel)⟩
theorem lw_p6 : lw_okq (⟨"TrialGarden$Tokens", "takeNumber", "(II)I"⟩, 10) := ⟨⟨by decide +kernel, by decide +kernel⟩, List.mem_of_getElem? (i := 41) (by decide +kernel), List.mem_of_getElem? (i := 836) (by decide +kernel), List.mem_of_getElem? (i := 837) (by decide +kernel)⟩
theorem lw_p7 : lw_okq (⟨"TrialGarden$Reader", "readClassHead", "()V"⟩, 16) := ⟨⟨by decide +kernel, by decide +kernel⟩, List.mem_of_getElem? (i := 35) (by decide +kernel), List.mem_of_getElem? (i := 914) (by decide +kernel), List.mem_of_getElem? (i := 915) (by decide +kernel)⟩
theorem lw_p8 : lw_okq (⟨"TrialGarden$Reader", "readClassAbove", "()V"⟩, 16) := ⟨⟨by decide +kernel, by decide +kernel⟩, List.mem_of_getElem? (i := 35) (by decide +kernel), List.mem_of_getElem? (i := 952) (by decide +kernel), List.mem_of_getElem? (i := 953) (by decide +kernel)⟩
theorem lw_p9 : lw_okq (⟨"TrialGarden$Reader", "readField", "()V"⟩, 16) := ⟨⟨by decide +kernel, by decide +kernel⟩, List.mem_of_getElem? (i := 35) (by decide +kernel), List.mem_of_getElem? (i := 963) (by decide +kernel), List.mem_of_getElem? (i := 964) (by decide +kernel)⟩
theorem lw_p10 : lw_okq (⟨"TrialGarden$Reader", "readRowSize", "()I"⟩, 16) := ⟨⟨by decide +kernel, by decide +kernel⟩, List.mem_of_getElem? (i := 35) (by decide +kernel), List.mem_of_getElem? (i := 971) (by decide +kernel), List.mem_of_getElem? (i := 972) (by decide +kernel)⟩
theorem lw_p11 : lw_okq (⟨"TrialGarden$Reader", "readNumber", "(I)I"⟩, 16) := ⟨⟨by decide +kernel, by decide +kernel⟩, List.mem_of_getElem? (i := 35) (by decide +kernel), List.mem_of_getElem? (i := 980) (by decide +kernel), List.mem_of_getElem? (i := 981) (by decide +kernel)⟩
theorem lw_p12 : lw_okq (⟨"TrialGarden$Reader", "readKept", "()V"⟩, 16) := ⟨⟨by decide +kernel, by decide +kernel⟩, List.mem_of_getElem? (i := 35) (by decide +kernel), List.mem_of_getElem? (i := 989) (by decide +kernel), List.mem_of_getElem? (i := 990) (by decide +kernel)⟩
theorem lw_p13 : lw_okq (⟨"TrialGarden$Reader", "readAsked", "(Z)V"⟩, 16) := ⟨⟨by decide +kernel, by decide +kernel⟩, List.mem_of_getElem? (i := 35) (by decide +kernel), List.mem_of_getElem? (i := 998) (by decide +kernel), List.mem_of_getElem? (i := 999) (by decide +kernel)⟩
theorem lw_p14 : lw_okq (⟨"TrialGarden$Expressions", "readBehind", "(I)V"⟩, 14) := ⟨⟨by decide +kernel, by decide +kernel⟩, List.mem_of_getElem? (i := 187) (by decide +kernel), List.mem_of_getElem? (i := 1007) (by decide +kernel), List.mem_of_getElem? (i := 1008) (by decide +kernel)⟩
theorem lw_p15 : lw_okq (⟨"TrialGarden$Expressions", "closeParts", "(I)V"⟩, 14) := ⟨⟨by decide +kernel, by decide +kernel⟩, List.mem_of_getElem? (i := 187) (by decide +kernel), List.mem_of_getElem? (i := 1015) (by decide +kernel), List.mem_of_getElem? (i := 1016) (by decide +kernel)⟩
def lw_privs_1 : List (MethodName × Nat) := [(⟨"TrialGarden$Tokens", "packWords", "(Ljava/lang/String;I)I"⟩, 10), (⟨"TrialGarden", "putBytes", "(I)V"⟩, 8), (⟨"TrialGarden$Tokens", "behindBlanks", "(I)I"⟩, 10), (⟨"TrialGarden$Tokens", "byteAt", "(I)I"⟩, 10), (⟨"TrialGarden$Tokens", "takeToken", "(II)I"⟩, 10), (⟨"TrialGarden$Tokens", "takeWord", "(II)I"⟩, 10), (⟨"TrialGarden$Tokens", "takeNumber", "(II)I"⟩, 10), (⟨"TrialGarden$Reader", "readClassHead", "()V"⟩, 16), (⟨"TrialGarden$Reader", "readClassAbove", "()V"⟩, 16), (⟨"TrialGarden$Reader", "readField", "()V"⟩, 16), (⟨"TrialGarden$Reader", "readRowSize", "()I"⟩, 16), (⟨"TrialGarden$Reader", "readNumber", "(I)I"⟩, 16), (⟨"TrialGarden$Reader", "readKept", "()V"⟩, 16), (⟨"TrialGarden$Reader", "readAsked", "(Z)V"⟩, 16), (⟨"TrialGarden$Expressions", "readBehind", "(I)V"⟩, 14), (⟨"TrialGarden$Expressions", "closeParts", "(I)V"⟩, 14)]
theorem lw_r1 : ∀ q ∈ lw_privs_1, lw_okq q := List.forall_mem_cons.mpr ⟨lw_p0, List.forall_mem_cons.mpr ⟨lw_p1, List.forall_mem_cons.mpr ⟨lw_p2, List.forall_mem_cons.mpr ⟨lw_p3, List.forall_mem_cons.mpr ⟨lw_p4, List.forall_mem_cons.mpr ⟨lw_p5, List.forall_mem_cons.mpr ⟨lw_p6, List.forall_mem_cons.mpr ⟨lw_p7, List.forall_mem_cons.mpr ⟨lw_p8, List.forall_mem_cons.mpr ⟨lw_p9, List.forall_mem_cons.mpr ⟨lw_p10, List.forall_mem_cons.mpr ⟨lw_p11, List.forall_mem_cons.mpr ⟨lw_p12, List.forall_mem_cons.mpr ⟨lw_p13, List.forall_mem_cons.mpr ⟨lw_p14, List.forall_mem_cons.mpr ⟨lw_p15, fun _ h => absurd h List.not_mem_nil⟩⟩⟩⟩⟩⟩⟩⟩⟩⟩⟩⟩⟩⟩⟩⟩
theorem lw_p16 : lw_okq (⟨"TrialGarden$Expressions", "takeHeight", "()I"⟩, 14) := ⟨⟨by decide +kernel, by decide +kernel⟩, List.mem_of_getElem? (i := 187) (by decide +kernel), List.mem_of_getElem? (i := 1019) (by decide +kernel), List.mem_of_getElem? (i := 1020) (by decide +kernel)⟩
theorem lw_p17 : lw_okq (⟨"TrialGarden$Expressions", "addWhole", "(I)V"⟩, 14) := ⟨⟨by decide +kernel, by decide +kernel⟩, List.mem_of_getElem? (i := 187) (by decide +kernel), List.mem_of_getElem? (i := 1031) (by decide +kernel), List.mem_of_getElem? (i := 1032) (by decide +kernel)⟩
theorem lw_p18 : lw_okq (⟨"TrialGarden$Expressions", "openOperator", "(I)V"⟩, 14) := ⟨⟨by decide +kernel, by decide +kernel⟩, List.mem_of_getElem? (i := 187) (by decide +kernel), List.mem_of_getElem? (i := 1036) (by decide +kernel), List.mem_of_getElem? (i := 1037) (by decide +kernel)⟩
theorem lw_p19 : lw_okq (⟨"TrialGarden$Expressions", "push", "(III)V"⟩, 14) := ⟨⟨by decide +kernel, by decide +kernel⟩, List.mem_of_getElem? (i := 187) (by decide +kernel), List.mem_of_getElem? (i := 1041) (by decide +kernel), List.mem_of_getElem? (i := 1042) (by decide +kernel)⟩
theorem lw_p20 : lw_okq (⟨"TrialGarden$Expressions", "closeIndex", "()V"⟩, 14) := ⟨⟨by decide +kernel, by decide +kernel⟩, List.mem_of_getElem? (i := 187) (by decide +kernel), List.mem_of_getElem? (i := 1046) (by decide +kernel), List.mem_of_getElem? (i := 1047) (by decide +kernel)⟩
theorem lw_p21 : lw_okq (⟨"TrialGarden$Expressions", "closeArgument", "(I)V"⟩, 14) := ⟨⟨by decide +kernel, by decide +kernel⟩, List.mem_of_getElem? (i := 187) (by decide +kernel), List.mem_of_getElem? (i := 1050) (by decide +kernel), List.mem_of_getElem? (i := 1051) (by decide +kernel)⟩
theorem lw_p22 : lw_okq (⟨"TrialGarden$Expressions", "readName", "()V"⟩, 14) := ⟨⟨by decide +kernel, by decide +kernel⟩, List.mem_of_getElem? (i := 187) (by decide +kernel), List.mem_of_getElem? (i := 1054) (by decide +kernel), List.mem_of_getElem? (i := 1055) (by decide +kernel)⟩
theorem lw_p23 : lw_okq (⟨"TrialGarden$Expressions", "openCall", "(IIII)V"⟩, 14) := ⟨⟨by decide +kernel, by decide +kernel⟩, List.mem_of_getElem? (i := 187) (by decide +kernel), List.mem_of_getElem? (i := 1067) (by decide +kernel), List.mem_of_getElem? (i := 1068) (by decide +kernel)⟩
theorem lw_p24 : lw_okq (⟨"TrialGarden$Expressions", "openIndex", "(III)V"⟩, 14) := ⟨⟨by decide +kernel, by decide +kernel⟩, List.mem_of_getElem? (i := 187) (by decide +kernel), List.mem_of_getElem? (i := 1080) (by decide +kernel), List.mem_of_getElem? (i := 1081) (by decide +kernel)⟩
theorem lw_p25 : lw_okq (⟨"TrialGarden$Expressions", "readNumber", "()V"⟩, 14) := ⟨⟨by decide +kernel, by decide +kernel⟩, List.mem_of_getElem? (i := 187) (by decide +kernel), List.mem_of_getElem? (i := 1088) (by decide +kernel), List.mem_of_getElem? (i := 1089) (by decide +kernel)⟩
theorem lw_p26 : lw_okq (⟨"TrialGarden$Expressions", "openSign", "(I)V"⟩, 14) := ⟨⟨by decide +kernel, by decide +kernel⟩, List.mem_of_getElem? (i := 187) (by decide +kernel), List.mem_of_getElem? (i := 1092) (by decide +kernel), List.mem_of_getElem? (i := 1093) (by decide +kernel)⟩
theorem lw_p27 : lw_okq (⟨"TrialGarden$Expressions", "readAbove", "()V"⟩, 14) := ⟨⟨by decide +kernel, by decide +kernel⟩, List.mem_of_getElem? (i := 187) (by decide +kernel), List.mem_of_getElem? (i := 1096) (by decide +kernel), List.mem_of_getElem? (i := 1097) (by decide +kernel)⟩
theorem lw_p28 : lw_okq (⟨"TrialGarden$Expressions", "readSize", "()V"⟩, 14) := ⟨⟨by decide +kernel, by decide +kernel⟩, List.mem_of_getElem? (i := 187) (by decide +kernel), List.mem_of_getElem? (i := 1105) (by decide +kernel), List.mem_of_getElem? (i := 1106) (by decide +kernel)⟩
theorem lw_p29 : lw_okq (⟨"TrialGarden$Expressions", "takeBracket", "()V"⟩, 14) := ⟨⟨by decide +kernel, by decide +kernel⟩, List.mem_of_getElem? (i := 187) (by decide +kernel), List.mem_of_getElem? (i := 1109) (by decide +kernel), List.mem_of_getElem? (i := 1110) (by decide +kernel)⟩
theorem lw_p30 : lw_okq (⟨"TrialGarden$Expressions", "readOld", "()V"⟩, 14) := ⟨⟨by decide +kernel, by decide +kernel⟩, List.mem_of_getElem? (i := 187) (by decide +kernel), List.mem_of_getElem? (i := 1113) (by decide +kernel), List.mem_of_getElem? (i := 1114) (by decide +kernel)⟩
theorem lw_p31 : lw_okq (⟨"TrialGarden$Expressions", "readResult", "()V"⟩, 14) := ⟨⟨by decide +kernel, by decide +kernel⟩, List.mem_of_getElem? (i := 187) (by decide +kernel), List.mem_of_getElem? (i := 1117) (by decide +kernel), List.mem_of_getElem? (i := 1118) (by decide +kernel)⟩
def lw_privs_2 : List (MethodName × Nat) := [(⟨"TrialGarden$Expressions", "takeHeight", "()I"⟩, 14), (⟨"TrialGarden$Expressions", "addWhole", "(I)V"⟩, 14), (⟨"TrialGarden$Expressions", "openOperator", "(I)V"⟩, 14), (⟨"TrialGarden$Expressions", "push", "(III)V"⟩, 14), (⟨"TrialGarden$Expressions", "closeIndex", "()V"⟩, 14), (⟨"TrialGarden$Expressions", "closeArgument", "(I)V"⟩, 14), (⟨"TrialGarden$Expressions", "readName", "()V"⟩, 14), (⟨"TrialGarden$Expressions", "openCall", "(IIII)V"⟩, 14), (⟨"TrialGarden$Expressions", "openIndex", "(III)V"⟩, 14), (⟨"TrialGarden$Expressions", "readNumber", "()V"⟩, 14), (⟨"TrialGarden$Expressions", "openSign", "(I)V"⟩, 14), (⟨"TrialGarden$Expressions", "readAbove", "()V"⟩, 14), (⟨"TrialGarden$Expressions", "readSize", "()V"⟩, 14), (⟨"TrialGarden$Expressions", "takeBracket", "()V"⟩, 14), (⟨"TrialGarden$Expressions", "readOld", "()V"⟩, 14), (⟨"TrialGarden$Expressions", "readResult", "()V"⟩, 14)]
theorem lw_r2 : ∀ q ∈ lw_privs_2, lw_okq q := List.forall_mem_cons.mpr ⟨lw_p16, List.forall_mem_cons.mpr ⟨lw_p17, List.forall_mem_cons.mpr ⟨lw_p18, List.forall_mem_cons.mpr ⟨lw_p19, List.forall_mem_cons.mpr ⟨lw_p20, List.forall_mem_cons.mpr ⟨lw_p21, List.forall_mem_cons.mpr ⟨lw_p22, List.forall_mem_cons.mpr ⟨lw_p23, List.forall_mem_cons.mpr ⟨lw_p24, List.forall_mem_cons.mpr ⟨lw_p25, List.forall_mem_cons.mpr ⟨lw_p26, List.forall_mem_cons.mpr ⟨lw_p27, List.forall_mem_cons.mpr ⟨lw_p28, List.forall_mem_cons.mpr ⟨lw_p29, List.forall_mem_cons.mpr ⟨lw_p30, List.forall_mem_cons.mpr ⟨lw_p31, fun _ h => absurd h List.not_mem_nil⟩⟩⟩⟩⟩⟩⟩⟩⟩⟩⟩⟩⟩⟩⟩⟩
theorem lw_p32 : lw_okq (⟨"TrialGarden$Reader", "readMemberHead", "()V"⟩, 16) := ⟨⟨by decide +kernel, by decide +kernel⟩, List.mem_of_getElem? (i := 35) (by decide +kernel), List.mem_of_getElem? (i := 1122) (by decide +kernel), List.mem_of_getElem? (i := 1123) (by decide +kernel)⟩
theorem lw_p33 : lw_okq (⟨"TrialGarden$Reader", "beginTelling", "(JII)V"⟩, 16) := ⟨⟨by decide +kernel, by decide +kernel⟩, List.mem_of_getElem? (i := 35) (by decide +kernel), List.mem_of_getElem? (i := 1127) (by decide +kernel), List.mem_of_getElem? (i := 1128) (by decide +kernel)⟩
theorem lw_p34 : lw_okq (⟨"TrialGarden$Reader", "readParam", "()V"⟩, 16) := ⟨⟨by decide +kernel, by decide +kernel⟩, List.mem_of_getElem? (i := 35) (by decide +kernel), List.mem_of_getElem? (i := 1133) (by decide +kernel), List.mem_of_getElem? (i := 1134) (by decide +kernel)⟩
theorem lw_p35 : lw_okq (⟨"TrialGarden$Reader", "atMark", "()Z"⟩, 16) := ⟨⟨by decide +kernel, by decide +kernel⟩, List.mem_of_getElem? (i := 35) (by decide +kernel), List.mem_of_getElem? (i := 1138) (by decide +kernel), List.mem_of_getElem? (i := 1139) (by decide +kernel)⟩
theorem lw_p36 : lw_okq (⟨"TrialGarden$Reader", "readMark", "()V"⟩, 16) := ⟨⟨by decide +kernel, by decide +kernel⟩, List.mem_of_getElem? (i := 35) (by decide +kernel), List.mem_of_getElem? (i := 1142) (by decide +kernel), List.mem_of_getElem? (i := 1143) (by decide +kernel)⟩
theorem lw_p37 : lw_okq (⟨"TrialGarden$Reader", "readThrownWord", "()Z"⟩, 16) := ⟨⟨by decide +kernel, by decide +kernel⟩, List.mem_of_getElem? (i := 35) (by decide +kernel), List.mem_of_getElem? (i := 1146) (by decide +kernel), List.mem_of_getElem? (i := 1147) (by decide +kernel)⟩
theorem lw_p38 : lw_okq (⟨"TrialGarden$Reader", "readOnly", "()V"⟩, 16) := ⟨⟨by decide +kernel, by decide +kernel⟩, List.mem_of_getElem? (i := 35) (by decide +kernel), List.mem_of_getElem? (i := 1150) (by decide +kernel), List.mem_of_getElem? (i := 1151) (by decide +kernel)⟩
theorem lw_p39 : lw_okq (⟨"TrialGarden$Reader", "openBody", "()V"⟩, 16) := ⟨⟨by decide +kernel, by decide +kernel⟩, List.mem_of_getElem? (i := 35) (by decide +kernel), List.mem_of_getElem? (i := 1154) (by decide +kernel), List.mem_of_getElem? (i := 1155) (by decide +kernel)⟩
theorem lw_p40 : lw_okq (⟨"TrialGarden$Reader", "openBlock", "(III)V"⟩, 16) := ⟨⟨by decide +kernel, by decide +kernel⟩, List.mem_of_getElem? (i := 35) (by decide +kernel), List.mem_of_getElem? (i := 1158) (by decide +kernel), List.mem_of_getElem? (i := 1159) (by decide +kernel)⟩
theorem lw_p41 : lw_okq (⟨"TrialGarden$Reader", "readStatement", "()V"⟩, 16) := ⟨⟨by decide +kernel, by decide +kernel⟩, List.mem_of_getElem? (i := 35) (by decide +kernel), List.mem_of_getElem? (i := 1162) (by decide +kernel), List.mem_of_getElem? (i := 1163) (by decide +kernel)⟩
theorem lw_p42 : lw_okq (⟨"TrialGarden$Reader", "closeBlock", "()V"⟩, 16) := ⟨⟨by decide +kernel, by decide +kernel⟩, List.mem_of_getElem? (i := 35) (by decide +kernel), List.mem_of_getElem? (i := 1166) (by decide +kernel), List.mem_of_getElem? (i := 1167) (by decide +kernel)⟩
theorem lw_p43 : lw_okq (⟨"TrialGarden$Reader", "refuseStatement", "()V"⟩, 16) := ⟨⟨by decide +kernel, by decide +kernel⟩, List.mem_of_getElem? (i := 35) (by decide +kernel), List.mem_of_getElem? (i := 1174) (by decide +kernel), List.mem_of_getElem? (i := 1175) (by decide +kernel)⟩
theorem lw_p44 : lw_okq (⟨"TrialGarden$Reader", "readLet", "()V"⟩, 16) := ⟨⟨by decide +kernel, by decide +kernel⟩, List.mem_of_getElem? (i := 35) (by decide +kernel), List.mem_of_getElem? (i := 1183) (by decide +kernel), List.mem_of_getElem? (i := 1184) (by decide +kernel)⟩
theorem lw_p45 : lw_okq (⟨"TrialGarden$Reader", "readTest", "(I)V"⟩, 16) := ⟨⟨by decide +kernel, by decide +kernel⟩, List.mem_of_getElem? (i := 35) (by decide +kernel), List.mem_of_getElem? (i := 1187) (by decide +kernel), List.mem_of_getElem? (i := 1188) (by decide +kernel)⟩
theorem lw_p46 : lw_okq (⟨"TrialGarden$Reader", "readReturn", "()V"⟩, 16) := ⟨⟨by decide +kernel, by decide +kernel⟩, List.mem_of_getElem? (i := 35) (by decide +kernel), List.mem_of_getElem? (i := 1191) (by decide +kernel), List.mem_of_getElem? (i := 1192) (by decide +kernel)⟩
theorem lw_p47 : lw_okq (⟨"TrialGarden$Reader", "readThrow", "()V"⟩, 16) := ⟨⟨by decide +kernel, by decide +kernel⟩, List.mem_of_getElem? (i := 35) (by decide +kernel), List.mem_of_getElem? (i := 1195) (by decide +kernel), List.mem_of_getElem? (i := 1196) (by decide +kernel)⟩
def lw_privs_3 : List (MethodName × Nat) := [(⟨"TrialGarden$Reader", "readMemberHead", "()V"⟩, 16), (⟨"TrialGarden$Reader", "beginTelling", "(JII)V"⟩, 16), (⟨"TrialGarden$Reader", "readParam", "()V"⟩, 16), (⟨"TrialGarden$Reader", "atMark", "()Z"⟩, 16), (⟨"TrialGarden$Reader", "readMark", "()V"⟩, 16), (⟨"TrialGarden$Reader", "readThrownWord", "()Z"⟩, 16), (⟨"TrialGarden$Reader", "readOnly", "()V"⟩, 16), (⟨"TrialGarden$Reader", "openBody", "()V"⟩, 16), (⟨"TrialGarden$Reader", "openBlock", "(III)V"⟩, 16), (⟨"TrialGarden$Reader", "readStatement", "()V"⟩, 16), (⟨"TrialGarden$Reader", "closeBlock", "()V"⟩, 16), (⟨"TrialGarden$Reader", "refuseStatement", "()V"⟩, 16), (⟨"TrialGarden$Reader", "readLet", "()V"⟩, 16), (⟨"TrialGarden$Reader", "readTest", "(I)V"⟩, 16), (⟨"TrialGarden$Reader", "readReturn", "()V"⟩, 16), (⟨"TrialGarden$Reader", "readThrow", "()V"⟩, 16)]
theorem lw_r3 : ∀ q ∈ lw_privs_3, lw_okq q := List.forall_mem_cons.mpr ⟨lw_p32, List.forall_mem_cons.mpr ⟨lw_p33, List.forall_mem_cons.mpr ⟨lw_p34, List.forall_mem_cons.mpr ⟨lw_p35, List.forall_mem_cons.mpr ⟨lw_p36, List.forall_mem_cons.mpr ⟨lw_p37, List.forall_mem_cons.mpr ⟨lw_p38, List.forall_mem_cons.mpr ⟨lw_p39, List.forall_mem_cons.mpr ⟨lw_p40, List.forall_mem_cons.mpr ⟨lw_p41, List.forall_mem_cons.mpr ⟨lw_p42, List.forall_mem_cons.mpr ⟨lw_p43, List.forall_mem_cons.mpr ⟨lw_p44, List.forall_mem_cons.mpr ⟨lw_p45, List.forall_mem_cons.mpr ⟨lw_p46, List.forall_mem_cons.mpr ⟨lw_p47, fun _ h => absurd h List.not_mem_nil⟩⟩⟩⟩⟩⟩⟩⟩⟩⟩⟩⟩⟩⟩⟩⟩
theorem lw_p48 : lw_okq (⟨"TrialGarden$Reader", "findAbove", "()Z"⟩, 16) := ⟨⟨by decide +kernel, by decide +kernel⟩, List.mem_of_getElem? (i := 35) (by decide +kernel), List.mem_of_getElem? (i := 1203) (by decide +kernel), List.mem_of_getElem? (i := 1204) (by decide +kernel)⟩
theorem lw_p49 : lw_okq (⟨"TrialGarden$Reader", "findNamed", "()Z"⟩, 16) := ⟨⟨by decide +kernel, by decide +kernel⟩, List.mem_of_getElem? (i := 35) (by decide +kernel), List.mem_of_getElem? (i := 1208) (by decide +kernel), List.mem_of_getElem? (i := 1209) (by decide +kernel)⟩
theorem lw_p50 : lw_okq (⟨"TrialGarden$Reader", "readArguments", "()V"⟩, 16) := ⟨⟨by decide +kernel, by decide +kernel⟩, List.mem_of_getElem? (i := 35) (by decide +kernel), List.mem_of_getElem? (i := 1213) (by decide +kernel), List.mem_of_getElem? (i := 1214) (by decide +kernel)⟩
theorem lw_p51 : lw_okq (⟨"TrialGarden$Reader", "readAssignment", "()V"⟩, 16) := ⟨⟨by decide +kernel, by decide +kernel⟩, List.mem_of_getElem? (i := 35) (by decide +kernel), List.mem_of_getElem? (i := 1217) (by decide +kernel), List.mem_of_getElem? (i := 1218) (by decide +kernel)⟩
theorem lw_p52 : lw_okq (⟨"TrialGarden$Row", "setTo", "(IIIIII)V"⟩, 6) := ⟨⟨by decide +kernel, by decide +kernel⟩, List.mem_of_getElem? (i := 613) (by decide +kernel), List.mem_of_getElem? (i := 1305) (by decide +kernel), List.mem_of_getElem? (i := 1306) (by decide +kernel)⟩
theorem lw_p53 : lw_okq (⟨"TrialGarden$Row", "tellingOf", "(LTrialGarden$Text;II)LTrialGarden$Telling;"⟩, 6) := ⟨⟨by decide +kernel, by decide +kernel⟩, List.mem_of_getElem? (i := 613) (by decide +kernel), List.mem_of_getElem? (i := 1318) (by decide +kernel), List.mem_of_getElem? (i := 1319) (by decide +kernel)⟩
theorem lw_p54 : lw_okq (⟨"TrialGarden$Trial", "runThrough", "(LTrialGarden$Row;LTrialGarden$Run;)V"⟩, 10) := ⟨⟨by decide +kernel, by decide +kernel⟩, List.mem_of_getElem? (i := 543) (by decide +kernel), List.mem_of_getElem? (i := 1346) (by decide +kernel), List.mem_of_getElem? (i := 1347) (by decide +kernel)⟩
theorem lw_p55 : lw_okq (⟨"TrialGarden$Trial", "doMake", "(LTrialGarden$Row;LTrialGarden$Run;I)V"⟩, 10) := ⟨⟨by decide +kernel, by decide +kernel⟩, List.mem_of_getElem? (i := 543) (by decide +kernel), List.mem_of_getElem? (i := 1350) (by decide +kernel), List.mem_of_getElem? (i := 1351) (by decide +kernel)⟩
theorem lw_p56 : lw_okq (⟨"TrialGarden$Trial", "askKept", "(LTrialGarden$Run;I)V"⟩, 10) := ⟨⟨by decide +kernel, by decide +kernel⟩, List.mem_of_getElem? (i := 543) (by decide +kernel), List.mem_of_getElem? (i := 1359) (by decide +kernel), List.mem_of_getElem? (i := 1360) (by decide +kernel)⟩
theorem lw_p57 : lw_okq (⟨"TrialGarden$Trial", "holds", "(LTrialGarden$Run;II)Z"⟩, 10) := ⟨⟨by decide +kernel, by decide +kernel⟩, List.mem_of_getElem? (i := 543) (by decide +kernel), List.mem_of_getElem? (i := 1367) (by decide +kernel), List.mem_of_getElem? (i := 1368) (by decide +kernel)⟩
theorem lw_p58 : lw_okq (⟨"TrialGarden$Machine", "begin", "()V"⟩, 18) := ⟨⟨by decide +kernel, by decide +kernel⟩, List.mem_of_getElem? (i := 549) (by decide +kernel), List.mem_of_getElem? (i := 1379) (by decide +kernel), List.mem_of_getElem? (i := 1380) (by decide +kernel)⟩
theorem lw_p59 : lw_okq (⟨"TrialGarden$Machine", "fetch", "(II)I"⟩, 18) := ⟨⟨by decide +kernel, by decide +kernel⟩, List.mem_of_getElem? (i := 549) (by decide +kernel), List.mem_of_getElem? (i := 1384) (by decide +kernel), List.mem_of_getElem? (i := 1385) (by decide +kernel)⟩
theorem lw_p60 : lw_okq (⟨"TrialGarden$Machine", "push", "(I)V"⟩, 18) := ⟨⟨by decide +kernel, by decide +kernel⟩, List.mem_of_getElem? (i := 549) (by decide +kernel), List.mem_of_getElem? (i := 1388) (by decide +kernel), List.mem_of_getElem? (i := 1389) (by decide +kernel)⟩
theorem lw_p61 : lw_okq (⟨"TrialGarden$Machine", "pop", "()I"⟩, 18) := ⟨⟨by decide +kernel, by decide +kernel⟩, List.mem_of_getElem? (i := 549) (by decide +kernel), List.mem_of_getElem? (i := 1392) (by decide +kernel), List.mem_of_getElem? (i := 1393) (by decide +kernel)⟩
theorem lw_p62 : lw_okq (⟨"TrialGarden$Machine", "turn", "(III)I"⟩, 18) := ⟨⟨by decide +kernel, by decide +kernel⟩, List.mem_of_getElem? (i := 549) (by decide +kernel), List.mem_of_getElem? (i := 1396) (by decide +kernel), List.mem_of_getElem? (i := 1397) (by decide +kernel)⟩
theorem lw_p63 : lw_okq (⟨"TrialGarden$Machine", "act", "(II)V"⟩, 18) := ⟨⟨by decide +kernel, by decide +kernel⟩, List.mem_of_getElem? (i := 549) (by decide +kernel), List.mem_of_getElem? (i := 1401) (by decide +kernel), List.mem_of_getElem? (i := 1402) (by decide +kernel)⟩
def lw_privs_4 : List (MethodName × Nat) := [(⟨"TrialGarden$Reader", "findAbove", "()Z"⟩, 16), (⟨"TrialGarden$Reader", "findNamed", "()Z"⟩, 16), (⟨"TrialGarden$Reader", "readArguments", "()V"⟩, 16), (⟨"TrialGarden$Reader", "readAssignment", "()V"⟩, 16), (⟨"TrialGarden$Row", "setTo", "(IIIIII)V"⟩, 6), (⟨"TrialGarden$Row", "tellingOf", "(LTrialGarden$Text;II)LTrialGarden$Telling;"⟩, 6), (⟨"TrialGarden$Trial", "runThrough", "(LTrialGarden$Row;LTrialGarden$Run;)V"⟩, 10), (⟨"TrialGarden$Trial", "doMake", "(LTrialGarden$Row;LTrialGarden$Run;I)V"⟩, 10), (⟨"TrialGarden$Trial", "askKept", "(LTrialGarden$Run;I)V"⟩, 10), (⟨"TrialGarden$Trial", "holds", "(LTrialGarden$Run;II)Z"⟩, 10), (⟨"TrialGarden$Machine", "begin", "()V"⟩, 18), (⟨"TrialGarden$Machine", "fetch", "(II)I"⟩, 18), (⟨"TrialGarden$Machine", "push", "(I)V"⟩, 18), (⟨"TrialGarden$Machine", "pop", "()I"⟩, 18), (⟨"TrialGarden$Machine", "turn", "(III)I"⟩, 18), (⟨"TrialGarden$Machine", "act", "(II)V"⟩, 18)]
theorem lw_r4 : ∀ q ∈ lw_privs_4, lw_okq q := List.forall_mem_cons.mpr ⟨lw_p48, List.forall_mem_cons.mpr ⟨lw_p49, List.forall_mem_cons.mpr ⟨lw_p50, List.forall_mem_cons.mpr ⟨lw_p51, List.forall_mem_cons.mpr ⟨lw_p52, List.forall_mem_cons.mpr ⟨lw_p53, List.forall_mem_cons.mpr ⟨lw_p54, List.forall_mem_cons.mpr ⟨lw_p55, List.forall_mem_cons.mpr ⟨lw_p56, List.forall_mem_cons.mpr ⟨lw_p57, List.forall_mem_cons.mpr ⟨lw_p58, List.forall_mem_cons.mpr ⟨lw_p59, List.forall_mem_cons.mpr ⟨lw_p60, List.forall_mem_cons.mpr ⟨lw_p61, List.forall_mem_cons.mpr ⟨lw_p62, List.forall_mem_cons.mpr ⟨lw_p63, fun _ h => absurd h List.not_mem_nil⟩⟩⟩⟩⟩⟩⟩⟩⟩⟩⟩⟩⟩⟩⟩⟩
theorem lw_p64 : lw_okq (⟨"TrialGarden$Machine", "enter", "(I)V"⟩, 18) := ⟨⟨by decide +kernel, by decide +kernel⟩, List.mem_of_getElem? (i := 549) (by decide +kernel), List.mem_of_getElem? (i := 1405) (by decide +kernel), List.mem_of_getElem? (i := 1406) (by decide +kernel)⟩
theorem lw_p65 : lw_okq (⟨"TrialGarden$Machine", "leave", "(I)V"⟩, 18) := ⟨⟨by decide +kernel, by decide +kernel⟩, List.mem_of_getElem? (i := 549) (by decide +kernel), List.mem_of_getElem? (i := 1409) (by decide +kernel), List.mem_of_getElem? (i := 1410) (by decide +kernel)⟩
theorem lw_p66 : lw_okq (⟨"TrialGarden$Machine", "use", "(III)V"⟩, 18) := ⟨⟨by decide +kernel, by decide +kernel⟩, List.mem_of_getElem? (i := 549) (by decide +kernel), List.mem_of_getElem? (i := 1413) (by decide +kernel), List.mem_of_getElem? (i := 1414) (by decide +kernel)⟩
theorem lw_p67 : lw_okq (⟨"TrialGarden$Machine", "setCell", "(III)V"⟩, 18) := ⟨⟨by decide +kernel, by decide +kernel⟩, List.mem_of_getElem? (i := 549) (by decide +kernel), List.mem_of_getElem? (i := 1417) (by decide +kernel), List.mem_of_getElem? (i := 1418) (by decide +kernel)⟩
theorem lw_p68 : lw_okq (⟨"TrialGarden$Machine", "reckon", "(III)I"⟩, 18) := ⟨⟨by decide +kernel, by decide +kernel⟩, List.mem_of_getElem? (i := 549) (by decide +kernel), List.mem_of_getElem? (i := 1421) (by decide +kernel), List.mem_of_getElem? (i := 1422) (by decide +kernel)⟩
theorem lw_p69 : lw_okq (⟨"TrialGarden$Trial", "doCall", "(LTrialGarden$Row;LTrialGarden$Run;I)V"⟩, 10) := ⟨⟨by decide +kernel, by decide +kernel⟩, List.mem_of_getElem? (i := 543) (by decide +kernel), List.mem_of_getElem? (i := 1430) (by decide +kernel), List.mem_of_getElem? (i := 1431) (by decide +kernel)⟩
theorem lw_p70 : lw_okq (⟨"TrialGarden$Trial", "askNeeds", "(LTrialGarden$Run;II)V"⟩, 10) := ⟨⟨by decide +kernel, by decide +kernel⟩, List.mem_of_getElem? (i := 543) (by decide +kernel), List.mem_of_getElem? (i := 1436) (by decide +kernel), List.mem_of_getElem? (i := 1437) (by decide +kernel)⟩
theorem lw_p71 : lw_okq (⟨"TrialGarden$Trial", "lastMark", "(I)I"⟩, 10) := ⟨⟨by decide +kernel, by decide +kernel⟩, List.mem_of_getElem? (i := 543) (by decide +kernel), List.mem_of_getElem? (i := 1440) (by decide +kernel), List.mem_of_getElem? (i := 1441) (by decide +kernel)⟩
theorem lw_p72 : lw_okq (⟨"TrialGarden$Trial", "upwards", "(I)I"⟩, 10) := ⟨⟨by decide +kernel, by decide +kernel⟩, List.mem_of_getElem? (i := 543) (by decide +kernel), List.mem_of_getElem? (i := 1445) (by decide +kernel), List.mem_of_getElem? (i := 1446) (by decide +kernel)⟩
theorem lw_p73 : lw_okq (⟨"TrialGarden$Trial", "noteCall", "(LTrialGarden$Run;I)V"⟩, 10) := ⟨⟨by decide +kernel, by decide +kernel⟩, List.mem_of_getElem? (i := 543) (by decide +kernel), List.mem_of_getElem? (i := 1453) (by decide +kernel), List.mem_of_getElem? (i := 1454) (by decide +kernel)⟩
theorem lw_p74 : lw_okq (⟨"TrialGarden$Trial", "askThrows", "(LTrialGarden$Run;II)V"⟩, 10) := ⟨⟨by decide +kernel, by decide +kernel⟩, List.mem_of_getElem? (i := 543) (by decide +kernel), List.mem_of_getElem? (i := 1457) (by decide +kernel), List.mem_of_getElem? (i := 1458) (by decide +kernel)⟩
theorem lw_p75 : lw_okq (⟨"TrialGarden$Trial", "findChanges", "(LTrialGarden$Run;II)V"⟩, 10) := ⟨⟨by decide +kernel, by decide +kernel⟩, List.mem_of_getElem? (i := 543) (by decide +kernel), List.mem_of_getElem? (i := 1461) (by decide +kernel), List.mem_of_getElem? (i := 1462) (by decide +kernel)⟩
theorem lw_p76 : lw_okq (⟨"TrialGarden$Trial", "fieldsThatMayChange", "(I)I"⟩, 10) := ⟨⟨by decide +kernel, by decide +kernel⟩, List.mem_of_getElem? (i := 543) (by decide +kernel), List.mem_of_getElem? (i := 1473) (by decide +kernel), List.mem_of_getElem? (i := 1474) (by decide +kernel)⟩
theorem lw_p77 : lw_okq (⟨"TrialGarden$Trial", "askGives", "(LTrialGarden$Run;II)V"⟩, 10) := ⟨⟨by decide +kernel, by decide +kernel⟩, List.mem_of_getElem? (i := 543) (by decide +kernel), List.mem_of_getElem? (i := 1477) (by decide +kernel), List.mem_of_getElem? (i := 1478) (by decide +kernel)⟩
theorem lw_p78 : lw_okq (⟨"TrialGarden$Trial", "askModel", "(LTrialGarden$Run;ILTrialGarden$Telling;[I)V"⟩, 10) := ⟨⟨by decide +kernel, by decide +kernel⟩, List.mem_of_getElem? (i := 543) (by decide +kernel), List.mem_of_getElem? (i := 1481) (by decide +kernel), List.mem_of_getElem? (i := 1482) (by decide +kernel)⟩
theorem lw_p79 : lw_okq (⟨"TrialGarden$Trial", "drawRow", "(II)V"⟩, 10) := ⟨⟨by decide +kernel, by decide +kernel⟩, List.mem_of_getElem? (i := 543) (by decide +kernel), List.mem_of_getElem? (i := 1494) (by decide +kernel), List.mem_of_getElem? (i := 1495) (by decide +kernel)⟩
def lw_privs_5 : List (MethodName × Nat) := [(⟨"TrialGarden$Machine", "enter", "(I)V"⟩, 18), (⟨"TrialGarden$Machine", "leave", "(I)V"⟩, 18), (⟨"TrialGarden$Machine", "use", "(III)V"⟩, 18), (⟨"TrialGarden$Machine", "setCell", "(III)V"⟩, 18), (⟨"TrialGarden$Machine", "reckon", "(III)I"⟩, 18), (⟨"TrialGarden$Trial", "doCall", "(LTrialGarden$Row;LTrialGarden$Run;I)V"⟩, 10), (⟨"TrialGarden$Trial", "askNeeds", "(LTrialGarden$Run;II)V"⟩, 10), (⟨"TrialGarden$Trial", "lastMark", "(I)I"⟩, 10), (⟨"TrialGarden$Trial", "upwards", "(I)I"⟩, 10), (⟨"TrialGarden$Trial", "noteCall", "(LTrialGarden$Run;I)V"⟩, 10), (⟨"TrialGarden$Trial", "askThrows", "(LTrialGarden$Run;II)V"⟩, 10), (⟨"TrialGarden$Trial", "findChanges", "(LTrialGarden$Run;II)V"⟩, 10), (⟨"TrialGarden$Trial", "fieldsThatMayChange", "(I)I"⟩, 10), (⟨"TrialGarden$Trial", "askGives", "(LTrialGarden$Run;II)V"⟩, 10), (⟨"TrialGarden$Trial", "askModel", "(LTrialGarden$Run;ILTrialGarden$Telling;[I)V"⟩, 10), (⟨"TrialGarden$Trial", "drawRow", "(II)V"⟩, 10)]
theorem lw_r5 : ∀ q ∈ lw_privs_5, lw_okq q := List.forall_mem_cons.mpr ⟨lw_p64, List.forall_mem_cons.mpr ⟨lw_p65, List.forall_mem_cons.mpr ⟨lw_p66, List.forall_mem_cons.mpr ⟨lw_p67, List.forall_mem_cons.mpr ⟨lw_p68, List.forall_mem_cons.mpr ⟨lw_p69, List.forall_mem_cons.mpr ⟨lw_p70, List.forall_mem_cons.mpr ⟨lw_p71, List.forall_mem_cons.mpr ⟨lw_p72, List.forall_mem_cons.mpr ⟨lw_p73, List.forall_mem_cons.mpr ⟨lw_p74, List.forall_mem_cons.mpr ⟨lw_p75, List.forall_mem_cons.mpr ⟨lw_p76, List.forall_mem_cons.mpr ⟨lw_p77, List.forall_mem_cons.mpr ⟨lw_p78, List.forall_mem_cons.mpr ⟨lw_p79, fun _ h => absurd h List.not_mem_nil⟩⟩⟩⟩⟩⟩⟩⟩⟩⟩⟩⟩⟩⟩⟩⟩
theorem lw_p80 : lw_okq (⟨"TrialGarden$Trial", "drawNext", "()I"⟩, 10) := ⟨⟨by decide +kernel, by decide +kernel⟩, List.mem_of_getElem? (i := 543) (by decide +kernel), List.mem_of_getElem? (i := 1498) (by decide +kernel), List.mem_of_getElem? (i := 1499) (by decide +kernel)⟩
theorem lw_p81 : lw_okq (⟨"TrialGarden$Trial", "drawCall", "(LTrialGarden$Toy;)V"⟩, 10) := ⟨⟨by decide +kernel, by decide +kernel⟩, List.mem_of_getElem? (i := 543) (by decide +kernel), List.mem_of_getElem? (i := 1503) (by decide +kernel), List.mem_of_getElem? (i := 1504) (by decide +kernel)⟩
theorem lw_p82 : lw_okq (⟨"TrialGarden$Trial", "drawArgument", "(LTrialGarden$Telling;I)I"⟩, 10) := ⟨⟨by decide +kernel, by decide +kernel⟩, List.mem_of_getElem? (i := 543) (by decide +kernel), List.mem_of_getElem? (i := 1508) (by decide +kernel), List.mem_of_getElem? (i := 1509) (by decide +kernel)⟩
theorem lw_p83 : lw_okq (⟨"TrialGarden$Trial", "countSpare", "()V"⟩, 10) := ⟨⟨by decide +kernel, by decide +kernel⟩, List.mem_of_getElem? (i := 543) (by decide +kernel), List.mem_of_getElem? (i := 1519) (by decide +kernel), List.mem_of_getElem? (i := 1520) (by decide +kernel)⟩
theorem lw_p84 : lw_okq (⟨"TrialGarden$Trial", "tellOfSpare", "()V"⟩, 10) := ⟨⟨by decide +kernel, by decide +kernel⟩, List.mem_of_getElem? (i := 543) (by decide +kernel), List.mem_of_getElem? (i := 1523) (by decide +kernel), List.mem_of_getElem? (i := 1524) (by decide +kernel)⟩
theorem lw_p85 : lw_okq (⟨"TrialGarden$Row", "shorten", "(I)V"⟩, 6) := ⟨⟨by decide +kernel, by decide +kernel⟩, List.mem_of_getElem? (i := 613) (by decide +kernel), List.mem_of_getElem? (i := 1539) (by decide +kernel), List.mem_of_getElem? (i := 1540) (by decide +kernel)⟩
theorem lw_p86 : lw_okq (⟨"TrialGarden$Row", "lowerArguments", "(LTrialGarden$Text;II)V"⟩, 6) := ⟨⟨by decide +kernel, by decide +kernel⟩, List.mem_of_getElem? (i := 613) (by decide +kernel), List.mem_of_getElem? (i := 1544) (by decide +kernel), List.mem_of_getElem? (i := 1545) (by decide +kernel)⟩
theorem lw_p87 : lw_okq (⟨"TrialGarden$Row", "changeLast", "(LTrialGarden$Text;II)Z"⟩, 6) := ⟨⟨by decide +kernel, by decide +kernel⟩, List.mem_of_getElem? (i := 613) (by decide +kernel), List.mem_of_getElem? (i := 1561) (by decide +kernel), List.mem_of_getElem? (i := 1562) (by decide +kernel)⟩
theorem lw_p88 : lw_okq (⟨"TrialGarden$Row", "leaveOut", "(LTrialGarden$Row;I)Z"⟩, 6) := ⟨⟨by decide +kernel, by decide +kernel⟩, List.mem_of_getElem? (i := 613) (by decide +kernel), List.mem_of_getElem? (i := 1594) (by decide +kernel), List.mem_of_getElem? (i := 1595) (by decide +kernel)⟩
theorem lw_p89 : lw_okq (⟨"TrialGarden$Row", "lowerOne", "(LTrialGarden$Text;LTrialGarden$Row;IIZ)Z"⟩, 6) := ⟨⟨by decide +kernel, by decide +kernel⟩, List.mem_of_getElem? (i := 613) (by decide +kernel), List.mem_of_getElem? (i := 1599) (by decide +kernel), List.mem_of_getElem? (i := 1600) (by decide +kernel)⟩
theorem lw_p90 : lw_okq (⟨"java/lang/Throwable", "fillInStackTrace", "(I)Ljava/lang/Throwable;"⟩, 6) := ⟨⟨by decide +kernel, by decide +kernel⟩, List.mem_of_getElem? (i := 1692) (by decide +kernel), List.mem_of_getElem? (i := 1690) (by decide +kernel), List.mem_of_getElem? (i := 1691) (by decide +kernel)⟩
theorem lw_p91 : lw_okq (⟨"TrialGardenModel", "nothingTold", "()V"⟩, 67) := ⟨⟨by decide +kernel, by decide +kernel⟩, List.mem_of_getElem? (i := 1650) (by decide +kernel), List.mem_of_getElem? (i := 1962) (by decide +kernel), List.mem_of_getElem? (i := 1963) (by decide +kernel)⟩
theorem lw_p92 : lw_okq (⟨"TrialGardenModel", "scan", "()V"⟩, 67) := ⟨⟨by decide +kernel, by decide +kernel⟩, List.mem_of_getElem? (i := 1650) (by decide +kernel), List.mem_of_getElem? (i := 2180) (by decide +kernel), List.mem_of_getElem? (i := 2181) (by decide +kernel)⟩
theorem lw_p93 : lw_okq (⟨"TrialGardenModel", "see", "(I)I"⟩, 67) := ⟨⟨by decide +kernel, by decide +kernel⟩, List.mem_of_getElem? (i := 1650) (by decide +kernel), List.mem_of_getElem? (i := 2184) (by decide +kernel), List.mem_of_getElem? (i := 2185) (by decide +kernel)⟩
theorem lw_p94 : lw_okq (⟨"TrialGardenModel", "keyAt", "(II)I"⟩, 67) := ⟨⟨by decide +kernel, by decide +kernel⟩, List.mem_of_getElem? (i := 1650) (by decide +kernel), List.mem_of_getElem? (i := 2194) (by decide +kernel), List.mem_of_getElem? (i := 2195) (by decide +kernel)⟩
theorem lw_p95 : lw_okq (⟨"TrialGardenModel", "letters", "(II)J"⟩, 67) := ⟨⟨by decide +kernel, by decide +kernel⟩, List.mem_of_getElem? (i := 1650) (by decide +kernel), List.mem_of_getElem? (i := 2201) (by decide +kernel), List.mem_of_getElem? (i := 2202) (by decide +kernel)⟩
def lw_privs_6 : List (MethodName × Nat) := [(⟨"TrialGarden$Trial", "drawNext", "()I"⟩, 10), (⟨"TrialGarden$Trial", "drawCall", "(LTrialGarden$Toy;)V"⟩, 10), (⟨"TrialGarden$Trial", "drawArgument", "(LTrialGarden$Telling;I)I"⟩, 10), (⟨"TrialGarden$Trial", "countSpare", "()V"⟩, 10), (⟨"TrialGarden$Trial", "tellOfSpare", "()V"⟩, 10), (⟨"TrialGarden$Row", "shorten", "(I)V"⟩, 6), (⟨"TrialGarden$Row", "lowerArguments", "(LTrialGarden$Text;II)V"⟩, 6), (⟨"TrialGarden$Row", "changeLast", "(LTrialGarden$Text;II)Z"⟩, 6), (⟨"TrialGarden$Row", "leaveOut", "(LTrialGarden$Row;I)Z"⟩, 6), (⟨"TrialGarden$Row", "lowerOne", "(LTrialGarden$Text;LTrialGarden$Row;IIZ)Z"⟩, 6), (⟨"java/lang/Throwable", "fillInStackTrace", "(I)Ljava/lang/Throwable;"⟩, 6), (⟨"TrialGardenModel", "nothingTold", "()V"⟩, 67), (⟨"TrialGardenModel", "scan", "()V"⟩, 67), (⟨"TrialGardenModel", "see", "(I)I"⟩, 67), (⟨"TrialGardenModel", "keyAt", "(II)I"⟩, 67), (⟨"TrialGardenModel", "letters", "(II)J"⟩, 67)]
theorem lw_r6 : ∀ q ∈ lw_privs_6, lw_okq q := List.forall_mem_cons.mpr ⟨lw_p80, List.forall_mem_cons.mpr ⟨lw_p81, List.forall_mem_cons.mpr ⟨lw_p82, List.forall_mem_cons.mpr ⟨lw_p83, List.forall_mem_cons.mpr ⟨lw_p84, List.forall_mem_cons.mpr ⟨lw_p85, List.forall_mem_cons.mpr ⟨lw_p86, List.forall_mem_cons.mpr ⟨lw_p87, List.forall_mem_cons.mpr ⟨lw_p88, List.forall_mem_cons.mpr ⟨lw_p89, List.forall_mem_cons.mpr ⟨lw_p90, List.forall_mem_cons.mpr ⟨lw_p91, List.forall_mem_cons.mpr ⟨lw_p92, List.forall_mem_cons.mpr ⟨lw_p93, List.forall_mem_cons.mpr ⟨lw_p94, List.forall_mem_cons.mpr ⟨lw_p95, fun _ h => absurd h List.not_mem_nil⟩⟩⟩⟩⟩⟩⟩⟩⟩⟩⟩⟩⟩⟩⟩⟩
theorem lw_p96 : lw_okq (⟨"TrialGardenModel", "scanSign", "(II)V"⟩, 67) := ⟨⟨by decide +kernel, by decide +kernel⟩, List.mem_of_getElem? (i := 1650) (by decide +kernel), List.mem_of_getElem? (i := 2207) (by decide +kernel), List.mem_of_getElem? (i := 2208) (by decide +kernel)⟩
theorem lw_p97 : lw_okq (⟨"TrialGardenModel", "readClass", "()V"⟩, 67) := ⟨⟨by decide +kernel, by decide +kernel⟩, List.mem_of_getElem? (i := 1650) (by decide +kernel), List.mem_of_getElem? (i := 2211) (by decide +kernel), List.mem_of_getElem? (i := 2212) (by decide +kernel)⟩
theorem lw_p98 : lw_okq (⟨"TrialGardenModel", "word", "(I)V"⟩, 67) := ⟨⟨by decide +kernel, by decide +kernel⟩, List.mem_of_getElem? (i := 1650) (by decide +kernel), List.mem_of_getElem? (i := 2215) (by decide +kernel), List.mem_of_getElem? (i := 2216) (by decide +kernel)⟩
theorem lw_p99 : lw_okq (⟨"TrialGardenModel", "isWord", "(I)Z"⟩, 67) := ⟨⟨by decide +kernel, by decide +kernel⟩, List.mem_of_getElem? (i := 1650) (by decide +kernel), List.mem_of_getElem? (i := 2219) (by decide +kernel), List.mem_of_getElem? (i := 2220) (by decide +kernel)⟩
theorem lw_p100 : lw_okq (⟨"TrialGardenModel", "need", "(ZII)V"⟩, 67) := ⟨⟨by decide +kernel, by decide +kernel⟩, List.mem_of_getElem? (i := 1650) (by decide +kernel), List.mem_of_getElem? (i := 2223) (by decide +kernel), List.mem_of_getElem? (i := 2224) (by decide +kernel)⟩
theorem lw_p101 : lw_okq (⟨"TrialGardenModel", "wrong", "(II)V"⟩, 67) := ⟨⟨by decide +kernel, by decide +kernel⟩, List.mem_of_getElem? (i := 1650) (by decide +kernel), List.mem_of_getElem? (i := 2227) (by decide +kernel), List.mem_of_getElem? (i := 2228) (by decide +kernel)⟩
theorem lw_p102 : lw_okq (⟨"TrialGardenModel", "next", "()V"⟩, 67) := ⟨⟨by decide +kernel, by decide +kernel⟩, List.mem_of_getElem? (i := 1650) (by decide +kernel), List.mem_of_getElem? (i := 2231) (by decide +kernel), List.mem_of_getElem? (i := 2232) (by decide +kernel)⟩
theorem lw_p103 : lw_okq (⟨"TrialGardenModel", "room", "()V"⟩, 67) := ⟨⟨by decide +kernel, by decide +kernel⟩, List.mem_of_getElem? (i := 1650) (by decide +kernel), List.mem_of_getElem? (i := 2235) (by decide +kernel), List.mem_of_getElem? (i := 2236) (by decide +kernel)⟩
theorem lw_p104 : lw_okq (⟨"TrialGardenModel", "classOf", "(JJ)I"⟩, 67) := ⟨⟨by decide +kernel, by decide +kernel⟩, List.mem_of_getElem? (i := 1650) (by decide +kernel), List.mem_of_getElem? (i := 2239) (by decide +kernel), List.mem_of_getElem? (i := 2240) (by decide +kernel)⟩
theorem lw_p105 : lw_okq (⟨"TrialGardenModel", "takes", "(I)Z"⟩, 67) := ⟨⟨by decide +kernel, by decide +kernel⟩, List.mem_of_getElem? (i := 1650) (by decide +kernel), List.mem_of_getElem? (i := 2243) (by decide +kernel), List.mem_of_getElem? (i := 2244) (by decide +kernel)⟩
theorem lw_p106 : lw_okq (⟨"TrialGardenModel", "inherit", "(I)V"⟩, 67) := ⟨⟨by decide +kernel, by decide +kernel⟩, List.mem_of_getElem? (i := 1650) (by decide +kernel), List.mem_of_getElem? (i := 2247) (by decide +kernel), List.mem_of_getElem? (i := 2248) (by decide +kernel)⟩
theorem lw_p107 : lw_okq (⟨"TrialGardenModel", "sign", "(I)V"⟩, 67) := ⟨⟨by decide +kernel, by decide +kernel⟩, List.mem_of_getElem? (i := 1650) (by decide +kernel), List.mem_of_getElem? (i := 2251) (by decide +kernel), List.mem_of_getElem? (i := 2252) (by decide +kernel)⟩
theorem lw_p108 : lw_okq (⟨"TrialGardenModel", "isSign", "(I)Z"⟩, 67) := ⟨⟨by decide +kernel, by decide +kernel⟩, List.mem_of_getElem? (i := 1650) (by decide +kernel), List.mem_of_getElem? (i := 2255) (by decide +kernel), List.mem_of_getElem? (i := 2256) (by decide +kernel)⟩
theorem lw_p109 : lw_okq (⟨"TrialGardenModel", "readField", "()V"⟩, 67) := ⟨⟨by decide +kernel, by decide +kernel⟩, List.mem_of_getElem? (i := 1650) (by decide +kernel), List.mem_of_getElem? (i := 2259) (by decide +kernel), List.mem_of_getElem? (i := 2260) (by decide +kernel)⟩
theorem lw_p110 : lw_okq (⟨"TrialGardenModel", "numHere", "()I"⟩, 67) := ⟨⟨by decide +kernel, by decide +kernel⟩, List.mem_of_getElem? (i := 1650) (by decide +kernel), List.mem_of_getElem? (i := 2272) (by decide +kernel), List.mem_of_getElem? (i := 2273) (by decide +kernel)⟩
theorem lw_p111 : lw_okq (⟨"TrialGardenModel", "readKept", "()V"⟩, 67) := ⟨⟨by decide +kernel, by decide +kernel⟩, List.mem_of_getElem? (i := 1650) (by decide +kernel), List.mem_of_getElem? (i := 2276) (by decide +kernel), List.mem_of_getElem? (i := 2277) (by decide +kernel)⟩
def lw_privs_7 : List (MethodName × Nat) := [(⟨"TrialGardenModel", "scanSign", "(II)V"⟩, 67), (⟨"TrialGardenModel", "readClass", "()V"⟩, 67), (⟨"TrialGardenModel", "word", "(I)V"⟩, 67), (⟨"TrialGardenModel", "isWord", "(I)Z"⟩, 67), (⟨"TrialGardenModel", "need", "(ZII)V"⟩, 67), (⟨"TrialGardenModel", "wrong", "(II)V"⟩, 67), (⟨"TrialGardenModel", "next", "()V"⟩, 67), (⟨"TrialGardenModel", "room", "()V"⟩, 67), (⟨"TrialGardenModel", "classOf", "(JJ)I"⟩, 67), (⟨"TrialGardenModel", "takes", "(I)Z"⟩, 67), (⟨"TrialGardenModel", "inherit", "(I)V"⟩, 67), (⟨"TrialGardenModel", "sign", "(I)V"⟩, 67), (⟨"TrialGardenModel", "isSign", "(I)Z"⟩, 67), (⟨"TrialGardenModel", "readField", "()V"⟩, 67), (⟨"TrialGardenModel", "numHere", "()I"⟩, 67), (⟨"TrialGardenModel", "readKept", "()V"⟩, 67)]
theorem lw_r7 : ∀ q ∈ lw_privs_7, lw_okq q := List.forall_mem_cons.mpr ⟨lw_p96, List.forall_mem_cons.mpr ⟨lw_p97, List.forall_mem_cons.mpr ⟨lw_p98, List.forall_mem_cons.mpr ⟨lw_p99, List.forall_mem_cons.mpr ⟨lw_p100, List.forall_mem_cons.mpr ⟨lw_p101, List.forall_mem_cons.mpr ⟨lw_p102, List.forall_mem_cons.mpr ⟨lw_p103, List.forall_mem_cons.mpr ⟨lw_p104, List.forall_mem_cons.mpr ⟨lw_p105, List.forall_mem_cons.mpr ⟨lw_p106, List.forall_mem_cons.mpr ⟨lw_p107, List.forall_mem_cons.mpr ⟨lw_p108, List.forall_mem_cons.mpr ⟨lw_p109, List.forall_mem_cons.mpr ⟨lw_p110, List.forall_mem_cons.mpr ⟨lw_p111, fun _ h => absurd h List.not_mem_nil⟩⟩⟩⟩⟩⟩⟩⟩⟩⟩⟩⟩⟩⟩⟩⟩
theorem lw_p112 : lw_okq (⟨"TrialGardenModel", "readEx", "()I"⟩, 67) := ⟨⟨by decide +kernel, by decide +kernel⟩, List.mem_of_getElem? (i := 1650) (by decide +kernel), List.mem_of_getElem? (i := 2280) (by decide +kernel), List.mem_of_getElem? (i := 2281) (by decide +kernel)⟩
theorem lw_p113 : lw_okq (⟨"TrialGardenModel", "readFrom", "(I)I"⟩, 67) := ⟨⟨by decide +kernel, by decide +kernel⟩, List.mem_of_getElem? (i := 1650) (by decide +kernel), List.mem_of_getElem? (i := 2284) (by decide +kernel), List.mem_of_getElem? (i := 2285) (by decide +kernel)⟩
theorem lw_p114 : lw_okq (⟨"TrialGardenModel", "readUnary", "()I"⟩, 67) := ⟨⟨by decide +kernel, by decide +kernel⟩, List.mem_of_getElem? (i := 1650) (by decide +kernel), List.mem_of_getElem? (i := 2288) (by decide +kernel), List.mem_of_getElem? (i := 2289) (by decide +kernel)⟩
theorem lw_p115 : lw_okq (⟨"TrialGardenModel", "readOne", "()I"⟩, 67) := ⟨⟨by decide +kernel, by decide +kernel⟩, List.mem_of_getElem? (i := 1650) (by decide +kernel), List.mem_of_getElem? (i := 2292) (by decide +kernel), List.mem_of_getElem? (i := 2293) (by decide +kernel)⟩
theorem lw_p116 : lw_okq (⟨"TrialGardenModel", "counts", "()V"⟩, 67) := ⟨⟨by decide +kernel, by decide +kernel⟩, List.mem_of_getElem? (i := 1650) (by decide +kernel), List.mem_of_getElem? (i := 2296) (by decide +kernel), List.mem_of_getElem? (i := 2297) (by decide +kernel)⟩
theorem lw_p117 : lw_okq (⟨"TrialGardenModel", "node", "(IIII)I"⟩, 67) := ⟨⟨by decide +kernel, by decide +kernel⟩, List.mem_of_getElem? (i := 1650) (by decide +kernel), List.mem_of_getElem? (i := 2300) (by decide +kernel), List.mem_of_getElem? (i := 2301) (by decide +kernel)⟩
theorem lw_p118 : lw_okq (⟨"TrialGardenModel", "opening", "(I)V"⟩, 67) := ⟨⟨by decide +kernel, by decide +kernel⟩, List.mem_of_getElem? (i := 1650) (by decide +kernel), List.mem_of_getElem? (i := 2304) (by decide +kernel), List.mem_of_getElem? (i := 2305) (by decide +kernel)⟩
theorem lw_p119 : lw_okq (⟨"TrialGardenModel", "opens", "(I)V"⟩, 67) := ⟨⟨by decide +kernel, by decide +kernel⟩, List.mem_of_getElem? (i := 1650) (by decide +kernel), List.mem_of_getElem? (i := 2308) (by decide +kernel), List.mem_of_getElem? (i := 2309) (by decide +kernel)⟩
theorem lw_p120 : lw_okq (⟨"TrialGardenModel", "closing", "(I)V"⟩, 67) := ⟨⟨by decide +kernel, by decide +kernel⟩, List.mem_of_getElem? (i := 1650) (by decide +kernel), List.mem_of_getElem? (i := 2312) (by decide +kernel), List.mem_of_getElem? (i := 2313) (by decide +kernel)⟩
theorem lw_p121 : lw_okq (⟨"TrialGardenModel", "readName", "(ZZ)I"⟩, 67) := ⟨⟨by decide +kernel, by decide +kernel⟩, List.mem_of_getElem? (i := 1650) (by decide +kernel), List.mem_of_getElem? (i := 2316) (by decide +kernel), List.mem_of_getElem? (i := 2317) (by decide +kernel)⟩
theorem lw_p122 : lw_okq (⟨"TrialGardenModel", "named", "(JJ)I"⟩, 67) := ⟨⟨by decide +kernel, by decide +kernel⟩, List.mem_of_getElem? (i := 1650) (by decide +kernel), List.mem_of_getElem? (i := 2324) (by decide +kernel), List.mem_of_getElem? (i := 2325) (by decide +kernel)⟩
theorem lw_p123 : lw_okq (⟨"TrialGardenModel", "readCall", "(IIJJIZ)I"⟩, 67) := ⟨⟨by decide +kernel, by decide +kernel⟩, List.mem_of_getElem? (i := 1650) (by decide +kernel), List.mem_of_getElem? (i := 2328) (by decide +kernel), List.mem_of_getElem? (i := 2329) (by decide +kernel)⟩
theorem lw_p124 : lw_okq (⟨"TrialGardenModel", "readPlace", "(IIZ)I"⟩, 67) := ⟨⟨by decide +kernel, by decide +kernel⟩, List.mem_of_getElem? (i := 1650) (by decide +kernel), List.mem_of_getElem? (i := 2332) (by decide +kernel), List.mem_of_getElem? (i := 2333) (by decide +kernel)⟩
theorem lw_p125 : lw_okq (⟨"TrialGardenModel", "readAbove", "(Z)I"⟩, 67) := ⟨⟨by decide +kernel, by decide +kernel⟩, List.mem_of_getElem? (i := 1650) (by decide +kernel), List.mem_of_getElem? (i := 2336) (by decide +kernel), List.mem_of_getElem? (i := 2337) (by decide +kernel)⟩
theorem lw_p126 : lw_okq (⟨"TrialGardenModel", "strength", "()I"⟩, 67) := ⟨⟨by decide +kernel, by decide +kernel⟩, List.mem_of_getElem? (i := 1650) (by decide +kernel), List.mem_of_getElem? (i := 2340) (by decide +kernel), List.mem_of_getElem? (i := 2341) (by decide +kernel)⟩
theorem lw_p127 : lw_okq (⟨"TrialGardenModel", "readMember", "()V"⟩, 67) := ⟨⟨by decide +kernel, by decide +kernel⟩, List.mem_of_getElem? (i := 1650) (by decide +kernel), List.mem_of_getElem? (i := 2344) (by decide +kernel), List.mem_of_getElem? (i := 2345) (by decide +kernel)⟩
def lw_privs_8 : List (MethodName × Nat) := [(⟨"TrialGardenModel", "readEx", "()I"⟩, 67), (⟨"TrialGardenModel", "readFrom", "(I)I"⟩, 67), (⟨"TrialGardenModel", "readUnary", "()I"⟩, 67), (⟨"TrialGardenModel", "readOne", "()I"⟩, 67), (⟨"TrialGardenModel", "counts", "()V"⟩, 67), (⟨"TrialGardenModel", "node", "(IIII)I"⟩, 67), (⟨"TrialGardenModel", "opening", "(I)V"⟩, 67), (⟨"TrialGardenModel", "opens", "(I)V"⟩, 67), (⟨"TrialGardenModel", "closing", "(I)V"⟩, 67), (⟨"TrialGardenModel", "readName", "(ZZ)I"⟩, 67), (⟨"TrialGardenModel", "named", "(JJ)I"⟩, 67), (⟨"TrialGardenModel", "readCall", "(IIJJIZ)I"⟩, 67), (⟨"TrialGardenModel", "readPlace", "(IIZ)I"⟩, 67), (⟨"TrialGardenModel", "readAbove", "(Z)I"⟩, 67), (⟨"TrialGardenModel", "strength", "()I"⟩, 67), (⟨"TrialGardenModel", "readMember", "()V"⟩, 67)]
theorem lw_r8 : ∀ q ∈ lw_privs_8, lw_okq q := List.forall_mem_cons.mpr ⟨lw_p112, List.forall_mem_cons.mpr ⟨lw_p113, List.forall_mem_cons.mpr ⟨lw_p114, List.forall_mem_cons.mpr ⟨lw_p115, List.forall_mem_cons.mpr ⟨lw_p116, List.forall_mem_cons.mpr ⟨lw_p117, List.forall_mem_cons.mpr ⟨lw_p118, List.forall_mem_cons.mpr ⟨lw_p119, List.forall_mem_cons.mpr ⟨lw_p120, List.forall_mem_cons.mpr ⟨lw_p121, List.forall_mem_cons.mpr ⟨lw_p122, List.forall_mem_cons.mpr ⟨lw_p123, List.forall_mem_cons.mpr ⟨lw_p124, List.forall_mem_cons.mpr ⟨lw_p125, List.forall_mem_cons.mpr ⟨lw_p126, List.forall_mem_cons.mpr ⟨lw_p127, fun _ h => absurd h List.not_mem_nil⟩⟩⟩⟩⟩⟩⟩⟩⟩⟩⟩⟩⟩⟩⟩⟩
theorem lw_p128 : lw_okq (⟨"TrialGardenModel", "readParam", "()V"⟩, 67) := ⟨⟨by decide +kernel, by decide +kernel⟩, List.mem_of_getElem? (i := 1650) (by decide +kernel), List.mem_of_getElem? (i := 2348) (by decide +kernel), List.mem_of_getElem? (i := 2349) (by decide +kernel)⟩
theorem lw_p129 : lw_okq (⟨"TrialGardenModel", "readMark", "()V"⟩, 67) := ⟨⟨by decide +kernel, by decide +kernel⟩, List.mem_of_getElem? (i := 1650) (by decide +kernel), List.mem_of_getElem? (i := 2354) (by decide +kernel), List.mem_of_getElem? (i := 2355) (by decide +kernel)⟩
theorem lw_p130 : lw_okq (⟨"TrialGardenModel", "hasOnly", "()Z"⟩, 67) := ⟨⟨by decide +kernel, by decide +kernel⟩, List.mem_of_getElem? (i := 1650) (by decide +kernel), List.mem_of_getElem? (i := 2358) (by decide +kernel), List.mem_of_getElem? (i := 2359) (by decide +kernel)⟩
theorem lw_p131 : lw_okq (⟨"TrialGardenModel", "readBlock", "()I"⟩, 67) := ⟨⟨by decide +kernel, by decide +kernel⟩, List.mem_of_getElem? (i := 1650) (by decide +kernel), List.mem_of_getElem? (i := 2362) (by decide +kernel), List.mem_of_getElem? (i := 2363) (by decide +kernel)⟩
theorem lw_p132 : lw_okq (⟨"TrialGardenModel", "readStatement", "()I"⟩, 67) := ⟨⟨by decide +kernel, by decide +kernel⟩, List.mem_of_getElem? (i := 1650) (by decide +kernel), List.mem_of_getElem? (i := 2366) (by decide +kernel), List.mem_of_getElem? (i := 2367) (by decide +kernel)⟩
theorem lw_p133 : lw_okq (⟨"TrialGardenModel", "readDoing", "()I"⟩, 67) := ⟨⟨by decide +kernel, by decide +kernel⟩, List.mem_of_getElem? (i := 1650) (by decide +kernel), List.mem_of_getElem? (i := 2370) (by decide +kernel), List.mem_of_getElem? (i := 2371) (by decide +kernel)⟩
theorem lw_p134 : lw_okq (⟨"TrialGardenModel", "statement", "(I)I"⟩, 67) := ⟨⟨by decide +kernel, by decide +kernel⟩, List.mem_of_getElem? (i := 1650) (by decide +kernel), List.mem_of_getElem? (i := 2374) (by decide +kernel), List.mem_of_getElem? (i := 2375) (by decide +kernel)⟩
theorem lw_p135 : lw_okq (⟨"TrialGardenModel", "mayBegin", "()V"⟩, 67) := ⟨⟨by decide +kernel, by decide +kernel⟩, List.mem_of_getElem? (i := 1650) (by decide +kernel), List.mem_of_getElem? (i := 2378) (by decide +kernel), List.mem_of_getElem? (i := 2379) (by decide +kernel)⟩
theorem lw_p136 : lw_okq (⟨"TrialGardenModel", "untold", "()V"⟩, 67) := ⟨⟨by decide +kernel, by decide +kernel⟩, List.mem_of_getElem? (i := 1650) (by decide +kernel), List.mem_of_getElem? (i := 2382) (by decide +kernel), List.mem_of_getElem? (i := 2383) (by decide +kernel)⟩
theorem lw_p137 : lw_okq (⟨"TrialGardenModel", "isClass", "(I)Z"⟩, 67) := ⟨⟨by decide +kernel, by decide +kernel⟩, List.mem_of_getElem? (i := 1650) (by decide +kernel), List.mem_of_getElem? (i := 2394) (by decide +kernel), List.mem_of_getElem? (i := 2395) (by decide +kernel)⟩
theorem lw_p138 : lw_okq (⟨"TrialGardenModel", "addMake", "(I)V"⟩, 67) := ⟨⟨by decide +kernel, by decide +kernel⟩, List.mem_of_getElem? (i := 1650) (by decide +kernel), List.mem_of_getElem? (i := 2414) (by decide +kernel), List.mem_of_getElem? (i := 2415) (by decide +kernel)⟩
theorem lw_p139 : lw_okq (⟨"TrialGardenModel", "isArgument", "(III)Z"⟩, 67) := ⟨⟨by decide +kernel, by decide +kernel⟩, List.mem_of_getElem? (i := 1650) (by decide +kernel), List.mem_of_getElem? (i := 2422) (by decide +kernel), List.mem_of_getElem? (i := 2423) (by decide +kernel)⟩
theorem lw_p140 : lw_okq (⟨"TrialGardenModel", "addCall", "(IIIII)V"⟩, 67) := ⟨⟨by decide +kernel, by decide +kernel⟩, List.mem_of_getElem? (i := 1650) (by decide +kernel), List.mem_of_getElem? (i := 2426) (by decide +kernel), List.mem_of_getElem? (i := 2427) (by decide +kernel)⟩
theorem lw_p141 : lw_okq (⟨"TrialGardenModel", "runRow", "()I"⟩, 67) := ⟨⟨by decide +kernel, by decide +kernel⟩, List.mem_of_getElem? (i := 1650) (by decide +kernel), List.mem_of_getElem? (i := 2434) (by decide +kernel), List.mem_of_getElem? (i := 2435) (by decide +kernel)⟩
theorem lw_p142 : lw_okq (⟨"TrialGardenModel", "makes", "(I)Z"⟩, 67) := ⟨⟨by decide +kernel, by decide +kernel⟩, List.mem_of_getElem? (i := 1650) (by decide +kernel), List.mem_of_getElem? (i := 2438) (by decide +kernel), List.mem_of_getElem? (i := 2439) (by decide +kernel)⟩
theorem lw_p143 : lw_okq (⟨"TrialGardenModel", "begin", "(II)V"⟩, 67) := ⟨⟨by decide +kernel, by decide +kernel⟩, List.mem_of_getElem? (i := 1650) (by decide +kernel), List.mem_of_getElem? (i := 2442) (by decide +kernel), List.mem_of_getElem? (i := 2443) (by decide +kernel)⟩
def lw_privs_9 : List (MethodName × Nat) := [(⟨"TrialGardenModel", "readParam", "()V"⟩, 67), (⟨"TrialGardenModel", "readMark", "()V"⟩, 67), (⟨"TrialGardenModel", "hasOnly", "()Z"⟩, 67), (⟨"TrialGardenModel", "readBlock", "()I"⟩, 67), (⟨"TrialGardenModel", "readStatement", "()I"⟩, 67), (⟨"TrialGardenModel", "readDoing", "()I"⟩, 67), (⟨"TrialGardenModel", "statement", "(I)I"⟩, 67), (⟨"TrialGardenModel", "mayBegin", "()V"⟩, 67), (⟨"TrialGardenModel", "untold", "()V"⟩, 67), (⟨"TrialGardenModel", "isClass", "(I)Z"⟩, 67), (⟨"TrialGardenModel", "addMake", "(I)V"⟩, 67), (⟨"TrialGardenModel", "isArgument", "(III)Z"⟩, 67), (⟨"TrialGardenModel", "addCall", "(IIIII)V"⟩, 67), (⟨"TrialGardenModel", "runRow", "()I"⟩, 67), (⟨"TrialGardenModel", "makes", "(I)Z"⟩, 67), (⟨"TrialGardenModel", "begin", "(II)V"⟩, 67)]
theorem lw_r9 : ∀ q ∈ lw_privs_9, lw_okq q := List.forall_mem_cons.mpr ⟨lw_p128, List.forall_mem_cons.mpr ⟨lw_p129, List.forall_mem_cons.mpr ⟨lw_p130, List.forall_mem_cons.mpr ⟨lw_p131, List.forall_mem_cons.mpr ⟨lw_p132, List.forall_mem_cons.mpr ⟨lw_p133, List.forall_mem_cons.mpr ⟨lw_p134, List.forall_mem_cons.mpr ⟨lw_p135, List.forall_mem_cons.mpr ⟨lw_p136, List.forall_mem_cons.mpr ⟨lw_p137, List.forall_mem_cons.mpr ⟨lw_p138, List.forall_mem_cons.mpr ⟨lw_p139, List.forall_mem_cons.mpr ⟨lw_p140, List.forall_mem_cons.mpr ⟨lw_p141, List.forall_mem_cons.mpr ⟨lw_p142, List.forall_mem_cons.mpr ⟨lw_p143, fun _ h => absurd h List.not_mem_nil⟩⟩⟩⟩⟩⟩⟩⟩⟩⟩⟩⟩⟩⟩⟩⟩
theorem lw_p144 : lw_okq (⟨"TrialGardenModel", "keeps", "(I)Z"⟩, 67) := ⟨⟨by decide +kernel, by decide +kernel⟩, List.mem_of_getElem? (i := 1650) (by decide +kernel), List.mem_of_getElem? (i := 2446) (by decide +kernel), List.mem_of_getElem? (i := 2447) (by decide +kernel)⟩
theorem lw_p145 : lw_okq (⟨"TrialGardenModel", "holds", "(IIIIII)I"⟩, 67) := ⟨⟨by decide +kernel, by decide +kernel⟩, List.mem_of_getElem? (i := 1650) (by decide +kernel), List.mem_of_getElem? (i := 2450) (by decide +kernel), List.mem_of_getElem? (i := 2451) (by decide +kernel)⟩
theorem lw_p146 : lw_okq (⟨"TrialGardenModel", "eval", "(I)I"⟩, 67) := ⟨⟨by decide +kernel, by decide +kernel⟩, List.mem_of_getElem? (i := 1650) (by decide +kernel), List.mem_of_getElem? (i := 2454) (by decide +kernel), List.mem_of_getElem? (i := 2455) (by decide +kernel)⟩
theorem lw_p147 : lw_okq (⟨"TrialGardenModel", "place", "(IZ)I"⟩, 67) := ⟨⟨by decide +kernel, by decide +kernel⟩, List.mem_of_getElem? (i := 1650) (by decide +kernel), List.mem_of_getElem? (i := 2458) (by decide +kernel), List.mem_of_getElem? (i := 2459) (by decide +kernel)⟩
theorem lw_p148 : lw_okq (⟨"TrialGardenModel", "classHere", "()I"⟩, 67) := ⟨⟨by decide +kernel, by decide +kernel⟩, List.mem_of_getElem? (i := 1650) (by decide +kernel), List.mem_of_getElem? (i := 2462) (by decide +kernel), List.mem_of_getElem? (i := 2463) (by decide +kernel)⟩
theorem lw_p149 : lw_okq (⟨"TrialGardenModel", "throwsWord", "(JJ)V"⟩, 67) := ⟨⟨by decide +kernel, by decide +kernel⟩, List.mem_of_getElem? (i := 1650) (by decide +kernel), List.mem_of_getElem? (i := 2467) (by decide +kernel), List.mem_of_getElem? (i := 2468) (by decide +kernel)⟩
theorem lw_p150 : lw_okq (⟨"TrialGardenModel", "ends", "(I)V"⟩, 67) := ⟨⟨by decide +kernel, by decide +kernel⟩, List.mem_of_getElem? (i := 1650) (by decide +kernel), List.mem_of_getElem? (i := 2471) (by decide +kernel), List.mem_of_getElem? (i := 2472) (by decide +kernel)⟩
theorem lw_p151 : lw_okq (⟨"TrialGardenModel", "callOf", "(IZ)I"⟩, 67) := ⟨⟨by decide +kernel, by decide +kernel⟩, List.mem_of_getElem? (i := 1650) (by decide +kernel), List.mem_of_getElem? (i := 2475) (by decide +kernel), List.mem_of_getElem? (i := 2476) (by decide +kernel)⟩
theorem lw_p152 : lw_okq (⟨"TrialGardenModel", "step", "()V"⟩, 67) := ⟨⟨by decide +kernel, by decide +kernel⟩, List.mem_of_getElem? (i := 1650) (by decide +kernel), List.mem_of_getElem? (i := 2479) (by decide +kernel), List.mem_of_getElem? (i := 2480) (by decide +kernel)⟩
theorem lw_p153 : lw_okq (⟨"TrialGardenModel", "invoke", "(II)I"⟩, 67) := ⟨⟨by decide +kernel, by decide +kernel⟩, List.mem_of_getElem? (i := 1650) (by decide +kernel), List.mem_of_getElem? (i := 2483) (by decide +kernel), List.mem_of_getElem? (i := 2484) (by decide +kernel)⟩
theorem lw_p154 : lw_okq (⟨"TrialGardenModel", "runBlock", "(I)V"⟩, 67) := ⟨⟨by decide +kernel, by decide +kernel⟩, List.mem_of_getElem? (i := 1650) (by decide +kernel), List.mem_of_getElem? (i := 2487) (by decide +kernel), List.mem_of_getElem? (i := 2488) (by decide +kernel)⟩
theorem lw_p155 : lw_okq (⟨"TrialGardenModel", "runStatement", "(I)V"⟩, 67) := ⟨⟨by decide +kernel, by decide +kernel⟩, List.mem_of_getElem? (i := 1650) (by decide +kernel), List.mem_of_getElem? (i := 2491) (by decide +kernel), List.mem_of_getElem? (i := 2492) (by decide +kernel)⟩
theorem lw_p156 : lw_okq (⟨"TrialGardenModel", "assign", "(I)V"⟩, 67) := ⟨⟨by decide +kernel, by decide +kernel⟩, List.mem_of_getElem? (i := 1650) (by decide +kernel), List.mem_of_getElem? (i := 2495) (by decide +kernel), List.mem_of_getElem? (i := 2496) (by decide +kernel)⟩
theorem lw_p157 : lw_okq (⟨"TrialGardenModel", "tells", "(IIII)V"⟩, 67) := ⟨⟨by decide +kernel, by decide +kernel⟩, List.mem_of_getElem? (i := 1650) (by decide +kernel), List.mem_of_getElem? (i := 2500) (by decide +kernel), List.mem_of_getElem? (i := 2501) (by decide +kernel)⟩
theorem lw_p158 : lw_okq (⟨"TrialGardenModel", "does", "(I)Z"⟩, 67) := ⟨⟨by decide +kernel, by decide +kernel⟩, List.mem_of_getElem? (i := 1650) (by decide +kernel), List.mem_of_getElem? (i := 2504) (by decide +kernel), List.mem_of_getElem? (i := 2505) (by decide +kernel)⟩
theorem lw_p159 : lw_okq (⟨"TrialGardenModel", "isNeeded", "(III)I"⟩, 67) := ⟨⟨by decide +kernel, by decide +kernel⟩, List.mem_of_getElem? (i := 1650) (by decide +kernel), List.mem_of_getElem? (i := 2508) (by decide +kernel), List.mem_of_getElem? (i := 2509) (by decide +kernel)⟩
def lw_privs_10 : List (MethodName × Nat) := [(⟨"TrialGardenModel", "keeps", "(I)Z"⟩, 67), (⟨"TrialGardenModel", "holds", "(IIIIII)I"⟩, 67), (⟨"TrialGardenModel", "eval", "(I)I"⟩, 67), (⟨"TrialGardenModel", "place", "(IZ)I"⟩, 67), (⟨"TrialGardenModel", "classHere", "()I"⟩, 67), (⟨"TrialGardenModel", "throwsWord", "(JJ)V"⟩, 67), (⟨"TrialGardenModel", "ends", "(I)V"⟩, 67), (⟨"TrialGardenModel", "callOf", "(IZ)I"⟩, 67), (⟨"TrialGardenModel", "step", "()V"⟩, 67), (⟨"TrialGardenModel", "invoke", "(II)I"⟩, 67), (⟨"TrialGardenModel", "runBlock", "(I)V"⟩, 67), (⟨"TrialGardenModel", "runStatement", "(I)V"⟩, 67), (⟨"TrialGardenModel", "assign", "(I)V"⟩, 67), (⟨"TrialGardenModel", "tells", "(IIII)V"⟩, 67), (⟨"TrialGardenModel", "does", "(I)Z"⟩, 67), (⟨"TrialGardenModel", "isNeeded", "(III)I"⟩, 67)]
theorem lw_r10 : ∀ q ∈ lw_privs_10, lw_okq q := List.forall_mem_cons.mpr ⟨lw_p144, List.forall_mem_cons.mpr ⟨lw_p145, List.forall_mem_cons.mpr ⟨lw_p146, List.forall_mem_cons.mpr ⟨lw_p147, List.forall_mem_cons.mpr ⟨lw_p148, List.forall_mem_cons.mpr ⟨lw_p149, List.forall_mem_cons.mpr ⟨lw_p150, List.forall_mem_cons.mpr ⟨lw_p151, List.forall_mem_cons.mpr ⟨lw_p152, List.forall_mem_cons.mpr ⟨lw_p153, List.forall_mem_cons.mpr ⟨lw_p154, List.forall_mem_cons.mpr ⟨lw_p155, List.forall_mem_cons.mpr ⟨lw_p156, List.forall_mem_cons.mpr ⟨lw_p157, List.forall_mem_cons.mpr ⟨lw_p158, List.forall_mem_cons.mpr ⟨lw_p159, fun _ h => absurd h List.not_mem_nil⟩⟩⟩⟩⟩⟩⟩⟩⟩⟩⟩⟩⟩⟩⟩⟩
theorem lw_p160 : lw_okq (⟨"TrialGardenModel", "toldBy", "(II)I"⟩, 67) := ⟨⟨by decide +kernel, by decide +kernel⟩, List.mem_of_getElem? (i := 1650) (by decide +kernel), List.mem_of_getElem? (i := 2512) (by decide +kernel), List.mem_of_getElem? (i := 2513) (by decide +kernel)⟩
theorem lw_p161 : lw_okq (⟨"TrialGardenModel", "calls", "(III)I"⟩, 67) := ⟨⟨by decide +kernel, by decide +kernel⟩, List.mem_of_getElem? (i := 1650) (by decide +kernel), List.mem_of_getElem? (i := 2516) (by decide +kernel), List.mem_of_getElem? (i := 2517) (by decide +kernel)⟩
theorem lw_p162 : lw_okq (⟨"TrialGardenModel", "mayThrow", "(IIIJJ)I"⟩, 67) := ⟨⟨by decide +kernel, by decide +kernel⟩, List.mem_of_getElem? (i := 1650) (by decide +kernel), List.mem_of_getElem? (i := 2520) (by decide +kernel), List.mem_of_getElem? (i := 2521) (by decide +kernel)⟩
theorem lw_p163 : lw_okq (⟨"TrialGardenModel", "changes", "(II)I"⟩, 67) := ⟨⟨by decide +kernel, by decide +kernel⟩, List.mem_of_getElem? (i := 1650) (by decide +kernel), List.mem_of_getElem? (i := 2524) (by decide +kernel), List.mem_of_getElem? (i := 2525) (by decide +kernel)⟩
theorem lw_p164 : lw_okq (⟨"TrialGardenModel", "fieldAt", "(II)I"⟩, 67) := ⟨⟨by decide +kernel, by decide +kernel⟩, List.mem_of_getElem? (i := 1650) (by decide +kernel), List.mem_of_getElem? (i := 2528) (by decide +kernel), List.mem_of_getElem? (i := 2529) (by decide +kernel)⟩
theorem lw_p165 : lw_okq (⟨"TrialGardenModel", "mayChange", "(III)Z"⟩, 67) := ⟨⟨by decide +kernel, by decide +kernel⟩, List.mem_of_getElem? (i := 1650) (by decide +kernel), List.mem_of_getElem? (i := 2532) (by decide +kernel), List.mem_of_getElem? (i := 2533) (by decide +kernel)⟩
theorem lw_p166 : lw_okq (⟨"TrialGardenModel", "gives", "(III)Z"⟩, 67) := ⟨⟨by decide +kernel, by decide +kernel⟩, List.mem_of_getElem? (i := 1650) (by decide +kernel), List.mem_of_getElem? (i := 2536) (by decide +kernel), List.mem_of_getElem? (i := 2537) (by decide +kernel)⟩
theorem lw_p167 : lw_okq (⟨"TrialGardenModel", "likeModel", "(IIIIIJJ)Z"⟩, 67) := ⟨⟨by decide +kernel, by decide +kernel⟩, List.mem_of_getElem? (i := 1650) (by decide +kernel), List.mem_of_getElem? (i := 2540) (by decide +kernel), List.mem_of_getElem? (i := 2541) (by decide +kernel)⟩
theorem lw_p168 : lw_okq (⟨"TrialGardenModel", "drawRow", "(I)V"⟩, 67) := ⟨⟨by decide +kernel, by decide +kernel⟩, List.mem_of_getElem? (i := 1650) (by decide +kernel), List.mem_of_getElem? (i := 2549) (by decide +kernel), List.mem_of_getElem? (i := 2550) (by decide +kernel)⟩
theorem lw_p169 : lw_okq (⟨"TrialGardenModel", "nextDrawn", "()I"⟩, 67) := ⟨⟨by decide +kernel, by decide +kernel⟩, List.mem_of_getElem? (i := 1650) (by decide +kernel), List.mem_of_getElem? (i := 2554) (by decide +kernel), List.mem_of_getElem? (i := 2555) (by decide +kernel)⟩
theorem lw_p170 : lw_okq (⟨"TrialGardenModel", "argument", "(II)I"⟩, 67) := ⟨⟨by decide +kernel, by decide +kernel⟩, List.mem_of_getElem? (i := 1650) (by decide +kernel), List.mem_of_getElem? (i := 2559) (by decide +kernel), List.mem_of_getElem? (i := 2560) (by decide +kernel)⟩
theorem lw_p171 : lw_okq (⟨"TrialGardenModel", "isTried", "()Z"⟩, 67) := ⟨⟨by decide +kernel, by decide +kernel⟩, List.mem_of_getElem? (i := 1650) (by decide +kernel), List.mem_of_getElem? (i := 2563) (by decide +kernel), List.mem_of_getElem? (i := 2564) (by decide +kernel)⟩
theorem lw_p172 : lw_okq (⟨"TrialGardenModel", "goOver", "(II)Z"⟩, 67) := ⟨⟨by decide +kernel, by decide +kernel⟩, List.mem_of_getElem? (i := 1650) (by decide +kernel), List.mem_of_getElem? (i := 2572) (by decide +kernel), List.mem_of_getElem? (i := 2573) (by decide +kernel)⟩
theorem lw_p173 : lw_okq (⟨"TrialGardenModel", "keepRow", "()V"⟩, 67) := ⟨⟨by decide +kernel, by decide +kernel⟩, List.mem_of_getElem? (i := 1650) (by decide +kernel), List.mem_of_getElem? (i := 2576) (by decide +kernel), List.mem_of_getElem? (i := 2577) (by decide +kernel)⟩
theorem lw_p174 : lw_okq (⟨"TrialGardenModel", "values", "(II)I"⟩, 67) := ⟨⟨by decide +kernel, by decide +kernel⟩, List.mem_of_getElem? (i := 1650) (by decide +kernel), List.mem_of_getElem? (i := 2580) (by decide +kernel), List.mem_of_getElem? (i := 2581) (by decide +kernel)⟩
theorem lw_p175 : lw_okq (⟨"TrialGardenModel", "valueOf", "(III)I"⟩, 67) := ⟨⟨by decide +kernel, by decide +kernel⟩, List.mem_of_getElem? (i := 1650) (by decide +kernel), List.mem_of_getElem? (i := 2584) (by decide +kernel), List.mem_of_getElem? (i := 2585) (by decide +kernel)⟩
def lw_privs_11 : List (MethodName × Nat) := [(⟨"TrialGardenModel", "toldBy", "(II)I"⟩, 67), (⟨"TrialGardenModel", "calls", "(III)I"⟩, 67), (⟨"TrialGardenModel", "mayThrow", "(IIIJJ)I"⟩, 67), (⟨"TrialGardenModel", "changes", "(II)I"⟩, 67), (⟨"TrialGardenModel", "fieldAt", "(II)I"⟩, 67), (⟨"TrialGardenModel", "mayChange", "(III)Z"⟩, 67), (⟨"TrialGardenModel", "gives", "(III)Z"⟩, 67), (⟨"TrialGardenModel", "likeModel", "(IIIIIJJ)Z"⟩, 67), (⟨"TrialGardenModel", "drawRow", "(I)V"⟩, 67), (⟨"TrialGardenModel", "nextDrawn", "()I"⟩, 67), (⟨"TrialGardenModel", "argument", "(II)I"⟩, 67), (⟨"TrialGardenModel", "isTried", "()Z"⟩, 67), (⟨"TrialGardenModel", "goOver", "(II)Z"⟩, 67), (⟨"TrialGardenModel", "keepRow", "()V"⟩, 67), (⟨"TrialGardenModel", "values", "(II)I"⟩, 67), (⟨"TrialGardenModel", "valueOf", "(III)I"⟩, 67)]
theorem lw_r11 : ∀ q ∈ lw_privs_11, lw_okq q := List.forall_mem_cons.mpr ⟨lw_p160, List.forall_mem_cons.mpr ⟨lw_p161, List.forall_mem_cons.mpr ⟨lw_p162, List.forall_mem_cons.mpr ⟨lw_p163, List.forall_mem_cons.mpr ⟨lw_p164, List.forall_mem_cons.mpr ⟨lw_p165, List.forall_mem_cons.mpr ⟨lw_p166, List.forall_mem_cons.mpr ⟨lw_p167, List.forall_mem_cons.mpr ⟨lw_p168, List.forall_mem_cons.mpr ⟨lw_p169, List.forall_mem_cons.mpr ⟨lw_p170, List.forall_mem_cons.mpr ⟨lw_p171, List.forall_mem_cons.mpr ⟨lw_p172, List.forall_mem_cons.mpr ⟨lw_p173, List.forall_mem_cons.mpr ⟨lw_p174, List.forall_mem_cons.mpr ⟨lw_p175, fun _ h => absurd h List.not_mem_nil⟩⟩⟩⟩⟩⟩⟩⟩⟩⟩⟩⟩⟩⟩⟩⟩
theorem lw_p176 : lw_okq (⟨"TrialGardenModel", "backToLast", "()V"⟩, 67) := ⟨⟨by decide +kernel, by decide +kernel⟩, List.mem_of_getElem? (i := 1650) (by decide +kernel), List.mem_of_getElem? (i := 2588) (by decide +kernel), List.mem_of_getElem? (i := 2589) (by decide +kernel)⟩
theorem lw_p177 : lw_okq (⟨"TrialGardenModel", "takeRow", "()V"⟩, 67) := ⟨⟨by decide +kernel, by decide +kernel⟩, List.mem_of_getElem? (i := 1650) (by decide +kernel), List.mem_of_getElem? (i := 2592) (by decide +kernel), List.mem_of_getElem? (i := 2593) (by decide +kernel)⟩
theorem lw_p178 : lw_okq (⟨"TrialGardenModel", "isLess", "(II)Z"⟩, 67) := ⟨⟨by decide +kernel, by decide +kernel⟩, List.mem_of_getElem? (i := 1650) (by decide +kernel), List.mem_of_getElem? (i := 2608) (by decide +kernel), List.mem_of_getElem? (i := 2609) (by decide +kernel)⟩
theorem lw_p179 : lw_okq (⟨"TrialGardenModel", "without", "(I)Z"⟩, 67) := ⟨⟨by decide +kernel, by decide +kernel⟩, List.mem_of_getElem? (i := 1650) (by decide +kernel), List.mem_of_getElem? (i := 2612) (by decide +kernel), List.mem_of_getElem? (i := 2613) (by decide +kernel)⟩
theorem lw_p180 : lw_okq (⟨"TrialGardenModel", "breaksAlike", "(II)Z"⟩, 67) := ⟨⟨by decide +kernel, by decide +kernel⟩, List.mem_of_getElem? (i := 1650) (by decide +kernel), List.mem_of_getElem? (i := 2616) (by decide +kernel), List.mem_of_getElem? (i := 2617) (by decide +kernel)⟩
def lw_privs_12 : List (MethodName × Nat) := [(⟨"TrialGardenModel", "backToLast", "()V"⟩, 67), (⟨"TrialGardenModel", "takeRow", "()V"⟩, 67), (⟨"TrialGardenModel", "isLess", "(II)Z"⟩, 67), (⟨"TrialGardenModel", "without", "(I)Z"⟩, 67), (⟨"TrialGardenModel", "breaksAlike", "(II)Z"⟩, 67)]
theorem lw_r12 : ∀ q ∈ lw_privs_12, lw_okq q := List.forall_mem_cons.mpr ⟨lw_p176, List.forall_mem_cons.mpr ⟨lw_p177, List.forall_mem_cons.mpr ⟨lw_p178, List.forall_mem_cons.mpr ⟨lw_p179, List.forall_mem_cons.mpr ⟨lw_p180, fun _ h => absurd h List.not_mem_nil⟩⟩⟩⟩⟩
def lw_privs : List (MethodName × Nat) := lw_privs_1 ++ (lw_privs_2 ++ (lw_privs_3 ++ (lw_privs_4 ++ (lw_privs_5 ++ (lw_privs_6 ++ (lw_privs_7 ++ (lw_privs_8 ++ (lw_privs_9 ++ (lw_privs_10 ++ (lw_privs_11 ++ (lw_privs_12)))))))))))
def lw_tbl : List Cond := k2_sels lw_privs ++ tables_1
theorem lw_privs_ok : ∀ q ∈ lw_privs, lw_okq q := by
  show ∀ q ∈ lw_privs_1 ++ (lw_privs_2 ++ (lw_privs_3 ++ (lw_privs_4 ++ (lw_privs_5 ++ (lw_privs_6 ++ (lw_privs_7 ++ (lw_privs_8 ++ (lw_privs_9 ++ (lw_privs_10 ++ (lw_privs_11 ++ (lw_privs_12))))))))))), lw_okq q
  exact List.forall_mem_append.mpr ⟨lw_r1, List.forall_mem_append.mpr ⟨lw_r2, List.forall_mem_append.mpr ⟨lw_r3, List.forall_mem_append.mpr ⟨lw_r4, List.forall_mem_append.mpr ⟨lw_r5, List.forall_mem_append.mpr ⟨lw_r6, List.forall_mem_append.mpr ⟨lw_r7, List.forall_mem_append.mpr ⟨lw_r8, List.forall_mem_append.mpr ⟨lw_r9, List.forall_mem_append.mpr ⟨lw_r10, List.forall_mem_append.mpr ⟨lw_r11, lw_r12⟩⟩⟩⟩⟩⟩⟩⟩⟩⟩⟩
end
section

def lw_g : List Cond := lw_tbl.filter goodWord
theorem gd_ : ∀ w ∈ lw_g, goodWord w = true := fun _ h => (List.mem_filter.mp h).2
theorem gt_ : ∀ w ∈ lw_g, w ∈ lw_tbl := fun _ h => (List.mem_filter.mp h).1
theorem gI_ {a b : Cond} (h : b ∈ lw_g) : GoodIn (a :: lw_g) (b :: lw_g) := fun w hw => by
  have h9 : w ∈ lw_g := (List.mem_cons.mp hw).elim (fun e => e ▸ h) id
  exact ⟨List.mem_cons_of_mem _ h9, good_of_word (gd_ w h9)⟩
theorem gP_ {a : Cond} {ws : List Cond} (h : ∀ w ∈ ws, w ∈ lw_g) : GoodIn (a :: lw_g) ws := fun w hw => ⟨List.mem_cons_of_mem _ (h w hw), good_of_word (gd_ w (h w hw))⟩
theorem gL_ {ws : List Cond} (h : ∀ w ∈ ws, w ∈ lw_g) : GoodIn lw_tbl ws := fun w hw => ⟨gt_ w (h w hw), good_of_word (gd_ w (h w hw))⟩
theorem wV_ {b : Cond} {own C : String} {idx : Nat} {y : MethodName} (h1 : Cond.methodLink own idx y ∈ lw_g) (h2 : Cond.instanceMethod y ∈ lw_g) (h3 : Cond.selects C y y ∈ lw_g) (h4 : Cond.initialized C ∈ lw_g) (h5 : b ∈ lw_g) : ∀ w ∈ wsV own idx C y (b :: lw_g), w ∈ lw_g := by
  intro w hw
  rcases List.mem_append.mp hw with q | q
  · simp only [List.mem_cons, List.not_mem_nil, or_false] at q
    rcases q with rfl | rfl | rfl | rfl <;> assumption
  · exact (List.mem_cons.mp q).elim (fun e => e ▸ h5) id
theorem wS_ {b : Cond} {own : String} {idx : Nat} {y : MethodName} (h1 : Cond.methodLink own idx y ∈ lw_g) (h2 : Cond.static y ∈ lw_g) (h4 : Cond.initialized y.cls ∈ lw_g) (h5 : b ∈ lw_g) : ∀ w ∈ va_wsS own idx y (b :: lw_g), w ∈ lw_g := by
  intro w hw
  rcases List.mem_append.mp hw with q | q
  · simp only [List.mem_cons, List.not_mem_nil, or_false] at q
    rcases q with rfl | rfl | rfl <;> assumption
  · exact (List.mem_cons.mp q).elim (fun e => e ▸ h5) id
theorem gV_ {a b : Cond} {own C : String} {idx : Nat} {y : MethodName} (h1 : Cond.methodLink own idx y ∈ lw_g) (h2 : Cond.instanceMethod y ∈ lw_g) (h3 : Cond.selects C y y ∈ lw_g) (h4 : Cond.initialized C ∈ lw_g) (h5 : b ∈ lw_g) : GoodIn (a :: lw_g) (wsV own idx C y (b :: lw_g)) := gP_ (wV_ h1 h2 h3 h4 h5)
theorem gS_ {a b : Cond} {own : String} {idx : Nat} {y : MethodName} (h1 : Cond.methodLink own idx y ∈ lw_g) (h2 : Cond.static y ∈ lw_g) (h4 : Cond.initialized y.cls ∈ lw_g) (h5 : b ∈ lw_g) : GoodIn (a :: lw_g) (va_wsS own idx y (b :: lw_g)) := gP_ (wS_ h1 h2 h4 h5)
theorem mc_ {a : Cond} {ws : List Cond} (h : ∀ w ∈ ws, w ∈ lw_g) : ∀ w ∈ ws, w ∈ a :: lw_g := fun w hw => List.mem_cons_of_mem _ (h w hw)
theorem nar_q (C : String) (x : Option Nat) : narrow (.object C) (va_rf x) = va_rf x := by cases x <;> rfl
theorem fit_q (C : String) (x : Option Nat) : fits (.object C) (va_rf x) = true := by cases x <;> rfl
theorem inP_ {ws : List Cond} (ps : List Nat) (hp : ws = ps.filterMap (fun i => lw_tbl[i]?)) (hg : ws.all goodWord = true) : ∀ w ∈ ws, w ∈ lw_g := by
  intro w hw
  have h1 := List.all_eq_true.mp hg w hw
  rw [hp] at hw
  obtain ⟨i, -, hi⟩ := List.mem_filterMap.mp hw
  exact List.mem_filter.mpr ⟨List.mem_of_getElem? hi, h1⟩
theorem gg_ {w : Cond} {i : Nat} (h : lw_tbl[i]? = some w) (hg : goodWord w = true) : w ∈ lw_g := List.mem_filter.mpr ⟨List.mem_of_getElem? h, hg⟩
def RX0 : String := "TrialGarden$Expressions"
def TX0 : u_T := fun k => match k with
  | 0 => ("TrialGarden$Expressions", "tokens", "LTrialGarden$Tokens;", true)
  | 1 => ("TrialGarden$Expressions", "scope", "LTrialGarden$Scope;", true)
  | 2 => ("TrialGarden$Expressions", "text", "LTrialGarden$Text;", false)
  | 3 => ("TrialGarden$Expressions", "kindOf", "[I", true)
  | 4 => ("TrialGarden$Expressions", "placeOf", "[I", true)
  | 5 => ("TrialGarden$Expressions", "targetOf", "[I", true)
  | 6 => ("TrialGarden$Expressions", "givenOf", "[I", true)
  | 7 => ("TrialGarden$Expressions", "highOf", "[I", true)
  | 8 => ("TrialGarden$Expressions", "pile", "I", false)
  | 9 => ("TrialGarden$Expressions", "heights", "[I", true)
  | 10 => ("TrialGarden$Expressions", "wholeParts", "I", false)
  | 11 => ("TrialGarden$Expressions", "open", "I", false)
  | 12 => ("TrialGarden$Expressions", "wanted", "Z", false)
  | _ => ("TrialGarden$Expressions", "whole", "Z", false)
def tyX0 : Nat → FieldType := fun k => match k with
  | 0 => .object "TrialGarden$Tokens"
  | 1 => .object "TrialGarden$Scope"
  | 2 => .object "TrialGarden$Text"
  | 3 => .array .int
  | 4 => .array .int
  | 5 => .array .int
  | 6 => .array .int
  | 7 => .array .int
  | 8 => .int
  | 9 => .array .int
  | 10 => .int
  | 11 => .int
  | 12 => .boolean
  | _ => .boolean
abbrev wsX00 : List Cond := u_ws RX0 TX0 14
theorem nmX0 : ∀ a, a < 14 → ∀ b, b < 14 → a ≠ b → (TX0 a).2.1 ≠ (TX0 b).2.1 := by decide +kernel
theorem tyX0_ok : ∀ k, k < 14 → parseFieldDescriptor (TX0 k).2.2.1 = some (tyX0 k) := by decide +kernel
def RX1 : String := "TrialGarden$Machine"
def TX1 : u_T := fun k => match k with
  | 0 => ("TrialGarden$Machine", "text", "LTrialGarden$Text;", false)
  | 1 => ("TrialGarden$Machine", "toy", "LTrialGarden$Toy;", false)
  | 2 => ("TrialGarden$Machine", "cells", "[I", false)
  | 3 => ("TrialGarden$Machine", "before", "[I", false)
  | 4 => ("TrialGarden$Machine", "given", "[I", false)
  | 5 => ("TrialGarden$Machine", "asking", "Z", false)
  | 6 => ("TrialGarden$Machine", "result", "I", false)
  | 7 => ("TrialGarden$Machine", "stack", "[I", true)
  | 8 => ("TrialGarden$Machine", "depth", "I", false)
  | 9 => ("TrialGarden$Machine", "slots", "[I", true)
  | 10 => ("TrialGarden$Machine", "backs", "[I", true)
  | 11 => ("TrialGarden$Machine", "nest", "I", false)
  | 12 => ("TrialGarden$Machine", "ground", "I", false)
  | 13 => ("TrialGarden$Machine", "pc", "I", false)
  | 14 => ("TrialGarden$Machine", "steps", "I", false)
  | 15 => ("TrialGarden$Machine", "outcome", "I", false)
  | 16 => ("TrialGarden$Machine", "answer", "I", false)
  | _ => ("TrialGarden$Machine", "word", "J", false)
def tyX1 : Nat → FieldType := fun k => match k with
  | 0 => .object "TrialGarden$Text"
  | 1 => .object "TrialGarden$Toy"
  | 2 => .array .int
  | 3 => .array .int
  | 4 => .array .int
  | 5 => .boolean
  | 6 => .int
  | 7 => .array .int
  | 8 => .int
  | 9 => .array .int
  | 10 => .array .int
  | 11 => .int
  | 12 => .int
  | 13 => .int
  | 14 => .int
  | 15 => .int
  | 16 => .int
  | _ => .long
abbrev wsX10 : List Cond := u_ws RX1 TX1 18
theorem nmX1 : ∀ a, a < 18 → ∀ b, b < 18 → a ≠ b → (TX1 a).2.1 ≠ (TX1 b).2.1 := by decide +kernel
theorem tyX1_ok : ∀ k, k < 18 → parseFieldDescriptor (TX1 k).2.2.1 = some (tyX1 k) := by decide +kernel
abbrev cX1_init : ByteArray := prog_3_method_1_code
def yX1_init : MethodName := ⟨RX1, "<init>", "()V"⟩
def RX2 : String := "TrialGarden$Reader"
def TX2 : u_T := fun k => match k with
  | 0 => ("TrialGarden$Reader", "tokens", "LTrialGarden$Tokens;", true)
  | 1 => ("TrialGarden$Reader", "scope", "LTrialGarden$Scope;", true)
  | 2 => ("TrialGarden$Reader", "expressions", "LTrialGarden$Expressions;", true)
  | 3 => ("TrialGarden$Reader", "text", "LTrialGarden$Text;", false)
  | 4 => ("TrialGarden$Reader", "toy", "LTrialGarden$Toy;", false)
  | 5 => ("TrialGarden$Reader", "telling", "LTrialGarden$Telling;", false)
  | 6 => ("TrialGarden$Reader", "narrowed", "Z", false)
  | 7 => ("TrialGarden$Reader", "blockKind", "[I", true)
  | 8 => ("TrialGarden$Reader", "blockJump", "[I", true)
  | 9 => ("TrialGarden$Reader", "blockStart", "[I", true)
  | 10 => ("TrialGarden$Reader", "blockLocals", "[I", true)
  | 11 => ("TrialGarden$Reader", "blocks", "I", false)
  | 12 => ("TrialGarden$Reader", "callOp", "I", false)
  | 13 => ("TrialGarden$Reader", "callTarget", "I", false)
  | 14 => ("TrialGarden$Reader", "callParams", "I", false)
  | _ => ("TrialGarden$Reader", "placeFound", "I", false)
def tyX2 : Nat → FieldType := fun k => match k with
  | 0 => .object "TrialGarden$Tokens"
  | 1 => .object "TrialGarden$Scope"
  | 2 => .object "TrialGarden$Expressions"
  | 3 => .object "TrialGarden$Text"
  | 4 => .object "TrialGarden$Toy"
  | 5 => .object "TrialGarden$Telling"
  | 6 => .boolean
  | 7 => .array .int
  | 8 => .array .int
  | 9 => .array .int
  | 10 => .array .int
  | 11 => .int
  | 12 => .int
  | 13 => .int
  | 14 => .int
  | _ => .int
abbrev wsX20 : List Cond := u_ws RX2 TX2 16
theorem nmX2 : ∀ a, a < 16 → ∀ b, b < 16 → a ≠ b → (TX2 a).2.1 ≠ (TX2 b).2.1 := by decide +kernel
theorem tyX2_ok : ∀ k, k < 16 → parseFieldDescriptor (TX2 k).2.2.1 = some (tyX2 k) := by decide +kernel
def RX3 : String := "TrialGarden$Row"
def TX3 : u_T := fun k => match k with
  | 0 => ("TrialGarden$Row", "length", "I", false)
  | 1 => ("TrialGarden$Row", "object", "[I", true)
  | 2 => ("TrialGarden$Row", "member", "[I", true)
  | 3 => ("TrialGarden$Row", "argument", "[[I", true)
  | 4 => ("TrialGarden$Row", "objects", "I", false)
  | _ => ("TrialGarden$Row", "toyOf", "[I", true)
def tyX3 : Nat → FieldType := fun k => match k with
  | 0 => .int
  | 1 => .array .int
  | 2 => .array .int
  | 3 => .array (.array .int)
  | 4 => .int
  | _ => .array .int
abbrev wsX30 : List Cond := u_ws RX3 TX3 6
theorem nmX3 : ∀ a, a < 6 → ∀ b, b < 6 → a ≠ b → (TX3 a).2.1 ≠ (TX3 b).2.1 := by decide +kernel
theorem tyX3_ok : ∀ k, k < 6 → parseFieldDescriptor (TX3 k).2.2.1 = some (tyX3 k) := by decide +kernel
def RX4 : String := "TrialGarden$Run"
def TX4 : u_T := fun k => match k with
  | 0 => ("TrialGarden$Run", "verdict", "I", false)
  | 1 => ("TrialGarden$Run", "brokenMark", "I", false)
  | 2 => ("TrialGarden$Run", "brokenObject", "I", false)
  | 3 => ("TrialGarden$Run", "changedObject", "I", false)
  | 4 => ("TrialGarden$Run", "changedCell", "I", false)
  | 5 => ("TrialGarden$Run", "thrownWord", "J", false)
  | 6 => ("TrialGarden$Run", "objects", "I", false)
  | 7 => ("TrialGarden$Run", "toyOf", "[I", true)
  | 8 => ("TrialGarden$Run", "besideOf", "[I", true)
  | 9 => ("TrialGarden$Run", "cells", "[[I", true)
  | 10 => ("TrialGarden$Run", "besides", "[[I", true)
  | 11 => ("TrialGarden$Run", "before", "[I", true)
  | 12 => ("TrialGarden$Run", "gave", "[I", true)
  | 13 => ("TrialGarden$Run", "done", "[I", true)
  | 14 => ("TrialGarden$Run", "reached", "I", false)
  | 15 => ("TrialGarden$Run", "outcome", "I", false)
  | _ => ("TrialGarden$Run", "answer", "I", false)
def tyX4 : Nat → FieldType := fun k => match k with
  | 0 => .int
  | 1 => .int
  | 2 => .int
  | 3 => .int
  | 4 => .int
  | 5 => .long
  | 6 => .int
  | 7 => .array .int
  | 8 => .array .int
  | 9 => .array (.array .int)
  | 10 => .array (.array .int)
  | 11 => .array .int
  | 12 => .array .int
  | 13 => .array .int
  | 14 => .int
  | 15 => .int
  | _ => .int
abbrev wsX40 : List Cond := u_ws RX4 TX4 17
theorem nmX4 : ∀ a, a < 17 → ∀ b, b < 17 → a ≠ b → (TX4 a).2.1 ≠ (TX4 b).2.1 := by decide +kernel
theorem tyX4_ok : ∀ k, k < 17 → parseFieldDescriptor (TX4 k).2.2.1 = some (tyX4 k) := by decide +kernel
def RX5 : String := "TrialGarden$Scope"
def TX5 : u_T := fun k => match k with
  | 0 => ("TrialGarden$Scope", "text", "LTrialGarden$Text;", false)
  | 1 => ("TrialGarden$Scope", "toy", "LTrialGarden$Toy;", false)
  | 2 => ("TrialGarden$Scope", "toyNumber", "I", false)
  | 3 => ("TrialGarden$Scope", "params", "[J", true)
  | 4 => ("TrialGarden$Scope", "paramCount", "I", false)
  | 5 => ("TrialGarden$Scope", "locals", "[J", true)
  | 6 => ("TrialGarden$Scope", "localCount", "I", false)
  | 7 => ("TrialGarden$Scope", "asking", "Z", false)
  | _ => ("TrialGarden$Scope", "inGives", "Z", false)
def tyX5 : Nat → FieldType := fun k => match k with
  | 0 => .object "TrialGarden$Text"
  | 1 => .object "TrialGarden$Toy"
  | 2 => .int
  | 3 => .array .long
  | 4 => .int
  | 5 => .array .long
  | 6 => .int
  | 7 => .boolean
  | _ => .boolean
abbrev wsX50 : List Cond := u_ws RX5 TX5 9
theorem nmX5 : ∀ a, a < 9 → ∀ b, b < 9 → a ≠ b → (TX5 a).2.1 ≠ (TX5 b).2.1 := by decide +kernel
theorem tyX5_ok : ∀ k, k < 9 → parseFieldDescriptor (TX5 k).2.2.1 = some (tyX5 k) := by decide +kernel
abbrev cX5_init : ByteArray := prog_7_method_1_code
def yX5_init : MethodName := ⟨RX5, "<init>", "()V"⟩
def RX6 : String := "TrialGarden$Telling"
def TX6 : u_T := fun k => match k with
  | 0 => ("TrialGarden$Telling", "name", "J", false)
  | 1 => ("TrialGarden$Telling", "place", "I", false)
  | 2 => ("TrialGarden$Telling", "toy", "I", false)
  | 3 => ("TrialGarden$Telling", "params", "I", false)
  | 4 => ("TrialGarden$Telling", "low", "[I", true)
  | 5 => ("TrialGarden$Telling", "high", "[I", true)
  | 6 => ("TrialGarden$Telling", "pure", "Z", false)
  | 7 => ("TrialGarden$Telling", "over", "I", false)
  | 8 => ("TrialGarden$Telling", "start", "I", false)
  | 9 => ("TrialGarden$Telling", "firstSt", "I", false)
  | 10 => ("TrialGarden$Telling", "stCount", "I", false)
  | 11 => ("TrialGarden$Telling", "firstMark", "I", false)
  | _ => ("TrialGarden$Telling", "markCount", "I", false)
def tyX6 : Nat → FieldType := fun k => match k with
  | 0 => .long
  | 1 => .int
  | 2 => .int
  | 3 => .int
  | 4 => .array .int
  | 5 => .array .int
  | 6 => .boolean
  | 7 => .int
  | 8 => .int
  | 9 => .int
  | 10 => .int
  | 11 => .int
  | _ => .int
abbrev wsX60 : List Cond := u_ws RX6 TX6 13
theorem nmX6 : ∀ a, a < 13 → ∀ b, b < 13 → a ≠ b → (TX6 a).2.1 ≠ (TX6 b).2.1 := by decide +kernel
theorem tyX6_ok : ∀ k, k < 13 → parseFieldDescriptor (TX6 k).2.2.1 = some (tyX6 k) := by decide +kernel
abbrev cX6_init : ByteArray := prog_8_method_1_code
def yX6_init : MethodName := ⟨RX6, "<init>", "()V"⟩
def RX7 : String := "TrialGarden$Text"
def TX7 : u_T := fun k => match k with
  | 0 => ("TrialGarden$Text", "toys", "[LTrialGarden$Toy;", true)
  | 1 => ("TrialGarden$Text", "classCount", "I", false)
  | 2 => ("TrialGarden$Text", "tellings", "[LTrialGarden$Telling;", true)
  | 3 => ("TrialGarden$Text", "tellingCount", "I", false)
  | 4 => ("TrialGarden$Text", "ops", "[I", true)
  | 5 => ("TrialGarden$Text", "args", "[I", true)
  | 6 => ("TrialGarden$Text", "codeCount", "I", false)
  | 7 => ("TrialGarden$Text", "markKind", "[I", true)
  | 8 => ("TrialGarden$Text", "markStart", "[I", true)
  | 9 => ("TrialGarden$Text", "markPlace", "[I", true)
  | 10 => ("TrialGarden$Text", "markFields", "[I", true)
  | 11 => ("TrialGarden$Text", "markToy", "[I", true)
  | 12 => ("TrialGarden$Text", "markWord", "[J", true)
  | 13 => ("TrialGarden$Text", "markCount", "I", false)
  | 14 => ("TrialGarden$Text", "begun", "[Z", true)
  | 15 => ("TrialGarden$Text", "stCount", "I", false)
  | 16 => ("TrialGarden$Text", "words", "[J", true)
  | 17 => ("TrialGarden$Text", "wordCount", "I", false)
  | _ => ("TrialGarden$Text", "partCount", "I", false)
def tyX7 : Nat → FieldType := fun k => match k with
  | 0 => .array (.object "TrialGarden$Toy")
  | 1 => .int
  | 2 => .array (.object "TrialGarden$Telling")
  | 3 => .int
  | 4 => .array .int
  | 5 => .array .int
  | 6 => .int
  | 7 => .array .int
  | 8 => .array .int
  | 9 => .array .int
  | 10 => .array .int
  | 11 => .array .int
  | 12 => .array .long
  | 13 => .int
  | 14 => .array .boolean
  | 15 => .int
  | 16 => .array .long
  | 17 => .int
  | _ => .int
abbrev wsX70 : List Cond := u_ws RX7 TX7 19
theorem nmX7 : ∀ a, a < 19 → ∀ b, b < 19 → a ≠ b → (TX7 a).2.1 ≠ (TX7 b).2.1 := by decide +kernel
theorem tyX7_ok : ∀ k, k < 19 → parseFieldDescriptor (TX7 k).2.2.1 = some (tyX7 k) := by decide +kernel
abbrev cX7_hasClass : ByteArray := prog_9_method_3_code
def yX7_hasClass : MethodName := ⟨RX7, "hasClass", "(I)Z"⟩
def RX8 : String := "TrialGarden$Tokens"
def TX8 : u_T := fun k => match k with
  | 0 => ("TrialGarden$Tokens", "kinds", "[I", true)
  | 1 => ("TrialGarden$Tokens", "places", "[I", true)
  | 2 => ("TrialGarden$Tokens", "values", "[J", true)
  | 3 => ("TrialGarden$Tokens", "quoted", "[J", true)
  | 4 => ("TrialGarden$Tokens", "tape", "[B", false)
  | 5 => ("TrialGarden$Tokens", "length", "I", false)
  | 6 => ("TrialGarden$Tokens", "at", "I", false)
  | 7 => ("TrialGarden$Tokens", "bracketBehindAll", "Z", false)
  | 8 => ("TrialGarden$Tokens", "faultKind", "I", false)
  | _ => ("TrialGarden$Tokens", "faultPlace", "I", false)
def tyX8 : Nat → FieldType := fun k => match k with
  | 0 => .array .int
  | 1 => .array .int
  | 2 => .array .long
  | 3 => .array .long
  | 4 => .array .byte
  | 5 => .int
  | 6 => .int
  | 7 => .boolean
  | 8 => .int
  | _ => .int
abbrev wsX80 : List Cond := u_ws RX8 TX8 10
theorem nmX8 : ∀ a, a < 10 → ∀ b, b < 10 → a ≠ b → (TX8 a).2.1 ≠ (TX8 b).2.1 := by decide +kernel
theorem tyX8_ok : ∀ k, k < 10 → parseFieldDescriptor (TX8 k).2.2.1 = some (tyX8 k) := by decide +kernel
def RX9 : String := "TrialGarden$Toy"
def TX9 : u_T := fun k => match k with
  | 0 => ("TrialGarden$Toy", "name", "J", false)
  | 1 => ("TrialGarden$Toy", "above", "I", false)
  | 2 => ("TrialGarden$Toy", "fields", "I", false)
  | 3 => ("TrialGarden$Toy", "fieldName", "[J", true)
  | 4 => ("TrialGarden$Toy", "fieldStart", "[I", true)
  | 5 => ("TrialGarden$Toy", "rowCells", "[I", true)
  | 6 => ("TrialGarden$Toy", "firstNumber", "[I", true)
  | 7 => ("TrialGarden$Toy", "cells", "I", false)
  | 8 => ("TrialGarden$Toy", "members", "I", false)
  | 9 => ("TrialGarden$Toy", "teller", "[I", true)
  | 10 => ("TrialGarden$Toy", "keptFirst", "I", false)
  | 11 => ("TrialGarden$Toy", "keptCount", "I", false)
  | _ => ("TrialGarden$Toy", "model", "I", false)
def tyX9 : Nat → FieldType := fun k => match k with
  | 0 => .long
  | 1 => .int
  | 2 => .int
  | 3 => .array .long
  | 4 => .array .int
  | 5 => .array .int
  | 6 => .array .int
  | 7 => .int
  | 8 => .int
  | 9 => .array .int
  | 10 => .int
  | 11 => .int
  | _ => .int
abbrev wsX90 : List Cond := u_ws RX9 TX9 13
theorem nmX9 : ∀ a, a < 13 → ∀ b, b < 13 → a ≠ b → (TX9 a).2.1 ≠ (TX9 b).2.1 := by decide +kernel
theorem tyX9_ok : ∀ k, k < 13 → parseFieldDescriptor (TX9 k).2.2.1 = some (tyX9 k) := by decide +kernel
abbrev cX9_init : ByteArray := prog_11_method_1_code
def yX9_init : MethodName := ⟨RX9, "<init>", "()V"⟩
def RX10 : String := "TrialGarden$Trial"
def TX10 : u_T := fun k => match k with
  | 0 => ("TrialGarden$Trial", "text", "LTrialGarden$Text;", false)
  | 1 => ("TrialGarden$Trial", "machine", "LTrialGarden$Machine;", true)
  | 2 => ("TrialGarden$Trial", "row", "LTrialGarden$Row;", false)
  | 3 => ("TrialGarden$Trial", "spareRow", "LTrialGarden$Row;", false)
  | 4 => ("TrialGarden$Trial", "latest", "LTrialGarden$Run;", false)
  | 5 => ("TrialGarden$Trial", "spareRun", "LTrialGarden$Run;", false)
  | 6 => ("TrialGarden$Trial", "rowsTried", "I", false)
  | 7 => ("TrialGarden$Trial", "rowsCut", "I", false)
  | 8 => ("TrialGarden$Trial", "ranAsItIs", "Z", false)
  | _ => ("TrialGarden$Trial", "seedling", "I", false)
def tyX10 : Nat → FieldType := fun k => match k with
  | 0 => .object "TrialGarden$Text"
  | 1 => .object "TrialGarden$Machine"
  | 2 => .object "TrialGarden$Row"
  | 3 => .object "TrialGarden$Row"
  | 4 => .object "TrialGarden$Run"
  | 5 => .object "TrialGarden$Run"
  | 6 => .int
  | 7 => .int
  | 8 => .boolean
  | _ => .int
abbrev wsX100 : List Cond := u_ws RX10 TX10 10
theorem nmX10 : ∀ a, a < 10 → ∀ b, b < 10 → a ≠ b → (TX10 a).2.1 ≠ (TX10 b).2.1 := by decide +kernel
theorem tyX10_ok : ∀ k, k < 10 → parseFieldDescriptor (TX10 k).2.2.1 = some (tyX10 k) := by decide +kernel
def RX11 : String := "TrialGarden"
def TX11 : u_T := fun k => match k with
  | 0 => ("TrialGarden", "tape", "[B", true)
  | 1 => ("TrialGarden", "tapeLength", "I", false)
  | 2 => ("TrialGarden", "reader", "LTrialGarden$Reader;", true)
  | 3 => ("TrialGarden", "trial", "LTrialGarden$Trial;", true)
  | 4 => ("TrialGarden", "text", "LTrialGarden$Text;", false)
  | 5 => ("TrialGarden", "spare", "LTrialGarden$Text;", false)
  | 6 => ("TrialGarden", "faultKind", "I", false)
  | _ => ("TrialGarden", "faultPlace", "I", false)
def tyX11 : Nat → FieldType := fun k => match k with
  | 0 => .array .byte
  | 1 => .int
  | 2 => .object "TrialGarden$Reader"
  | 3 => .object "TrialGarden$Trial"
  | 4 => .object "TrialGarden$Text"
  | 5 => .object "TrialGarden$Text"
  | 6 => .int
  | _ => .int
abbrev wsX110 : List Cond := u_ws RX11 TX11 8
theorem nmX11 : ∀ a, a < 8 → ∀ b, b < 8 → a ≠ b → (TX11 a).2.1 ≠ (TX11 b).2.1 := by decide +kernel
theorem tyX11_ok : ∀ k, k < 8 → parseFieldDescriptor (TX11 k).2.2.1 = some (tyX11 k) := by decide +kernel
def RX12 : String := "TrialGardenModel$Program"
def TX12 : u_T := fun k => match k with
  | 0 => ("TrialGardenModel$Program", "classes", "I", false)
  | 1 => ("TrialGardenModel$Program", "cA", "[J", true)
  | 2 => ("TrialGardenModel$Program", "cB", "[J", true)
  | 3 => ("TrialGardenModel$Program", "cAbove", "[I", true)
  | 4 => ("TrialGardenModel$Program", "cFields", "[I", true)
  | 5 => ("TrialGardenModel$Program", "cCells", "[I", true)
  | 6 => ("TrialGardenModel$Program", "fA", "[J", true)
  | 7 => ("TrialGardenModel$Program", "fB", "[J", true)
  | 8 => ("TrialGardenModel$Program", "fRow", "[I", true)
  | 9 => ("TrialGardenModel$Program", "fFrom", "[I", true)
  | 10 => ("TrialGardenModel$Program", "fInit", "[I", true)
  | 11 => ("TrialGardenModel$Program", "kEx", "[I", true)
  | 12 => ("TrialGardenModel$Program", "kAt", "[I", true)
  | 13 => ("TrialGardenModel$Program", "kMany", "[I", true)
  | 14 => ("TrialGardenModel$Program", "has", "[I", true)
  | 15 => ("TrialGardenModel$Program", "hMany", "[I", true)
  | 16 => ("TrialGardenModel$Program", "mA", "[J", true)
  | 17 => ("TrialGardenModel$Program", "mB", "[J", true)
  | 18 => ("TrialGardenModel$Program", "mClass", "[I", true)
  | 19 => ("TrialGardenModel$Program", "mParams", "[I", true)
  | 20 => ("TrialGardenModel$Program", "mLow", "[I", true)
  | 21 => ("TrialGardenModel$Program", "mHigh", "[I", true)
  | 22 => ("TrialGardenModel$Program", "mMarks", "[I", true)
  | 23 => ("TrialGardenModel$Program", "mBlock", "[I", true)
  | 24 => ("TrialGardenModel$Program", "mStatements", "[I", true)
  | 25 => ("TrialGardenModel$Program", "mAt", "[I", true)
  | 26 => ("TrialGardenModel$Program", "mPure", "[Z", true)
  | 27 => ("TrialGardenModel$Program", "members", "I", false)
  | 28 => ("TrialGardenModel$Program", "aKind", "[I", true)
  | 29 => ("TrialGardenModel$Program", "aEx", "[I", true)
  | 30 => ("TrialGardenModel$Program", "aAt", "[I", true)
  | 31 => ("TrialGardenModel$Program", "aMask", "[I", true)
  | 32 => ("TrialGardenModel$Program", "aA", "[J", true)
  | 33 => ("TrialGardenModel$Program", "aB", "[J", true)
  | 34 => ("TrialGardenModel$Program", "sOp", "[I", true)
  | 35 => ("TrialGardenModel$Program", "sVar", "[I", true)
  | 36 => ("TrialGardenModel$Program", "sRef", "[I", true)
  | 37 => ("TrialGardenModel$Program", "sIndex", "[I", true)
  | 38 => ("TrialGardenModel$Program", "sEx", "[I", true)
  | 39 => ("TrialGardenModel$Program", "sBlock", "[I", true)
  | 40 => ("TrialGardenModel$Program", "sElse", "[I", true)
  | 41 => ("TrialGardenModel$Program", "sNext", "[I", true)
  | 42 => ("TrialGardenModel$Program", "sOf", "[I", true)
  | 43 => ("TrialGardenModel$Program", "sA", "[J", true)
  | 44 => ("TrialGardenModel$Program", "sB", "[J", true)
  | 45 => ("TrialGardenModel$Program", "begun", "[Z", true)
  | 46 => ("TrialGardenModel$Program", "statements", "I", false)
  | 47 => ("TrialGardenModel$Program", "nOp", "[I", true)
  | 48 => ("TrialGardenModel$Program", "nX", "[I", true)
  | 49 => ("TrialGardenModel$Program", "nY", "[I", true)
  | 50 => ("TrialGardenModel$Program", "nVar", "[I", true)
  | 51 => ("TrialGardenModel$Program", "nHigh", "[I", true)
  | 52 => ("TrialGardenModel$Program", "nMany", "[I", true)
  | 53 => ("TrialGardenModel$Program", "nArgs", "[I", true)
  | 54 => ("TrialGardenModel$Program", "nOf", "[I", true)
  | 55 => ("TrialGardenModel$Program", "nA", "[J", true)
  | 56 => ("TrialGardenModel$Program", "nB", "[J", true)
  | 57 => ("TrialGardenModel$Program", "nodes", "I", false)
  | 58 => ("TrialGardenModel$Program", "parts", "I", false)
  | _ => ("TrialGardenModel$Program", "model", "[I", true)
def tyX12 : Nat → FieldType := fun k => match k with
  | 0 => .int
  | 1 => .array .long
  | 2 => .array .long
  | 3 => .array .int
  | 4 => .array .int
  | 5 => .array .int
  | 6 => .array .long
  | 7 => .array .long
  | 8 => .array .int
  | 9 => .array .int
  | 10 => .array .int
  | 11 => .array .int
  | 12 => .array .int
  | 13 => .array .int
  | 14 => .array .int
  | 15 => .array .int
  | 16 => .array .long
  | 17 => .array .long
  | 18 => .array .int
  | 19 => .array .int
  | 20 => .array .int
  | 21 => .array .int
  | 22 => .array .int
  | 23 => .array .int
  | 24 => .array .int
  | 25 => .array .int
  | 26 => .array .boolean
  | 27 => .int
  | 28 => .array .int
  | 29 => .array .int
  | 30 => .array .int
  | 31 => .array .int
  | 32 => .array .long
  | 33 => .array .long
  | 34 => .array .int
  | 35 => .array .int
  | 36 => .array .int
  | 37 => .array .int
  | 38 => .array .int
  | 39 => .array .int
  | 40 => .array .int
  | 41 => .array .int
  | 42 => .array .int
  | 43 => .array .long
  | 44 => .array .long
  | 45 => .array .boolean
  | 46 => .int
  | 47 => .array .int
  | 48 => .array .int
  | 49 => .array .int
  | 50 => .array .int
  | 51 => .array .int
  | 52 => .array .int
  | 53 => .array .int
  | 54 => .array .int
  | 55 => .array .long
  | 56 => .array .long
  | 57 => .int
  | 58 => .int
  | _ => .array .int
abbrev wsX120 : List Cond := u_ws RX12 TX12 60
theorem nmX12 : ∀ a, a < 60 → ∀ b, b < 60 → a ≠ b → (TX12 a).2.1 ≠ (TX12 b).2.1 := by decide +kernel
theorem tyX12_ok : ∀ k, k < 60 → parseFieldDescriptor (TX12 k).2.2.1 = some (tyX12 k) := by decide +kernel
def RX13 : String := "TrialGardenModel$Stop"
def TX13 : u_T := fun k => match k with
  | 0 => ("java/lang/Throwable", "cause", "Ljava/lang/Throwable;", false)
  | 1 => ("java/lang/Throwable", "stackTrace", "[Ljava/lang/StackTraceElement;", false)
  | 2 => ("java/lang/Throwable", "suppressedExceptions", "Ljava/util/List;", false)
  | 3 => ("java/lang/Throwable", "detailMessage", "Ljava/lang/String;", false)
  | 4 => ("java/lang/Throwable", "backtrace", "Ljava/lang/Object;", false)
  | _ => ("java/lang/Throwable", "depth", "I", false)
def tyX13 : Nat → FieldType := fun k => match k with
  | 0 => .object "java/lang/Throwable"
  | 1 => .array (.object "java/lang/StackTraceElement")
  | 2 => .object "java/util/List"
  | 3 => .object "java/lang/String"
  | 4 => .object "java/lang/Object"
  | _ => .int
abbrev wsX130 : List Cond := u_ws RX13 TX13 6
theorem nmX13 : ∀ a, a < 6 → ∀ b, b < 6 → a ≠ b → (TX13 a).2.1 ≠ (TX13 b).2.1 := by decide +kernel
theorem tyX13_ok : ∀ k, k < 6 → parseFieldDescriptor (TX13 k).2.2.1 = some (tyX13 k) := by decide +kernel
def RX14 : String := "TrialGardenModel"
def TX14 : u_T := fun k => match k with
  | 0 => ("TrialGardenModel", "stop", "LTrialGardenModel$Stop;", true)
  | 1 => ("TrialGardenModel", "now", "LTrialGardenModel$Program;", false)
  | 2 => ("TrialGardenModel", "p", "LTrialGardenModel$Program;", false)
  | 3 => ("TrialGardenModel", "tape", "[B", true)
  | 4 => ("TrialGardenModel", "taped", "I", false)
  | 5 => ("TrialGardenModel", "size", "I", false)
  | 6 => ("TrialGardenModel", "sort", "I", false)
  | 7 => ("TrialGardenModel", "what", "I", false)
  | 8 => ("TrialGardenModel", "at", "I", false)
  | 9 => ("TrialGardenModel", "end", "I", false)
  | 10 => ("TrialGardenModel", "tokens", "I", false)
  | 11 => ("TrialGardenModel", "worth", "J", false)
  | 12 => ("TrialGardenModel", "nameA", "J", false)
  | 13 => ("TrialGardenModel", "nameB", "J", false)
  | 14 => ("TrialGardenModel", "faultKind", "I", false)
  | 15 => ("TrialGardenModel", "faultPlace", "I", false)
  | 16 => ("TrialGardenModel", "of", "I", false)
  | 17 => ("TrialGardenModel", "member", "I", false)
  | 18 => ("TrialGardenModel", "lA", "[J", true)
  | 19 => ("TrialGardenModel", "lB", "[J", true)
  | 20 => ("TrialGardenModel", "params", "I", false)
  | 21 => ("TrialGardenModel", "locals", "I", false)
  | 22 => ("TrialGardenModel", "inMarks", "Z", false)
  | 23 => ("TrialGardenModel", "inGives", "Z", false)
  | 24 => ("TrialGardenModel", "inKept", "Z", false)
  | 25 => ("TrialGardenModel", "open", "I", false)
  | 26 => ("TrialGardenModel", "braces", "I", false)
  | 27 => ("TrialGardenModel", "oClass", "[I", true)
  | 28 => ("TrialGardenModel", "cells", "[I", true)
  | 29 => ("TrialGardenModel", "before", "[I", true)
  | 30 => ("TrialGardenModel", "objects", "I", false)
  | 31 => ("TrialGardenModel", "ends", "I", false)
  | 32 => ("TrialGardenModel", "thrownA", "J", false)
  | 33 => ("TrialGardenModel", "thrownB", "J", false)
  | 34 => ("TrialGardenModel", "steps", "I", false)
  | 35 => ("TrialGardenModel", "within", "I", false)
  | 36 => ("TrialGardenModel", "asks", "Z", false)
  | 37 => ("TrialGardenModel", "sees", "Z", false)
  | 38 => ("TrialGardenModel", "result", "I", false)
  | 39 => ("TrialGardenModel", "lastA", "J", false)
  | 40 => ("TrialGardenModel", "lastB", "J", false)
  | 41 => ("TrialGardenModel", "args", "[I", true)
  | 42 => ("TrialGardenModel", "slots", "[I", true)
  | 43 => ("TrialGardenModel", "self", "[I", true)
  | 44 => ("TrialGardenModel", "gives", "[I", true)
  | 45 => ("TrialGardenModel", "returns", "Z", false)
  | 46 => ("TrialGardenModel", "rObject", "[I", true)
  | 47 => ("TrialGardenModel", "rMember", "[I", true)
  | 48 => ("TrialGardenModel", "rArgs", "[I", true)
  | 49 => ("TrialGardenModel", "rGave", "[I", true)
  | 50 => ("TrialGardenModel", "rDone", "[I", true)
  | 51 => ("TrialGardenModel", "rows", "I", false)
  | 52 => ("TrialGardenModel", "rowObjects", "I", false)
  | 53 => ("TrialGardenModel", "altered", "Z", false)
  | 54 => ("TrialGardenModel", "rowClass", "[I", true)
  | 55 => ("TrialGardenModel", "verdict", "I", false)
  | 56 => ("TrialGardenModel", "condition", "[I", true)
  | 57 => ("TrialGardenModel", "changed", "[I", true)
  | 58 => ("TrialGardenModel", "tried", "I", false)
  | 59 => ("TrialGardenModel", "cutRows", "I", false)
  | 60 => ("TrialGardenModel", "drawn", "I", false)
  | 61 => ("TrialGardenModel", "found", "I", false)
  | 62 => ("TrialGardenModel", "tObject", "[I", true)
  | 63 => ("TrialGardenModel", "tMember", "[I", true)
  | 64 => ("TrialGardenModel", "tArgs", "[I", true)
  | 65 => ("TrialGardenModel", "tRows", "I", false)
  | _ => ("TrialGardenModel", "tObjects", "I", false)
def tyX14 : Nat → FieldType := fun k => match k with
  | 0 => .object "TrialGardenModel$Stop"
  | 1 => .object "TrialGardenModel$Program"
  | 2 => .object "TrialGardenModel$Program"
  | 3 => .array .byte
  | 4 => .int
  | 5 => .int
  | 6 => .int
  | 7 => .int
  | 8 => .int
  | 9 => .int
  | 10 => .int
  | 11 => .long
  | 12 => .long
  | 13 => .long
  | 14 => .int
  | 15 => .int
  | 16 => .int
  | 17 => .int
  | 18 => .array .long
  | 19 => .array .long
  | 20 => .int
  | 21 => .int
  | 22 => .boolean
  | 23 => .boolean
  | 24 => .boolean
  | 25 => .int
  | 26 => .int
  | 27 => .array .int
  | 28 => .array .int
  | 29 => .array .int
  | 30 => .int
  | 31 => .int
  | 32 => .long
  | 33 => .long
  | 34 => .int
  | 35 => .int
  | 36 => .boolean
  | 37 => .boolean
  | 38 => .int
  | 39 => .long
  | 40 => .long
  | 41 => .array .int
  | 42 => .array .int
  | 43 => .array .int
  | 44 => .array .int
  | 45 => .boolean
  | 46 => .array .int
  | 47 => .array .int
  | 48 => .array .int
  | 49 => .array .int
  | 50 => .array .int
  | 51 => .int
  | 52 => .int
  | 53 => .boolean
  | 54 => .array .int
  | 55 => .int
  | 56 => .array .int
  | 57 => .array .int
  | 58 => .int
  | 59 => .int
  | 60 => .int
  | 61 => .int
  | 62 => .array .int
  | 63 => .array .int
  | 64 => .array .int
  | 65 => .int
  | _ => .int
abbrev wsX140 : List Cond := u_ws RX14 TX14 67
theorem nmX14 : ∀ a, a < 67 → ∀ b, b < 67 → a ≠ b → (TX14 a).2.1 ≠ (TX14 b).2.1 := by decide +kernel
theorem tyX14_ok : ∀ k, k < 67 → parseFieldDescriptor (TX14 k).2.2.1 = some (tyX14 k) := by decide +kernel
def RJ11 : String := "java/lang/Character"
def RJ9 : String := "java/lang/Math"
def RJ0 : String := "java/lang/String"
def RJ1 : String := "java/lang/StringLatin1"
def RJ2 : String := "java/lang/StringUTF16"
def RJ10 : String := "java/lang/System"
def RJ3 : String := "jdk/internal/util/Preconditions"
abbrev vwCl : List vw_C := [(RX0, TX0, 14), (RX1, TX1, 18), (RX2, TX2, 16), (RX3, TX3, 6), (RX4, TX4, 17), (RX5, TX5, 9), (RX6, TX6, 13), (RX7, TX7, 19), (RX8, TX8, 10), (RX9, TX9, 13), (RX10, TX10, 10), (RX11, TX11, 8), (RX12, TX12, 60), (RX13, TX13, 6), (RX14, TX14, 67)]
set_option maxRecDepth 100000 in
theorem inX0 : ∀ w ∈ u_ws RX0 TX0 14, w ∈ lw_g := inP_ [387, 389, 391, 393, 395, 397, 399, 401, 403, 405, 407, 409, 411, 413] (by decide +kernel) (by decide +kernel)
theorem dfX0 : ∀ j, j < 14 → defaultValue (tyX0 j) = vp_V [.null, .null, .null, .null, .null, .null, .null, .null, .int 0, .null, .int 0, .int 0, .int 0, .int 0] j := fun j hj => match j, hj with
  | 0, _ => rfl
  | 1, _ => rfl
  | 2, _ => rfl
  | 3, _ => rfl
  | 4, _ => rfl
  | 5, _ => rfl
  | 6, _ => rfl
  | 7, _ => rfl
  | 8, _ => rfl
  | 9, _ => rfl
  | 10, _ => rfl
  | 11, _ => rfl
  | 12, _ => rfl
  | 13, _ => rfl
  | n + 14, h => absurd h (by omega)
set_option maxRecDepth 100000 in
theorem inX1 : ∀ w ∈ u_ws RX1 TX1 18, w ∈ lw_g := inP_ [756, 758, 760, 762, 764, 766, 768, 770, 772, 774, 776, 778, 780, 782, 784, 786, 788, 790] (by decide +kernel) (by decide +kernel)
theorem dfX1 : ∀ j, j < 18 → defaultValue (tyX1 j) = vp_V [.null, .null, .null, .null, .null, .int 0, .int 0, .null, .int 0, .null, .null, .int 0, .int 0, .int 0, .int 0, .int 0, .int 0, .long 0] j := fun j hj => match j, hj with
  | 0, _ => rfl
  | 1, _ => rfl
  | 2, _ => rfl
  | 3, _ => rfl
  | 4, _ => rfl
  | 5, _ => rfl
  | 6, _ => rfl
  | 7, _ => rfl
  | 8, _ => rfl
  | 9, _ => rfl
  | 10, _ => rfl
  | 11, _ => rfl
  | 12, _ => rfl
  | 13, _ => rfl
  | 14, _ => rfl
  | 15, _ => rfl
  | 16, _ => rfl
  | 17, _ => rfl
  | n + 18, h => absurd h (by omega)
set_option maxRecDepth 100000 in
theorem inX2 : ∀ w ∈ u_ws RX2 TX2 16, w ∈ lw_g := inP_ [432, 434, 436, 438, 440, 442, 444, 446, 448, 450, 452, 454, 456, 458, 460, 462] (by decide +kernel) (by decide +kernel)
theorem dfX2 : ∀ j, j < 16 → defaultValue (tyX2 j) = vp_V [.null, .null, .null, .null, .null, .null, .int 0, .null, .null, .null, .null, .int 0, .int 0, .int 0, .int 0, .int 0] j := fun j hj => match j, hj with
  | 0, _ => rfl
  | 1, _ => rfl
  | 2, _ => rfl
  | 3, _ => rfl
  | 4, _ => rfl
  | 5, _ => rfl
  | 6, _ => rfl
  | 7, _ => rfl
  | 8, _ => rfl
  | 9, _ => rfl
  | 10, _ => rfl
  | 11, _ => rfl
  | 12, _ => rfl
  | 13, _ => rfl
  | 14, _ => rfl
  | 15, _ => rfl
  | n + 16, h => absurd h (by omega)
set_option maxRecDepth 100000 in
theorem inX3 : ∀ w ∈ u_ws RX3 TX3 6, w ∈ lw_g := inP_ [816, 818, 820, 822, 824, 826] (by decide +kernel) (by decide +kernel)
theorem dfX3 : ∀ j, j < 6 → defaultValue (tyX3 j) = vp_V [.int 0, .null, .null, .null, .int 0, .null] j := fun j hj => match j, hj with
  | 0, _ => rfl
  | 1, _ => rfl
  | 2, _ => rfl
  | 3, _ => rfl
  | 4, _ => rfl
  | 5, _ => rfl
  | n + 6, h => absurd h (by omega)
set_option maxRecDepth 100000 in
theorem inX4 : ∀ w ∈ u_ws RX4 TX4 17, w ∈ lw_g := inP_ [877, 879, 881, 883, 885, 887, 889, 891, 893, 895, 897, 899, 901, 903, 905, 907, 909] (by decide +kernel) (by decide +kernel)
theorem dfX4 : ∀ j, j < 17 → defaultValue (tyX4 j) = vp_V [.int 0, .int 0, .int 0, .int 0, .int 0, .long 0, .int 0, .null, .null, .null, .null, .null, .null, .null, .int 0, .int 0, .int 0] j := fun j hj => match j, hj with
  | 0, _ => rfl
  | 1, _ => rfl
  | 2, _ => rfl
  | 3, _ => rfl
  | 4, _ => rfl
  | 5, _ => rfl
  | 6, _ => rfl
  | 7, _ => rfl
  | 8, _ => rfl
  | 9, _ => rfl
  | 10, _ => rfl
  | 11, _ => rfl
  | 12, _ => rfl
  | 13, _ => rfl
  | 14, _ => rfl
  | 15, _ => rfl
  | 16, _ => rfl
  | n + 17, h => absurd h (by omega)
set_option maxRecDepth 100000 in
theorem inX5 : ∀ w ∈ u_ws RX5 TX5 9, w ∈ lw_g := inP_ [348, 350, 352, 354, 356, 358, 360, 362, 364] (by decide +kernel) (by decide +kernel)
theorem dfX5 : ∀ j, j < 9 → defaultValue (tyX5 j) = vp_V [.null, .null, .int 0, .null, .int 0, .null, .int 0, .int 0, .int 0] j := fun j hj => match j, hj with
  | 0, _ => rfl
  | 1, _ => rfl
  | 2, _ => rfl
  | 3, _ => rfl
  | 4, _ => rfl
  | 5, _ => rfl
  | 6, _ => rfl
  | 7, _ => rfl
  | 8, _ => rfl
  | n + 9, h => absurd h (by omega)
set_option maxRecDepth 100000 in
theorem inX6 : ∀ w ∈ u_ws RX6 TX6 13, w ∈ lw_g := inP_ [593, 595, 597, 599, 601, 603, 605, 607, 609, 611, 613, 615, 617] (by decide +kernel) (by decide +kernel)
theorem dfX6 : ∀ j, j < 13 → defaultValue (tyX6 j) = vp_V [.long 0, .int 0, .int 0, .int 0, .null, .null, .int 0, .int 0, .int 0, .int 0, .int 0, .int 0, .int 0] j := fun j hj => match j, hj with
  | 0, _ => rfl
  | 1, _ => rfl
  | 2, _ => rfl
  | 3, _ => rfl
  | 4, _ => rfl
  | 5, _ => rfl
  | 6, _ => rfl
  | 7, _ => rfl
  | 8, _ => rfl
  | 9, _ => rfl
  | 10, _ => rfl
  | 11, _ => rfl
  | 12, _ => rfl
  | n + 13, h => absurd h (by omega)
set_option maxRecDepth 100000 in
theorem inX7 : ∀ w ∈ u_ws RX7 TX7 19, w ∈ lw_g := inP_ [683, 685, 687, 689, 691, 693, 695, 697, 699, 701, 703, 705, 707, 709, 711, 713, 715, 717, 719] (by decide +kernel) (by decide +kernel)
theorem dfX7 : ∀ j, j < 19 → defaultValue (tyX7 j) = vp_V [.null, .int 0, .null, .int 0, .null, .null, .int 0, .null, .null, .null, .null, .null, .null, .int 0, .null, .int 0, .null, .int 0, .int 0] j := fun j hj => match j, hj with
  | 0, _ => rfl
  | 1, _ => rfl
  | 2, _ => rfl
  | 3, _ => rfl
  | 4, _ => rfl
  | 5, _ => rfl
  | 6, _ => rfl
  | 7, _ => rfl
  | 8, _ => rfl
  | 9, _ => rfl
  | 10, _ => rfl
  | 11, _ => rfl
  | 12, _ => rfl
  | 13, _ => rfl
  | 14, _ => rfl
  | 15, _ => rfl
  | 16, _ => rfl
  | 17, _ => rfl
  | 18, _ => rfl
  | n + 19, h => absurd h (by omega)
set_option maxRecDepth 100000 in
theorem inX8 : ∀ w ∈ u_ws RX8 TX8 10, w ∈ lw_g := inP_ [298, 300, 302, 304, 306, 308, 310, 312, 314, 316] (by decide +kernel) (by decide +kernel)
theorem dfX8 : ∀ j, j < 10 → defaultValue (tyX8 j) = vp_V [.null, .null, .null, .null, .null, .int 0, .int 0, .int 0, .int 0, .int 0] j := fun j hj => match j, hj with
  | 0, _ => rfl
  | 1, _ => rfl
  | 2, _ => rfl
  | 3, _ => rfl
  | 4, _ => rfl
  | 5, _ => rfl
  | 6, _ => rfl
  | 7, _ => rfl
  | 8, _ => rfl
  | 9, _ => rfl
  | n + 10, h => absurd h (by omega)
set_option maxRecDepth 100000 in
theorem inX9 : ∀ w ∈ u_ws RX9 TX9 13, w ∈ lw_g := inP_ [521, 523, 525, 527, 529, 531, 533, 535, 537, 539, 541, 543, 545] (by decide +kernel) (by decide +kernel)
theorem dfX9 : ∀ j, j < 13 → defaultValue (tyX9 j) = vp_V [.long 0, .int 0, .int 0, .null, .null, .null, .null, .int 0, .int 0, .null, .int 0, .int 0, .int 0] j := fun j hj => match j, hj with
  | 0, _ => rfl
  | 1, _ => rfl
  | 2, _ => rfl
  | 3, _ => rfl
  | 4, _ => rfl
  | 5, _ => rfl
  | 6, _ => rfl
  | 7, _ => rfl
  | 8, _ => rfl
  | 9, _ => rfl
  | 10, _ => rfl
  | 11, _ => rfl
  | 12, _ => rfl
  | n + 13, h => absurd h (by omega)
set_option maxRecDepth 100000 in
theorem inX10 : ∀ w ∈ u_ws RX10 TX10 10, w ∈ lw_g := inP_ [927, 929, 931, 933, 935, 937, 939, 941, 943, 945] (by decide +kernel) (by decide +kernel)
theorem dfX10 : ∀ j, j < 10 → defaultValue (tyX10 j) = vp_V [.null, .null, .null, .null, .null, .null, .int 0, .int 0, .int 0, .int 0] j := fun j hj => match j, hj with
  | 0, _ => rfl
  | 1, _ => rfl
  | 2, _ => rfl
  | 3, _ => rfl
  | 4, _ => rfl
  | 5, _ => rfl
  | 6, _ => rfl
  | 7, _ => rfl
  | 8, _ => rfl
  | 9, _ => rfl
  | n + 10, h => absurd h (by omega)
set_option maxRecDepth 100000 in
theorem inX11 : ∀ w ∈ u_ws RX11 TX11 8, w ∈ lw_g := inP_ [956, 958, 960, 962, 964, 966, 968, 970] (by decide +kernel) (by decide +kernel)
theorem dfX11 : ∀ j, j < 8 → defaultValue (tyX11 j) = vp_V [.null, .int 0, .null, .null, .null, .null, .int 0, .int 0] j := fun j hj => match j, hj with
  | 0, _ => rfl
  | 1, _ => rfl
  | 2, _ => rfl
  | 3, _ => rfl
  | 4, _ => rfl
  | 5, _ => rfl
  | 6, _ => rfl
  | 7, _ => rfl
  | n + 8, h => absurd h (by omega)
set_option maxRecDepth 100000 in
theorem inX12 : ∀ w ∈ u_ws RX12 TX12 60, w ∈ lw_g := inP_ [2021, 2023, 2025, 2027, 2029, 2031, 2033, 2035, 2037, 2039, 2041, 2043, 2045, 2047, 2049, 2051, 2053, 2055, 2057, 2059, 2061, 2063, 2065, 2067, 2069, 2071, 2073, 2075, 2077, 2079, 2081, 2083, 2085, 2087, 2089, 2091, 2093, 2095, 2097, 2099, 2101, 2103, 2105, 2107, 2109, 2111, 2113, 2115, 2117, 2119, 2121, 2123, 2125, 2127, 2129, 2131, 2133, 2135, 2137, 2139] (by decide +kernel) (by decide +kernel)
theorem dfX12 : ∀ j, j < 60 → defaultValue (tyX12 j) = vp_V [.int 0, .null, .null, .null, .null, .null, .null, .null, .null, .null, .null, .null, .null, .null, .null, .null, .null, .null, .null, .null, .null, .null, .null, .null, .null, .null, .null, .int 0, .null, .null, .null, .null, .null, .null, .null, .null, .null, .null, .null, .null, .null, .null, .null, .null, .null, .null, .int 0, .null, .null, .null, .null, .null, .null, .null, .null, .null, .null, .int 0, .int 0, .null] j := fun j hj => match j, hj with
  | 0, _ => rfl
  | 1, _ => rfl
  | 2, _ => rfl
  | 3, _ => rfl
  | 4, _ => rfl
  | 5, _ => rfl
  | 6, _ => rfl
  | 7, _ => rfl
  | 8, _ => rfl
  | 9, _ => rfl
  | 10, _ => rfl
  | 11, _ => rfl
  | 12, _ => rfl
  | 13, _ => rfl
  | 14, _ => rfl
  | 15, _ => rfl
  | 16, _ => rfl
  | 17, _ => rfl
  | 18, _ => rfl
  | 19, _ => rfl
  | 20, _ => rfl
  | 21, _ => rfl
  | 22, _ => rfl
  | 23, _ => rfl
  | 24, _ => rfl
  | 25, _ => rfl
  | 26, _ => rfl
  | 27, _ => rfl
  | 28, _ => rfl
  | 29, _ => rfl
  | 30, _ => rfl
  | 31, _ => rfl
  | 32, _ => rfl
  | 33, _ => rfl
  | 34, _ => rfl
  | 35, _ => rfl
  | 36, _ => rfl
  | 37, _ => rfl
  | 38, _ => rfl
  | 39, _ => rfl
  | 40, _ => rfl
  | 41, _ => rfl
  | 42, _ => rfl
  | 43, _ => rfl
  | 44, _ => rfl
  | 45, _ => rfl
  | 46, _ => rfl
  | 47, _ => rfl
  | 48, _ => rfl
  | 49, _ => rfl
  | 50, _ => rfl
  | 51, _ => rfl
  | 52, _ => rfl
  | 53, _ => rfl
  | 54, _ => rfl
  | 55, _ => rfl
  | 56, _ => rfl
  | 57, _ => rfl
  | 58, _ => rfl
  | 59, _ => rfl
  | n + 60, h => absurd h (by omega)
set_option maxRecDepth 100000 in
theorem inX13 : ∀ w ∈ u_ws RX13 TX13 6, w ∈ lw_g := inP_ [1847, 1849, 1851, 1853, 1855, 1896] (by decide +kernel) (by decide +kernel)
theorem dfX13 : ∀ j, j < 6 → defaultValue (tyX13 j) = vp_V [.null, .null, .null, .null, .null, .int 0] j := fun j hj => match j, hj with
  | 0, _ => rfl
  | 1, _ => rfl
  | 2, _ => rfl
  | 3, _ => rfl
  | 4, _ => rfl
  | 5, _ => rfl
  | n + 6, h => absurd h (by omega)
set_option maxRecDepth 100000 in
theorem inX14 : ∀ w ∈ u_ws RX14 TX14 67, w ∈ lw_g := inP_ [2213, 2215, 2217, 2219, 2221, 2223, 2225, 2227, 2229, 2231, 2233, 2235, 2237, 2239, 2241, 2243, 2245, 2247, 2249, 2251, 2253, 2255, 2257, 2259, 2261, 2263, 2265, 2267, 2269, 2271, 2273, 2275, 2277, 2279, 2281, 2283, 2285, 2287, 2289, 2291, 2293, 2295, 2297, 2299, 2301, 2303, 2305, 2307, 2309, 2311, 2313, 2315, 2317, 2319, 2321, 2323, 2325, 2327, 2329, 2331, 2333, 2335, 2337, 2339, 2341, 2343, 2345] (by decide +kernel) (by decide +kernel)
theorem dfX14 : ∀ j, j < 67 → defaultValue (tyX14 j) = vp_V [.null, .null, .null, .null, .int 0, .int 0, .int 0, .int 0, .int 0, .int 0, .int 0, .long 0, .long 0, .long 0, .int 0, .int 0, .int 0, .int 0, .null, .null, .int 0, .int 0, .int 0, .int 0, .int 0, .int 0, .int 0, .null, .null, .null, .int 0, .int 0, .long 0, .long 0, .int 0, .int 0, .int 0, .int 0, .int 0, .long 0, .long 0, .null, .null, .null, .null, .int 0, .null, .null, .null, .null, .null, .int 0, .int 0, .int 0, .null, .int 0, .null, .null, .int 0, .int 0, .int 0, .int 0, .null, .null, .null, .int 0, .int 0] j := fun j hj => match j, hj with
  | 0, _ => rfl
  | 1, _ => rfl
  | 2, _ => rfl
  | 3, _ => rfl
  | 4, _ => rfl
  | 5, _ => rfl
  | 6, _ => rfl
  | 7, _ => rfl
  | 8, _ => rfl
  | 9, _ => rfl
  | 10, _ => rfl
  | 11, _ => rfl
  | 12, _ => rfl
  | 13, _ => rfl
  | 14, _ => rfl
  | 15, _ => rfl
  | 16, _ => rfl
  | 17, _ => rfl
  | 18, _ => rfl
  | 19, _ => rfl
  | 20, _ => rfl
  | 21, _ => rfl
  | 22, _ => rfl
  | 23, _ => rfl
  | 24, _ => rfl
  | 25, _ => rfl
  | 26, _ => rfl
  | 27, _ => rfl
  | 28, _ => rfl
  | 29, _ => rfl
  | 30, _ => rfl
  | 31, _ => rfl
  | 32, _ => rfl
  | 33, _ => rfl
  | 34, _ => rfl
  | 35, _ => rfl
  | 36, _ => rfl
  | 37, _ => rfl
  | 38, _ => rfl
  | 39, _ => rfl
  | 40, _ => rfl
  | 41, _ => rfl
  | 42, _ => rfl
  | 43, _ => rfl
  | 44, _ => rfl
  | 45, _ => rfl
  | 46, _ => rfl
  | 47, _ => rfl
  | 48, _ => rfl
  | 49, _ => rfl
  | 50, _ => rfl
  | 51, _ => rfl
  | 52, _ => rfl
  | 53, _ => rfl
  | 54, _ => rfl
  | 55, _ => rfl
  | 56, _ => rfl
  | 57, _ => rfl
  | 58, _ => rfl
  | 59, _ => rfl
  | 60, _ => rfl
  | 61, _ => rfl
  | 62, _ => rfl
  | 63, _ => rfl
  | 64, _ => rfl
  | 65, _ => rfl
  | 66, _ => rfl
  | n + 67, h => absurd h (by omega)
end
section
theorem t_213 : Cond.instanceMethod objectInit ∈ lw_g := gg_ (i := 213) (by decide +kernel) (by decide +kernel)
theorem t_214 : Cond.code objectInit ⟨#[0xb1]⟩ 1 none ∈ lw_g := gg_ (i := 214) (by decide +kernel) (by decide +kernel)
theorem t_320 : Cond.arrayClass .int ∈ lw_g := gg_ (i := 320) (by decide +kernel) (by decide +kernel)
theorem t_321 : Cond.arrayClass .long ∈ lw_g := gg_ (i := 321) (by decide +kernel) (by decide +kernel)
theorem t_326 : Cond.code yX5_init cX5_init 1 none ∈ lw_g := gg_ (i := 326) (by decide +kernel) (by decide +kernel)
theorem t_327 : Cond.methodLink RX5 1 objectInit ∈ lw_g := gg_ (i := 327) (by decide +kernel) (by decide +kernel)
theorem t_334 : Cond.fieldLink RX5 9 "TrialGarden$Scope" "params" "[J" ∈ lw_g := gg_ (i := 334) (by decide +kernel) (by decide +kernel)
theorem t_338 : Cond.fieldLink RX5 15 "TrialGarden$Scope" "locals" "[J" ∈ lw_g := gg_ (i := 338) (by decide +kernel) (by decide +kernel)
theorem t_476 : Cond.code yX9_init cX9_init 1 none ∈ lw_g := gg_ (i := 476) (by decide +kernel) (by decide +kernel)
theorem t_477 : Cond.methodLink RX9 3 objectInit ∈ lw_g := gg_ (i := 477) (by decide +kernel) (by decide +kernel)
theorem t_488 : Cond.fieldLink RX9 11 "TrialGarden$Toy" "fieldName" "[J" ∈ lw_g := gg_ (i := 488) (by decide +kernel) (by decide +kernel)
theorem t_489 : Cond.fieldLink RX9 15 "TrialGarden$Toy" "fieldStart" "[I" ∈ lw_g := gg_ (i := 489) (by decide +kernel) (by decide +kernel)
theorem t_490 : Cond.fieldLink RX9 19 "TrialGarden$Toy" "rowCells" "[I" ∈ lw_g := gg_ (i := 490) (by decide +kernel) (by decide +kernel)
theorem t_492 : Cond.fieldLink RX9 22 "TrialGarden$Toy" "firstNumber" "[I" ∈ lw_g := gg_ (i := 492) (by decide +kernel) (by decide +kernel)
theorem t_503 : Cond.fieldLink RX9 25 "TrialGarden$Toy" "teller" "[I" ∈ lw_g := gg_ (i := 503) (by decide +kernel) (by decide +kernel)
theorem t_553 : Cond.code yX6_init cX6_init 1 none ∈ lw_g := gg_ (i := 553) (by decide +kernel) (by decide +kernel)
theorem t_554 : Cond.methodLink RX6 1 objectInit ∈ lw_g := gg_ (i := 554) (by decide +kernel) (by decide +kernel)
theorem t_569 : Cond.fieldLink RX6 9 "TrialGarden$Telling" "low" "[I" ∈ lw_g := gg_ (i := 569) (by decide +kernel) (by decide +kernel)
theorem t_573 : Cond.fieldLink RX6 13 "TrialGarden$Telling" "high" "[I" ∈ lw_g := gg_ (i := 573) (by decide +kernel) (by decide +kernel)
theorem t_626 : Cond.fieldLink RX7 58 "TrialGarden$Text" "classCount" "I" ∈ lw_g := gg_ (i := 626) (by decide +kernel) (by decide +kernel)
theorem t_733 : Cond.code yX1_init cX1_init 1 none ∈ lw_g := gg_ (i := 733) (by decide +kernel) (by decide +kernel)
theorem t_734 : Cond.methodLink RX1 3 objectInit ∈ lw_g := gg_ (i := 734) (by decide +kernel) (by decide +kernel)
theorem t_737 : Cond.fieldLink RX1 21 "TrialGarden$Machine" "cells" "[I" ∈ lw_g := gg_ (i := 737) (by decide +kernel) (by decide +kernel)
theorem t_738 : Cond.fieldLink RX1 24 "TrialGarden$Machine" "before" "[I" ∈ lw_g := gg_ (i := 738) (by decide +kernel) (by decide +kernel)
theorem t_739 : Cond.fieldLink RX1 27 "TrialGarden$Machine" "given" "[I" ∈ lw_g := gg_ (i := 739) (by decide +kernel) (by decide +kernel)
theorem t_742 : Cond.fieldLink RX1 11 "TrialGarden$Machine" "stack" "[I" ∈ lw_g := gg_ (i := 742) (by decide +kernel) (by decide +kernel)
theorem t_744 : Cond.fieldLink RX1 15 "TrialGarden$Machine" "slots" "[I" ∈ lw_g := gg_ (i := 744) (by decide +kernel) (by decide +kernel)
theorem t_745 : Cond.fieldLink RX1 18 "TrialGarden$Machine" "backs" "[I" ∈ lw_g := gg_ (i := 745) (by decide +kernel) (by decide +kernel)
theorem t_1283 : Cond.code yX7_hasClass cX7_hasClass 2 (some .boolean) ∈ lw_g := gg_ (i := 1283) (by decide +kernel) (by decide +kernel)
theorem dX1_init_0 : decode cX1_init 0 = .ok (.aload_n 0, 1) := by decide +kernel
theorem dX1_init_1 : decode cX1_init 1 = .ok (.invokespecial 3, 3) := by decide +kernel
theorem dX1_init_4 : decode cX1_init 4 = .ok (.aload_n 0, 1) := by decide +kernel
theorem dX1_init_5 : decode cX1_init 5 = .ok (.sipush 700, 3) := by decide +kernel
theorem dX1_init_8 : decode cX1_init 8 = .ok (.newarray .int, 2) := by decide +kernel
theorem dX1_init_10 : decode cX1_init 10 = .ok (.putfield 11, 3) := by decide +kernel
theorem dX1_init_13 : decode cX1_init 13 = .ok (.aload_n 0, 1) := by decide +kernel
theorem dX1_init_14 : decode cX1_init 14 = .ok (.sipush 231, 3) := by decide +kernel
theorem dX1_init_17 : decode cX1_init 17 = .ok (.newarray .int, 2) := by decide +kernel
theorem dX1_init_19 : decode cX1_init 19 = .ok (.putfield 15, 3) := by decide +kernel
theorem dX1_init_22 : decode cX1_init 22 = .ok (.aload_n 0, 1) := by decide +kernel
theorem dX1_init_23 : decode cX1_init 23 = .ok (.bipush 21, 2) := by decide +kernel
theorem dX1_init_25 : decode cX1_init 25 = .ok (.newarray .int, 2) := by decide +kernel
theorem dX1_init_27 : decode cX1_init 27 = .ok (.putfield 18, 3) := by decide +kernel
theorem dX1_init_30 : decode cX1_init 30 = .ok (.aload_n 0, 1) := by decide +kernel
theorem dX1_init_31 : decode cX1_init 31 = .ok (.aload_n 0, 1) := by decide +kernel
theorem dX1_init_32 : decode cX1_init 32 = .ok (.getfield 11, 3) := by decide +kernel
theorem dX1_init_35 : decode cX1_init 35 = .ok (.putfield 21, 3) := by decide +kernel
theorem dX1_init_38 : decode cX1_init 38 = .ok (.aload_n 0, 1) := by decide +kernel
theorem dX1_init_39 : decode cX1_init 39 = .ok (.aload_n 0, 1) := by decide +kernel
theorem dX1_init_40 : decode cX1_init 40 = .ok (.getfield 11, 3) := by decide +kernel
theorem dX1_init_43 : decode cX1_init 43 = .ok (.putfield 24, 3) := by decide +kernel
theorem dX1_init_46 : decode cX1_init 46 = .ok (.aload_n 0, 1) := by decide +kernel
theorem dX1_init_47 : decode cX1_init 47 = .ok (.aload_n 0, 1) := by decide +kernel
theorem dX1_init_48 : decode cX1_init 48 = .ok (.getfield 11, 3) := by decide +kernel
theorem dX1_init_51 : decode cX1_init 51 = .ok (.putfield 27, 3) := by decide +kernel
theorem dX1_init_54 : decode cX1_init 54 = .ok (.return_, 1) := by decide +kernel
theorem dX5_init_0 : decode cX5_init 0 = .ok (.aload_n 0, 1) := by decide +kernel
theorem dX5_init_1 : decode cX5_init 1 = .ok (.invokespecial 1, 3) := by decide +kernel
theorem dX5_init_4 : decode cX5_init 4 = .ok (.aload_n 0, 1) := by decide +kernel
theorem dX5_init_5 : decode cX5_init 5 = .ok (.iconst 3, 1) := by decide +kernel
theorem dX5_init_6 : decode cX5_init 6 = .ok (.newarray .long, 2) := by decide +kernel
theorem dX5_init_8 : decode cX5_init 8 = .ok (.putfield 9, 3) := by decide +kernel
theorem dX5_init_11 : decode cX5_init 11 = .ok (.aload_n 0, 1) := by decide +kernel
theorem dX5_init_12 : decode cX5_init 12 = .ok (.bipush 8, 2) := by decide +kernel
theorem dX5_init_14 : decode cX5_init 14 = .ok (.newarray .long, 2) := by decide +kernel
theorem dX5_init_16 : decode cX5_init 16 = .ok (.putfield 15, 3) := by decide +kernel
theorem dX5_init_19 : decode cX5_init 19 = .ok (.return_, 1) := by decide +kernel
theorem dX6_init_0 : decode cX6_init 0 = .ok (.aload_n 0, 1) := by decide +kernel
theorem dX6_init_1 : decode cX6_init 1 = .ok (.invokespecial 1, 3) := by decide +kernel
theorem dX6_init_4 : decode cX6_init 4 = .ok (.aload_n 0, 1) := by decide +kernel
theorem dX6_init_5 : decode cX6_init 5 = .ok (.iconst 3, 1) := by decide +kernel
theorem dX6_init_6 : decode cX6_init 6 = .ok (.newarray .int, 2) := by decide +kernel
theorem dX6_init_8 : decode cX6_init 8 = .ok (.putfield 9, 3) := by decide +kernel
theorem dX6_init_11 : decode cX6_init 11 = .ok (.aload_n 0, 1) := by decide +kernel
theorem dX6_init_12 : decode cX6_init 12 = .ok (.iconst 3, 1) := by decide +kernel
theorem dX6_init_13 : decode cX6_init 13 = .ok (.newarray .int, 2) := by decide +kernel
theorem dX6_init_15 : decode cX6_init 15 = .ok (.putfield 13, 3) := by decide +kernel
theorem dX6_init_18 : decode cX6_init 18 = .ok (.return_, 1) := by decide +kernel
theorem dX7_hasClass_0 : decode cX7_hasClass 0 = .ok (.iload_n 1, 1) := by decide +kernel
theorem dX7_hasClass_1 : decode cX7_hasClass 1 = .ok (.ifCond .lt 15, 3) := by decide +kernel
theorem dX7_hasClass_4 : decode cX7_hasClass 4 = .ok (.iload_n 1, 1) := by decide +kernel
theorem dX7_hasClass_5 : decode cX7_hasClass 5 = .ok (.aload_n 0, 1) := by decide +kernel
theorem dX7_hasClass_6 : decode cX7_hasClass 6 = .ok (.getfield 58, 3) := by decide +kernel
theorem dX7_hasClass_9 : decode cX7_hasClass 9 = .ok (.if_icmp .ge 7, 3) := by decide +kernel
theorem dX7_hasClass_12 : decode cX7_hasClass 12 = .ok (.iconst 1, 1) := by decide +kernel
theorem dX7_hasClass_13 : decode cX7_hasClass 13 = .ok (.goto 4, 3) := by decide +kernel
theorem dX7_hasClass_16 : decode cX7_hasClass 16 = .ok (.iconst 0, 1) := by decide +kernel
theorem dX7_hasClass_17 : decode cX7_hasClass 17 = .ok (.ireturn, 1) := by decide +kernel
theorem dX9_init_0 : decode cX9_init 0 = .ok (.aload_n 0, 1) := by decide +kernel
theorem dX9_init_1 : decode cX9_init 1 = .ok (.invokespecial 3, 3) := by decide +kernel
theorem dX9_init_4 : decode cX9_init 4 = .ok (.aload_n 0, 1) := by decide +kernel
theorem dX9_init_5 : decode cX9_init 5 = .ok (.bipush 10, 2) := by decide +kernel
theorem dX9_init_7 : decode cX9_init 7 = .ok (.newarray .long, 2) := by decide +kernel
theorem dX9_init_9 : decode cX9_init 9 = .ok (.putfield 11, 3) := by decide +kernel
theorem dX9_init_12 : decode cX9_init 12 = .ok (.aload_n 0, 1) := by decide +kernel
theorem dX9_init_13 : decode cX9_init 13 = .ok (.bipush 10, 2) := by decide +kernel
theorem dX9_init_15 : decode cX9_init 15 = .ok (.newarray .int, 2) := by decide +kernel
theorem dX9_init_17 : decode cX9_init 17 = .ok (.putfield 15, 3) := by decide +kernel
theorem dX9_init_20 : decode cX9_init 20 = .ok (.aload_n 0, 1) := by decide +kernel
theorem dX9_init_21 : decode cX9_init 21 = .ok (.bipush 10, 2) := by decide +kernel
theorem dX9_init_23 : decode cX9_init 23 = .ok (.newarray .int, 2) := by decide +kernel
theorem dX9_init_25 : decode cX9_init 25 = .ok (.putfield 19, 3) := by decide +kernel
theorem dX9_init_28 : decode cX9_init 28 = .ok (.aload_n 0, 1) := by decide +kernel
theorem dX9_init_29 : decode cX9_init 29 = .ok (.bipush 10, 2) := by decide +kernel
theorem dX9_init_31 : decode cX9_init 31 = .ok (.newarray .int, 2) := by decide +kernel
theorem dX9_init_33 : decode cX9_init 33 = .ok (.putfield 22, 3) := by decide +kernel
theorem dX9_init_36 : decode cX9_init 36 = .ok (.aload_n 0, 1) := by decide +kernel
theorem dX9_init_37 : decode cX9_init 37 = .ok (.bipush 12, 2) := by decide +kernel
theorem dX9_init_39 : decode cX9_init 39 = .ok (.newarray .int, 2) := by decide +kernel
theorem dX9_init_41 : decode cX9_init 41 = .ok (.putfield 25, 3) := by decide +kernel
theorem dX9_init_44 : decode cX9_init 44 = .ok (.return_, 1) := by decide +kernel
end
section
set_option maxHeartbeats 4000000 in
set_option maxRecDepth 100000 in
theorem c_X5_init (l : Launch) (dC : Nat → ClassId) (dI : Nat → Nat → Nat) (h0 : Nat) (sz : Nat) : Met l yX5_init (.code yX5_init cX5_init 1 none :: lw_g) ({ frames := 1, cells := 2, slots := 11, locals := 20 }) (va_Pc [.ref h0] (fun U => U.heap.size = sz ∧ va_P (dC, dI) vwCl [(h0, .inr (5, [.null, .null, .int 0, .null, .int 0, .null, .int 0, .int 0, .int 0]))] U.heap ∧ va_K (dC, dI) vwCl [] U ∧ va_D (fun _ => True) [(h0, .inr (5, [.null, .null, .int 0, .null, .int 0, .null, .int 0, .int 0, .int 0]))])) (va_Qv (fun _ : Unit => True) (fun (_ : Unit) (t : State) => ∃ z0 : Nat, ∃ z1 : Nat, va_P (dC, dI) vwCl [(h0, .inr (5, [.null, .null, .int 0, .ref z0, .int 0, .ref z1, .int 0, .int 0, .int 0]))] t.heap ∧ va_K (dC, dI) vwCl [] t ∧ va_D (va_A [(h0, .inr (5, [.null, .null, .int 0, .null, .int 0, .null, .int 0, .int 0, .int 0]))] sz) [(h0, .inr (5, [.null, .null, .int 0, .ref z0, .int 0, .ref z1, .int 0, .int 0, .int 0]))]) (va_A [(h0, .inr (5, [.null, .null, .int 0, .null, .int 0, .null, .int 0, .int 0, .int 0]))] sz)) 2 11 (va_A [(h0, .inr (5, [.null, .null, .int 0, .null, .int 0, .null, .int 0, .int 0, .int 0]))] sz) := by
  refine Met.ofW (cc := cX5_init) (maxL := 1) (ret := none) (by decide) rfl ?_
  intro p e s m args below meth c s₁ B hml hv
  obtain ⟨rfl, hsz, hP, hK, hD0⟩ := hv
  have hx := B.exec
  have hb := B.bytes
  have hr := B.returns
  have hts := atoms_spec (ws := (.code yX5_init cX5_init 1 none :: lw_g)) B.pre
  have hown : s.vm.findClass RX5 = some m.cls := findClass_of_methodNamed B.named
  have hlocks := B.notSynchronized
  have hin : meth.name = "<init>" := (name_of_methodNamed B.named B.method).1
  subst hsz
  have hD := hD0.self (sz := s.heap.size)
  generalize hAe : va_A [(h0, .inr (5, [.null, .null, .int 0, .null, .int 0, .null, .int 0, .int 0, .int 0]))] s.heap.size = A at hD ⊢
  have hA : ∀ q : Nat, s.heap.size ≤ q → A q := fun q h => by rw [← hAe]; exact Or.inr h
  have hS : va_S A s.heap s.heap [] := va_S.rf
  have hP : va_P (dC, dI) vwCl [(h0, .inr (5, [.null, .null, .int 0, .null, .int 0, .null, .int 0, .int 0, .int 0]))] s.heap := hP
  have hl := lv_entry ([.ref h0]) (n := 1) (Nat.le_of_ble_eq_true rfl)
  rw [lg_entry_eq]
  generalize (lg_sl ([.ref h0]) ++ List.replicate (1 - (lg_sl ([.ref h0])).length) Slot.unset).toArray = ls at hl ⊢
  have hl : lv_has ls 1 [(0, .ref h0)] := hl
  refine lv_aload_n hx hb dX5_init_0 rfl (lv_at hl 0 rfl) ?_
  refine W.objInit hx hb hown (hts _ (List.mem_cons_of_mem _ t_327)) (hts _ (List.mem_cons_of_mem _ t_213)) (hts _ (List.mem_cons_of_mem _ t_214)) rfl (by rw [hml]; exact hl.1) rfl dX5_init_1 (Nat.le_of_ble_eq_true rfl) (Nat.le_of_ble_eq_true rfl) ?_
  refine W.eq (g2 := F0 m 4 ls []) rfl ?_
  refine lv_aload_n hx hb dX5_init_4 rfl (lv_at hl 0 rfl) ?_
  refine lv_iconst (v := 3) hx hb dX5_init_5 (by decide) ?_
  refine va_newa (atype := .long) (N' := 3) (a0 := (3, .inr (.inl (fun _ => 0)))) hx hb (hts _ (List.mem_cons_of_mem _ t_321)) rfl hK hP hD hS hA (fun _ => rfl) (by decide) (by decide) (by decide) (Nat.le_of_ble_eq_true rfl) (Nat.le_of_ble_eq_true rfl) dX5_init_6 (fun q_1 k_2 H hK hP hD hS => ?_)
  have hK : va_K (dC, dI) vwCl [(k_2, .long)] s := hK
  have hP : va_P (dC, dI) vwCl [(h0, .inr (5, [.null, .null, .int 0, .null, .int 0, .null, .int 0, .int 0, .int 0])), (q_1, .inl (k_2, 3, .inr (.inl (fun _ => 0))))] H := hP
  have hD : va_D A [(h0, .inr (5, [.null, .null, .int 0, .null, .int 0, .null, .int 0, .int 0, .int 0])), (q_1, .inl (k_2, 3, .inr (.inl (fun _ => 0))))] := hD
  refine W.widen (k := 1) (n := 3) (Nat.le_of_ble_eq_true rfl) (Nat.le_of_ble_eq_true rfl) ?_
  refine va_putF (D := (dC, dI)) (ci := 5) (v := .ref q_1) (ty := tyX5 3) (C := RX5) (T := TX5) (N := 9) hx hb hts (mc_ inX5) tyX5 tyX5_ok nmX5 hown hK hP hD hS 0 rfl rfl 3 (by decide) (hts _ (List.mem_cons_of_mem _ t_334)) (fun _ h9 => h9) rfl hin rfl (by decide +kernel) rfl rfl (Nat.le_of_ble_eq_true rfl) dX5_init_8 (fun H locs hP hD hS => ?_)
  have hP : va_P (dC, dI) vwCl [(h0, .inr (5, [.null, .null, .int 0, .ref q_1, .int 0, .null, .int 0, .int 0, .int 0])), (q_1, .inl (k_2, 3, .inr (.inl (fun _ => 0))))] H := hP
  have hD : va_D A [(h0, .inr (5, [.null, .null, .int 0, .ref q_1, .int 0, .null, .int 0, .int 0, .int 0])), (q_1, .inl (k_2, 3, .inr (.inl (fun _ => 0))))] := hD
  have hP := hP.sub (ws' := [(h0, .inr (5, [.null, .null, .int 0, .ref q_1, .int 0, .null, .int 0, .int 0, .int 0]))]) [0] rfl
  have hD := hD.sub (ws' := [(h0, .inr (5, [.null, .null, .int 0, .ref q_1, .int 0, .null, .int 0, .int 0, .int 0]))]) [0] (by decide) rfl
  have hK := hK.sub (tys' := []) [] rfl
  refine lv_aload_n hx hb dX5_init_11 rfl (lv_at hl 0 rfl) ?_
  refine lv_bipush (v := 8) hx hb dX5_init_12 (by decide) ?_
  refine va_newa (atype := .long) (N' := 8) (a0 := (8, .inr (.inl (fun _ => 0)))) hx hb (hts _ (List.mem_cons_of_mem _ t_321)) rfl hK hP hD hS hA (fun _ => rfl) (by decide) (by decide) (by decide) (Nat.le_of_ble_eq_true rfl) (Nat.le_of_ble_eq_true rfl) dX5_init_14 (fun q_3 k_4 H hK hP hD hS => ?_)
  have hK : va_K (dC, dI) vwCl [(k_4, .long)] s := hK
  have hP : va_P (dC, dI) vwCl [(h0, .inr (5, [.null, .null, .int 0, .ref q_1, .int 0, .null, .int 0, .int 0, .int 0])), (q_3, .inl (k_4, 8, .inr (.inl (fun _ => 0))))] H := hP
  have hD : va_D A [(h0, .inr (5, [.null, .null, .int 0, .ref q_1, .int 0, .null, .int 0, .int 0, .int 0])), (q_3, .inl (k_4, 8, .inr (.inl (fun _ => 0))))] := hD
  refine W.widen (k := 2) (n := 11) (Nat.le_of_ble_eq_true rfl) (Nat.le_of_ble_eq_true rfl) ?_
  refine va_putF (D := (dC, dI)) (ci := 5) (v := .ref q_3) (ty := tyX5 5) (C := RX5) (T := TX5) (N := 9) hx hb hts (mc_ inX5) tyX5 tyX5_ok nmX5 hown hK hP hD hS 0 rfl rfl 5 (by decide) (hts _ (List.mem_cons_of_mem _ t_338)) (fun _ h9 => h9) rfl hin rfl (by decide +kernel) rfl rfl (Nat.le_of_ble_eq_true rfl) dX5_init_16 (fun H locs hP hD hS => ?_)
  have hP : va_P (dC, dI) vwCl [(h0, .inr (5, [.null, .null, .int 0, .ref q_1, .int 0, .ref q_3, .int 0, .int 0, .int 0])), (q_3, .inl (k_4, 8, .inr (.inl (fun _ => 0))))] H := hP
  have hD : va_D A [(h0, .inr (5, [.null, .null, .int 0, .ref q_1, .int 0, .ref q_3, .int 0, .int 0, .int 0])), (q_3, .inl (k_4, 8, .inr (.inl (fun _ => 0))))] := hD
  have hP := hP.sub (ws' := [(h0, .inr (5, [.null, .null, .int 0, .ref q_1, .int 0, .ref q_3, .int 0, .int 0, .int 0]))]) [0] rfl
  have hD := hD.sub (ws' := [(h0, .inr (5, [.null, .null, .int 0, .ref q_1, .int 0, .ref q_3, .int 0, .int 0, .int 0]))]) [0] (by decide) rfl
  have hK := hK.sub (tys' := []) [] rfl
  have hP9 := hP.sub (ws' := [(h0, .inr (5, [.null, .null, .int 0, .ref q_1, .int 0, .ref q_3, .int 0, .int 0, .int 0]))]) [0] rfl
  have hD9 := hD.sub (ws' := [(h0, .inr (5, [.null, .null, .int 0, .ref q_1, .int 0, .ref q_3, .int 0, .int 0, .int 0]))]) [0] (by decide) rfl
  have hK9 := hK.sub (tys' := []) [] rfl
  refine W.widen (k := 2) (n := 11) (Nat.le_of_ble_eq_true rfl) (Nat.le_of_ble_eq_true rfl) ?_
  exact W.vret hx hb hr (fun t ht hW => ⟨⟨(), rfl, trivial, q_1, q_3, by rw [ht]; exact hP9, va_K.moved hW.alike hK9, hD9⟩, hS.F ht⟩) hS.2.2 dX5_init_19
set_option maxHeartbeats 4000000 in
set_option maxRecDepth 100000 in
theorem c_X7_hasClass (l : Launch) (dC : Nat → ClassId) (dI : Nat → Nat → Nat) (h0 : Nat) (p1 : Int32) (sz : Nat) : Met l yX7_hasClass (.code yX7_hasClass cX7_hasClass 2 (some .boolean) :: lw_g) ({ frames := 0, cells := 0, slots := 0, locals := 0 }) (va_Pc [.ref h0, .int p1] (fun U => U.heap.size = sz ∧ va_P (dC, dI) vwCl [(h0, .inr (7, [.null, .int 0, .null, .int 0, .null, .null, .int 0, .null, .null, .null, .null, .null, .null, .int 0, .null, .int 0, .null, .int 0, .int 0]))] U.heap ∧ va_K (dC, dI) vwCl [] U ∧ va_D (fun _ => True) [(h0, .inr (7, [.null, .int 0, .null, .int 0, .null, .null, .int 0, .null, .null, .null, .null, .null, .null, .int 0, .null, .int 0, .null, .int 0, .int 0]))])) (va_Qi (fun (r : Int32) (_ : Unit) => r = 0) (fun (_ : Unit) (t : State) => va_P (dC, dI) vwCl [(h0, .inr (7, [.null, .int 0, .null, .int 0, .null, .null, .int 0, .null, .null, .null, .null, .null, .null, .int 0, .null, .int 0, .null, .int 0, .int 0]))] t.heap ∧ va_K (dC, dI) vwCl [] t ∧ va_D (va_A [(h0, .inr (7, [.null, .int 0, .null, .int 0, .null, .null, .int 0, .null, .null, .null, .null, .null, .null, .int 0, .null, .int 0, .null, .int 0, .int 0]))] sz) [(h0, .inr (7, [.null, .int 0, .null, .int 0, .null, .null, .int 0, .null, .null, .null, .null, .null, .null, .int 0, .null, .int 0, .null, .int 0, .int 0]))]) (va_A [(h0, .inr (7, [.null, .int 0, .null, .int 0, .null, .null, .int 0, .null, .null, .null, .null, .null, .null, .int 0, .null, .int 0, .null, .int 0, .int 0]))] sz)) 0 0 (va_A [(h0, .inr (7, [.null, .int 0, .null, .int 0, .null, .null, .int 0, .null, .null, .null, .null, .null, .null, .int 0, .null, .int 0, .null, .int 0, .int 0]))] sz) := by
  refine Met.ofW (cc := cX7_hasClass) (maxL := 2) (ret := (some .boolean)) (by decide) rfl ?_
  intro p e s m args below meth c s₁ B hml hv
  obtain ⟨rfl, hsz, hP, hK, hD0⟩ := hv
  have hx := B.exec
  have hb := B.bytes
  have hr := B.returns
  have hts := atoms_spec (ws := (.code yX7_hasClass cX7_hasClass 2 (some .boolean) :: lw_g)) B.pre
  have hown : s.vm.findClass RX7 = some m.cls := findClass_of_methodNamed B.named
  have hlocks := B.notSynchronized
  subst hsz
  have hD := hD0.self (sz := s.heap.size)
  generalize hAe : va_A [(h0, .inr (7, [.null, .int 0, .null, .int 0, .null, .null, .int 0, .null, .null, .null, .null, .null, .null, .int 0, .null, .int 0, .null, .int 0, .int 0]))] s.heap.size = A at hD ⊢
  have hA : ∀ q : Nat, s.heap.size ≤ q → A q := fun q h => by rw [← hAe]; exact Or.inr h
  have hS : va_S A s.heap s.heap [] := va_S.rf
  have hP : va_P (dC, dI) vwCl [(h0, .inr (7, [.null, .int 0, .null, .int 0, .null, .null, .int 0, .null, .null, .null, .null, .null, .null, .int 0, .null, .int 0, .null, .int 0, .int 0]))] s.heap := hP
  have hl := lv_entry ([.ref h0, .int p1]) (n := 2) (Nat.le_of_ble_eq_true rfl)
  rw [lg_entry_eq]
  generalize (lg_sl ([.ref h0, .int p1]) ++ List.replicate (2 - (lg_sl ([.ref h0, .int p1])).length) Slot.unset).toArray = ls at hl ⊢
  have hl : lv_has ls 2 [(0, .ref h0), (1, .int p1)] := hl
  refine lv_iload_n hx hb dX7_hasClass_0 rfl (lv_at hl 1 rfl) ?_
  refine lv_if_lt (tgt := 16) hx hb dX7_hasClass_1 (by decide) (fun c_1 => ?_) (fun c_1 => ?_)
  · refine lv_iconst (v := 0) hx hb dX7_hasClass_16 (by decide) ?_
    have hP9 := hP.sub (ws' := [(h0, .inr (7, [.null, .int 0, .null, .int 0, .null, .null, .int 0, .null, .null, .null, .null, .null, .null, .int 0, .null, .int 0, .null, .int 0, .int 0]))]) [0] rfl
    have hD9 := hD.sub (ws' := [(h0, .inr (7, [.null, .int 0, .null, .int 0, .null, .null, .int 0, .null, .null, .null, .null, .null, .null, .int 0, .null, .int 0, .null, .int 0, .int 0]))]) [0] (by decide) rfl
    have hK9 := hK.sub (tys' := []) [] rfl
    refine W.widen (k := 0) (n := 0) (Nat.le_of_ble_eq_true rfl) (Nat.le_of_ble_eq_true rfl) ?_
    exact W.zret (v := 0) hx hb hr rfl (fun t ht hW => ⟨⟨_, (), rfl, rfl, by rw [ht]; exact hP9, va_K.moved hW.alike hK9, hD9⟩, hS.F ht⟩) hS.2.2 dX7_hasClass_17
  · refine lv_iload_n hx hb dX7_hasClass_4 rfl (lv_at hl 1 rfl) ?_
    refine lv_aload_n hx hb dX7_hasClass_5 rfl (lv_at hl 0 rfl) ?_
    refine va_get (D := (dC, dI)) (ci := 7) (v := .int 0) (C := RX7) (T := TX7) (N := 19) hx hb hts (mc_ inX7) hown hK hP 0 rfl rfl 1 (by decide) (hts _ (List.mem_cons_of_mem _ t_626)) (fun _ h9 => h9) rfl dX7_hasClass_6 ?_
    refine lv_icmp_ge (tgt := 16) hx hb dX7_hasClass_9 (by decide) (fun c_2 => ?_) (fun c_2 => ?_)
    · refine lv_iconst (v := 0) hx hb dX7_hasClass_16 (by decide) ?_
      have hP9 := hP.sub (ws' := [(h0, .inr (7, [.null, .int 0, .null, .int 0, .null, .null, .int 0, .null, .null, .null, .null, .null, .null, .int 0, .null, .int 0, .null, .int 0, .int 0]))]) [0] rfl
      have hD9 := hD.sub (ws' := [(h0, .inr (7, [.null, .int 0, .null, .int 0, .null, .null, .int 0, .null, .null, .null, .null, .null, .null, .int 0, .null, .int 0, .null, .int 0, .int 0]))]) [0] (by decide) rfl
      have hK9 := hK.sub (tys' := []) [] rfl
      refine W.widen (k := 0) (n := 0) (Nat.le_of_ble_eq_true rfl) (Nat.le_of_ble_eq_true rfl) ?_
      exact W.zret (v := 0) hx hb hr rfl (fun t ht hW => ⟨⟨_, (), rfl, rfl, by rw [ht]; exact hP9, va_K.moved hW.alike hK9, hD9⟩, hS.F ht⟩) hS.2.2 dX7_hasClass_17
    · exfalso
      simp only [Int32.lt_iff_toInt_lt, Int32.le_iff_toInt_le, ← Int32.toInt_inj] at c_1 c_2
      have k0 : (0 : Int32).toInt = 0 := by decide
      omega
set_option maxHeartbeats 4000000 in
set_option maxRecDepth 100000 in
theorem c_X9_init (l : Launch) (dC : Nat → ClassId) (dI : Nat → Nat → Nat) (h0 : Nat) (sz : Nat) : Met l yX9_init (.code yX9_init cX9_init 1 none :: lw_g) ({ frames := 1, cells := 5, slots := 52, locals := 20 }) (va_Pc [.ref h0] (fun U => U.heap.size = sz ∧ va_P (dC, dI) vwCl [(h0, .inr (9, [.long 0, .int 0, .int 0, .null, .null, .null, .null, .int 0, .int 0, .null, .int 0, .int 0, .int 0]))] U.heap ∧ va_K (dC, dI) vwCl [] U ∧ va_D (fun _ => True) [(h0, .inr (9, [.long 0, .int 0, .int 0, .null, .null, .null, .null, .int 0, .int 0, .null, .int 0, .int 0, .int 0]))])) (va_Qv (fun _ : Unit => True) (fun (_ : Unit) (t : State) => ∃ z0 : Nat, ∃ z1 : Nat, ∃ z2 : Nat, ∃ z3 : Nat, ∃ z4 : Nat, va_P (dC, dI) vwCl [(h0, .inr (9, [.long 0, .int 0, .int 0, .ref z0, .ref z1, .ref z2, .ref z3, .int 0, .int 0, .ref z4, .int 0, .int 0, .int 0]))] t.heap ∧ va_K (dC, dI) vwCl [] t ∧ va_D (va_A [(h0, .inr (9, [.long 0, .int 0, .int 0, .null, .null, .null, .null, .int 0, .int 0, .null, .int 0, .int 0, .int 0]))] sz) [(h0, .inr (9, [.long 0, .int 0, .int 0, .ref z0, .ref z1, .ref z2, .ref z3, .int 0, .int 0, .ref z4, .int 0, .int 0, .int 0]))]) (va_A [(h0, .inr (9, [.long 0, .int 0, .int 0, .null, .null, .null, .null, .int 0, .int 0, .null, .int 0, .int 0, .int 0]))] sz)) 5 52 (va_A [(h0, .inr (9, [.long 0, .int 0, .int 0, .null, .null, .null, .null, .int 0, .int 0, .null, .int 0, .int 0, .int 0]))] sz) := by
  refine Met.ofW (cc := cX9_init) (maxL := 1) (ret := none) (by decide) rfl ?_
  intro p e s m args below meth c s₁ B hml hv
  obtain ⟨rfl, hsz, hP, hK, hD0⟩ := hv
  have hx := B.exec
  have hb := B.bytes
  have hr := B.returns
  have hts := atoms_spec (ws := (.code yX9_init cX9_init 1 none :: lw_g)) B.pre
  have hown : s.vm.findClass RX9 = some m.cls := findClass_of_methodNamed B.named
  have hlocks := B.notSynchronized
  have hin : meth.name = "<init>" := (name_of_methodNamed B.named B.method).1
  subst hsz
  have hD := hD0.self (sz := s.heap.size)
  generalize hAe : va_A [(h0, .inr (9, [.long 0, .int 0, .int 0, .null, .null, .null, .null, .int 0, .int 0, .null, .int 0, .int 0, .int 0]))] s.heap.size = A at hD ⊢
  have hA : ∀ q : Nat, s.heap.size ≤ q → A q := fun q h => by rw [← hAe]; exact Or.inr h
  have hS : va_S A s.heap s.heap [] := va_S.rf
  have hP : va_P (dC, dI) vwCl [(h0, .inr (9, [.long 0, .int 0, .int 0, .null, .null, .null, .null, .int 0, .int 0, .null, .int 0, .int 0, .int 0]))] s.heap := hP
  have hl := lv_entry ([.ref h0]) (n := 1) (Nat.le_of_ble_eq_true rfl)
  rw [lg_entry_eq]
  generalize (lg_sl ([.ref h0]) ++ List.replicate (1 - (lg_sl ([.ref h0])).length) Slot.unset).toArray = ls at hl ⊢
  have hl : lv_has ls 1 [(0, .ref h0)] := hl
  refine lv_aload_n hx hb dX9_init_0 rfl (lv_at hl 0 rfl) ?_
  refine W.objInit hx hb hown (hts _ (List.mem_cons_of_mem _ t_477)) (hts _ (List.mem_cons_of_mem _ t_213)) (hts _ (List.mem_cons_of_mem _ t_214)) rfl (by rw [hml]; exact hl.1) rfl dX9_init_1 (Nat.le_of_ble_eq_true rfl) (Nat.le_of_ble_eq_true rfl) ?_
  refine W.eq (g2 := F0 m 4 ls []) rfl ?_
  refine lv_aload_n hx hb dX9_init_4 rfl (lv_at hl 0 rfl) ?_
  refine lv_bipush (v := 10) hx hb dX9_init_5 (by decide) ?_
  refine va_newa (atype := .long) (N' := 10) (a0 := (10, .inr (.inl (fun _ => 0)))) hx hb (hts _ (List.mem_cons_of_mem _ t_321)) rfl hK hP hD hS hA (fun _ => rfl) (by decide) (by decide) (by decide) (Nat.le_of_ble_eq_true rfl) (Nat.le_of_ble_eq_true rfl) dX9_init_7 (fun q_1 k_2 H hK hP hD hS => ?_)
  have hK : va_K (dC, dI) vwCl [(k_2, .long)] s := hK
  have hP : va_P (dC, dI) vwCl [(h0, .inr (9, [.long 0, .int 0, .int 0, .null, .null, .null, .null, .int 0, .int 0, .null, .int 0, .int 0, .int 0])), (q_1, .inl (k_2, 10, .inr (.inl (fun _ => 0))))] H := hP
  have hD : va_D A [(h0, .inr (9, [.long 0, .int 0, .int 0, .null, .null, .null, .null, .int 0, .int 0, .null, .int 0, .int 0, .int 0])), (q_1, .inl (k_2, 10, .inr (.inl (fun _ => 0))))] := hD
  refine W.widen (k := 1) (n := 10) (Nat.le_of_ble_eq_true rfl) (Nat.le_of_ble_eq_true rfl) ?_
  refine va_putF (D := (dC, dI)) (ci := 9) (v := .ref q_1) (ty := tyX9 3) (C := RX9) (T := TX9) (N := 13) hx hb hts (mc_ inX9) tyX9 tyX9_ok nmX9 hown hK hP hD hS 0 rfl rfl 3 (by decide) (hts _ (List.mem_cons_of_mem _ t_488)) (fun _ h9 => h9) rfl hin rfl (by decide +kernel) rfl rfl (Nat.le_of_ble_eq_true rfl) dX9_init_9 (fun H locs hP hD hS => ?_)
  have hP : va_P (dC, dI) vwCl [(h0, .inr (9, [.long 0, .int 0, .int 0, .ref q_1, .null, .null, .null, .int 0, .int 0, .null, .int 0, .int 0, .int 0])), (q_1, .inl (k_2, 10, .inr (.inl (fun _ => 0))))] H := hP
  have hD : va_D A [(h0, .inr (9, [.long 0, .int 0, .int 0, .ref q_1, .null, .null, .null, .int 0, .int 0, .null, .int 0, .int 0, .int 0])), (q_1, .inl (k_2, 10, .inr (.inl (fun _ => 0))))] := hD
  have hP := hP.sub (ws' := [(h0, .inr (9, [.long 0, .int 0, .int 0, .ref q_1, .null, .null, .null, .int 0, .int 0, .null, .int 0, .int 0, .int 0]))]) [0] rfl
  have hD := hD.sub (ws' := [(h0, .inr (9, [.long 0, .int 0, .int 0, .ref q_1, .null, .null, .null, .int 0, .int 0, .null, .int 0, .int 0, .int 0]))]) [0] (by decide) rfl
  have hK := hK.sub (tys' := []) [] rfl
  refine lv_aload_n hx hb dX9_init_12 rfl (lv_at hl 0 rfl) ?_
  refine lv_bipush (v := 10) hx hb dX9_init_13 (by decide) ?_
  refine va_newa (atype := .int) (N' := 10) (a0 := (10, .inl (fun _ => 0))) hx hb (hts _ (List.mem_cons_of_mem _ t_320)) rfl hK hP hD hS hA (fun _ => rfl) (by decide) (by decide) (by decide) (Nat.le_of_ble_eq_true rfl) (Nat.le_of_ble_eq_true rfl) dX9_init_15 (fun q_3 k_4 H hK hP hD hS => ?_)
  have hK : va_K (dC, dI) vwCl [(k_4, .int)] s := hK
  have hP : va_P (dC, dI) vwCl [(h0, .inr (9, [.long 0, .int 0, .int 0, .ref q_1, .null, .null, .null, .int 0, .int 0, .null, .int 0, .int 0, .int 0])), (q_3, .inl (k_4, 10, .inl (fun _ => 0)))] H := hP
  have hD : va_D A [(h0, .inr (9, [.long 0, .int 0, .int 0, .ref q_1, .null, .null, .null, .int 0, .int 0, .null, .int 0, .int 0, .int 0])), (q_3, .inl (k_4, 10, .inl (fun _ => 0)))] := hD
  refine W.widen (k := 2) (n := 20) (Nat.le_of_ble_eq_true rfl) (Nat.le_of_ble_eq_true rfl) ?_
  refine va_putF (D := (dC, dI)) (ci := 9) (v := .ref q_3) (ty := tyX9 4) (C := RX9) (T := TX9) (N := 13) hx hb hts (mc_ inX9) tyX9 tyX9_ok nmX9 hown hK hP hD hS 0 rfl rfl 4 (by decide) (hts _ (List.mem_cons_of_mem _ t_489)) (fun _ h9 => h9) rfl hin rfl (by decide +kernel) rfl rfl (Nat.le_of_ble_eq_true rfl) dX9_init_17 (fun H locs hP hD hS => ?_)
  have hP : va_P (dC, dI) vwCl [(h0, .inr (9, [.long 0, .int 0, .int 0, .ref q_1, .ref q_3, .null, .null, .int 0, .int 0, .null, .int 0, .int 0, .int 0])), (q_3, .inl (k_4, 10, .inl (fun _ => 0)))] H := hP
  have hD : va_D A [(h0, .inr (9, [.long 0, .int 0, .int 0, .ref q_1, .ref q_3, .null, .null, .int 0, .int 0, .null, .int 0, .int 0, .int 0])), (q_3, .inl (k_4, 10, .inl (fun _ => 0)))] := hD
  have hP := hP.sub (ws' := [(h0, .inr (9, [.long 0, .int 0, .int 0, .ref q_1, .ref q_3, .null, .null, .int 0, .int 0, .null, .int 0, .int 0, .int 0]))]) [0] rfl
  have hD := hD.sub (ws' := [(h0, .inr (9, [.long 0, .int 0, .int 0, .ref q_1, .ref q_3, .null, .null, .int 0, .int 0, .null, .int 0, .int 0, .int 0]))]) [0] (by decide) rfl
  have hK := hK.sub (tys' := []) [] rfl
  refine lv_aload_n hx hb dX9_init_20 rfl (lv_at hl 0 rfl) ?_
  refine lv_bipush (v := 10) hx hb dX9_init_21 (by decide) ?_
  refine va_newa (atype := .int) (N' := 10) (a0 := (10, .inl (fun _ => 0))) hx hb (hts _ (List.mem_cons_of_mem _ t_320)) rfl hK hP hD hS hA (fun _ => rfl) (by decide) (by decide) (by decide) (Nat.le_of_ble_eq_true rfl) (Nat.le_of_ble_eq_true rfl) dX9_init_23 (fun q_5 k_6 H hK hP hD hS => ?_)
  have hK : va_K (dC, dI) vwCl [(k_6, .int)] s := hK
  have hP : va_P (dC, dI) vwCl [(h0, .inr (9, [.long 0, .int 0, .int 0, .ref q_1, .ref q_3, .null, .null, .int 0, .int 0, .null, .int 0, .int 0, .int 0])), (q_5, .inl (k_6, 10, .inl (fun _ => 0)))] H := hP
  have hD : va_D A [(h0, .inr (9, [.long 0, .int 0, .int 0, .ref q_1, .ref q_3, .null, .null, .int 0, .int 0, .null, .int 0, .int 0, .int 0])), (q_5, .inl (k_6, 10, .inl (fun _ => 0)))] := hD
  refine W.widen (k := 3) (n := 30) (Nat.le_of_ble_eq_true rfl) (Nat.le_of_ble_eq_true rfl) ?_
  refine va_putF (D := (dC, dI)) (ci := 9) (v := .ref q_5) (ty := tyX9 5) (C := RX9) (T := TX9) (N := 13) hx hb hts (mc_ inX9) tyX9 tyX9_ok nmX9 hown hK hP hD hS 0 rfl rfl 5 (by decide) (hts _ (List.mem_cons_of_mem _ t_490)) (fun _ h9 => h9) rfl hin rfl (by decide +kernel) rfl rfl (Nat.le_of_ble_eq_true rfl) dX9_init_25 (fun H locs hP hD hS => ?_)
  have hP : va_P (dC, dI) vwCl [(h0, .inr (9, [.long 0, .int 0, .int 0, .ref q_1, .ref q_3, .ref q_5, .null, .int 0, .int 0, .null, .int 0, .int 0, .int 0])), (q_5, .inl (k_6, 10, .inl (fun _ => 0)))] H := hP
  have hD : va_D A [(h0, .inr (9, [.long 0, .int 0, .int 0, .ref q_1, .ref q_3, .ref q_5, .null, .int 0, .int 0, .null, .int 0, .int 0, .int 0])), (q_5, .inl (k_6, 10, .inl (fun _ => 0)))] := hD
  have hP := hP.sub (ws' := [(h0, .inr (9, [.long 0, .int 0, .int 0, .ref q_1, .ref q_3, .ref q_5, .null, .int 0, .int 0, .null, .int 0, .int 0, .int 0]))]) [0] rfl
  have hD := hD.sub (ws' := [(h0, .inr (9, [.long 0, .int 0, .int 0, .ref q_1, .ref q_3, .ref q_5, .null, .int 0, .int 0, .null, .int 0, .int 0, .int 0]))]) [0] (by decide) rfl
  have hK := hK.sub (tys' := []) [] rfl
  refine lv_aload_n hx hb dX9_init_28 rfl (lv_at hl 0 rfl) ?_
  refine lv_bipush (v := 10) hx hb dX9_init_29 (by decide) ?_
  refine va_newa (atype := .int) (N' := 10) (a0 := (10, .inl (fun _ => 0))) hx hb (hts _ (List.mem_cons_of_mem _ t_320)) rfl hK hP hD hS hA (fun _ => rfl) (by decide) (by decide) (by decide) (Nat.le_of_ble_eq_true rfl) (Nat.le_of_ble_eq_true rfl) dX9_init_31 (fun q_7 k_8 H hK hP hD hS => ?_)
  have hK : va_K (dC, dI) vwCl [(k_8, .int)] s := hK
  have hP : va_P (dC, dI) vwCl [(h0, .inr (9, [.long 0, .int 0, .int 0, .ref q_1, .ref q_3, .ref q_5, .null, .int 0, .int 0, .null, .int 0, .int 0, .int 0])), (q_7, .inl (k_8, 10, .inl (fun _ => 0)))] H := hP
  have hD : va_D A [(h0, .inr (9, [.long 0, .int 0, .int 0, .ref q_1, .ref q_3, .ref q_5, .null, .int 0, .int 0, .null, .int 0, .int 0, .int 0])), (q_7, .inl (k_8, 10, .inl (fun _ => 0)))] := hD
  refine W.widen (k := 4) (n := 40) (Nat.le_of_ble_eq_true rfl) (Nat.le_of_ble_eq_true rfl) ?_
  refine va_putF (D := (dC, dI)) (ci := 9) (v := .ref q_7) (ty := tyX9 6) (C := RX9) (T := TX9) (N := 13) hx hb hts (mc_ inX9) tyX9 tyX9_ok nmX9 hown hK hP hD hS 0 rfl rfl 6 (by decide) (hts _ (List.mem_cons_of_mem _ t_492)) (fun _ h9 => h9) rfl hin rfl (by decide +kernel) rfl rfl (Nat.le_of_ble_eq_true rfl) dX9_init_33 (fun H locs hP hD hS => ?_)
  have hP : va_P (dC, dI) vwCl [(h0, .inr (9, [.long 0, .int 0, .int 0, .ref q_1, .ref q_3, .ref q_5, .ref q_7, .int 0, .int 0, .null, .int 0, .int 0, .int 0])), (q_7, .inl (k_8, 10, .inl (fun _ => 0)))] H := hP
  have hD : va_D A [(h0, .inr (9, [.long 0, .int 0, .int 0, .ref q_1, .ref q_3, .ref q_5, .ref q_7, .int 0, .int 0, .null, .int 0, .int 0, .int 0])), (q_7, .inl (k_8, 10, .inl (fun _ => 0)))] := hD
  have hP := hP.sub (ws' := [(h0, .inr (9, [.long 0, .int 0, .int 0, .ref q_1, .ref q_3, .ref q_5, .ref q_7, .int 0, .int 0, .null, .int 0, .int 0, .int 0]))]) [0] rfl
  have hD := hD.sub (ws' := [(h0, .inr (9, [.long 0, .int 0, .int 0, .ref q_1, .ref q_3, .ref q_5, .ref q_7, .int 0, .int 0, .null, .int 0, .int 0, .int 0]))]) [0] (by decide) rfl
  have hK := hK.sub (tys' := []) [] rfl
  refine lv_aload_n hx hb dX9_init_36 rfl (lv_at hl 0 rfl) ?_
  refine lv_bipush (v := 12) hx hb dX9_init_37 (by decide) ?_
  refine va_newa (atype := .int) (N' := 12) (a0 := (12, .inl (fun _ => 0))) hx hb (hts _ (List.mem_cons_of_mem _ t_320)) rfl hK hP hD hS hA (fun _ => rfl) (by decide) (by decide) (by decide) (Nat.le_of_ble_eq_true rfl) (Nat.le_of_ble_eq_true rfl) dX9_init_39 (fun q_9 k_10 H hK hP hD hS => ?_)
  have hK : va_K (dC, dI) vwCl [(k_10, .int)] s := hK
  have hP : va_P (dC, dI) vwCl [(h0, .inr (9, [.long 0, .int 0, .int 0, .ref q_1, .ref q_3, .ref q_5, .ref q_7, .int 0, .int 0, .null, .int 0, .int 0, .int 0])), (q_9, .inl (k_10, 12, .inl (fun _ => 0)))] H := hP
  have hD : va_D A [(h0, .inr (9, [.long 0, .int 0, .int 0, .ref q_1, .ref q_3, .ref q_5, .ref q_7, .int 0, .int 0, .null, .int 0, .int 0, .int 0])), (q_9, .inl (k_10, 12, .inl (fun _ => 0)))] := hD
  refine W.widen (k := 5) (n := 52) (Nat.le_of_ble_eq_true rfl) (Nat.le_of_ble_eq_true rfl) ?_
  refine va_putF (D := (dC, dI)) (ci := 9) (v := .ref q_9) (ty := tyX9 9) (C := RX9) (T := TX9) (N := 13) hx hb hts (mc_ inX9) tyX9 tyX9_ok nmX9 hown hK hP hD hS 0 rfl rfl 9 (by decide) (hts _ (List.mem_cons_of_mem _ t_503)) (fun _ h9 => h9) rfl hin rfl (by decide +kernel) rfl rfl (Nat.le_of_ble_eq_true rfl) dX9_init_41 (fun H locs hP hD hS => ?_)
  have hP : va_P (dC, dI) vwCl [(h0, .inr (9, [.long 0, .int 0, .int 0, .ref q_1, .ref q_3, .ref q_5, .ref q_7, .int 0, .int 0, .ref q_9, .int 0, .int 0, .int 0])), (q_9, .inl (k_10, 12, .inl (fun _ => 0)))] H := hP
  have hD : va_D A [(h0, .inr (9, [.long 0, .int 0, .int 0, .ref q_1, .ref q_3, .ref q_5, .ref q_7, .int 0, .int 0, .ref q_9, .int 0, .int 0, .int 0])), (q_9, .inl (k_10, 12, .inl (fun _ => 0)))] := hD
  have hP := hP.sub (ws' := [(h0, .inr (9, [.long 0, .int 0, .int 0, .ref q_1, .ref q_3, .ref q_5, .ref q_7, .int 0, .int 0, .ref q_9, .int 0, .int 0, .int 0]))]) [0] rfl
  have hD := hD.sub (ws' := [(h0, .inr (9, [.long 0, .int 0, .int 0, .ref q_1, .ref q_3, .ref q_5, .ref q_7, .int 0, .int 0, .ref q_9, .int 0, .int 0, .int 0]))]) [0] (by decide) rfl
  have hK := hK.sub (tys' := []) [] rfl
  have hP9 := hP.sub (ws' := [(h0, .inr (9, [.long 0, .int 0, .int 0, .ref q_1, .ref q_3, .ref q_5, .ref q_7, .int 0, .int 0, .ref q_9, .int 0, .int 0, .int 0]))]) [0] rfl
  have hD9 := hD.sub (ws' := [(h0, .inr (9, [.long 0, .int 0, .int 0, .ref q_1, .ref q_3, .ref q_5, .ref q_7, .int 0, .int 0, .ref q_9, .int 0, .int 0, .int 0]))]) [0] (by decide) rfl
  have hK9 := hK.sub (tys' := []) [] rfl
  refine W.widen (k := 5) (n := 52) (Nat.le_of_ble_eq_true rfl) (Nat.le_of_ble_eq_true rfl) ?_
  exact W.vret hx hb hr (fun t ht hW => ⟨⟨(), rfl, trivial, q_1, q_3, q_5, q_7, q_9, by rw [ht]; exact hP9, va_K.moved hW.alike hK9, hD9⟩, hS.F ht⟩) hS.2.2 dX9_init_44
set_option maxHeartbeats 4000000 in
set_option maxRecDepth 100000 in
theorem c_X6_init (l : Launch) (dC : Nat → ClassId) (dI : Nat → Nat → Nat) (h0 : Nat) (sz : Nat) : Met l yX6_init (.code yX6_init cX6_init 1 none :: lw_g) ({ frames := 1, cells := 2, slots := 6, locals := 20 }) (va_Pc [.ref h0] (fun U => U.heap.size = sz ∧ va_P (dC, dI) vwCl [(h0, .inr (6, [.long 0, .int 0, .int 0, .int 0, .null, .null, .int 0, .int 0, .int 0, .int 0, .int 0, .int 0, .int 0]))] U.heap ∧ va_K (dC, dI) vwCl [] U ∧ va_D (fun _ => True) [(h0, .inr (6, [.long 0, .int 0, .int 0, .int 0, .null, .null, .int 0, .int 0, .int 0, .int 0, .int 0, .int 0, .int 0]))])) (va_Qv (fun _ : Unit => True) (fun (_ : Unit) (t : State) => ∃ z0 : Nat, ∃ z1 : Nat, va_P (dC, dI) vwCl [(h0, .inr (6, [.long 0, .int 0, .int 0, .int 0, .ref z0, .ref z1, .int 0, .int 0, .int 0, .int 0, .int 0, .int 0, .int 0]))] t.heap ∧ va_K (dC, dI) vwCl [] t ∧ va_D (va_A [(h0, .inr (6, [.long 0, .int 0, .int 0, .int 0, .null, .null, .int 0, .int 0, .int 0, .int 0, .int 0, .int 0, .int 0]))] sz) [(h0, .inr (6, [.long 0, .int 0, .int 0, .int 0, .ref z0, .ref z1, .int 0, .int 0, .int 0, .int 0, .int 0, .int 0, .int 0]))]) (va_A [(h0, .inr (6, [.long 0, .int 0, .int 0, .int 0, .null, .null, .int 0, .int 0, .int 0, .int 0, .int 0, .int 0, .int 0]))] sz)) 2 6 (va_A [(h0, .inr (6, [.long 0, .int 0, .int 0, .int 0, .null, .null, .int 0, .int 0, .int 0, .int 0, .int 0, .int 0, .int 0]))] sz) := by
  refine Met.ofW (cc := cX6_init) (maxL := 1) (ret := none) (by decide) rfl ?_
  intro p e s m args below meth c s₁ B hml hv
  obtain ⟨rfl, hsz, hP, hK, hD0⟩ := hv
  have hx := B.exec
  have hb := B.bytes
  have hr := B.returns
  have hts := atoms_spec (ws := (.code yX6_init cX6_init 1 none :: lw_g)) B.pre
  have hown : s.vm.findClass RX6 = some m.cls := findClass_of_methodNamed B.named
  have hlocks := B.notSynchronized
  have hin : meth.name = "<init>" := (name_of_methodNamed B.named B.method).1
  subst hsz
  have hD := hD0.self (sz := s.heap.size)
  generalize hAe : va_A [(h0, .inr (6, [.long 0, .int 0, .int 0, .int 0, .null, .null, .int 0, .int 0, .int 0, .int 0, .int 0, .int 0, .int 0]))] s.heap.size = A at hD ⊢
  have hA : ∀ q : Nat, s.heap.size ≤ q → A q := fun q h => by rw [← hAe]; exact Or.inr h
  have hS : va_S A s.heap s.heap [] := va_S.rf
  have hP : va_P (dC, dI) vwCl [(h0, .inr (6, [.long 0, .int 0, .int 0, .int 0, .null, .null, .int 0, .int 0, .int 0, .int 0, .int 0, .int 0, .int 0]))] s.heap := hP
  have hl := lv_entry ([.ref h0]) (n := 1) (Nat.le_of_ble_eq_true rfl)
  rw [lg_entry_eq]
  generalize (lg_sl ([.ref h0]) ++ List.replicate (1 - (lg_sl ([.ref h0])).length) Slot.unset).toArray = ls at hl ⊢
  have hl : lv_has ls 1 [(0, .ref h0)] := hl
  refine lv_aload_n hx hb dX6_init_0 rfl (lv_at hl 0 rfl) ?_
  refine W.objInit hx hb hown (hts _ (List.mem_cons_of_mem _ t_554)) (hts _ (List.mem_cons_of_mem _ t_213)) (hts _ (List.mem_cons_of_mem _ t_214)) rfl (by rw [hml]; exact hl.1) rfl dX6_init_1 (Nat.le_of_ble_eq_true rfl) (Nat.le_of_ble_eq_true rfl) ?_
  refine W.eq (g2 := F0 m 4 ls []) rfl ?_
  refine lv_aload_n hx hb dX6_init_4 rfl (lv_at hl 0 rfl) ?_
  refine lv_iconst (v := 3) hx hb dX6_init_5 (by decide) ?_
  refine va_newa (atype := .int) (N' := 3) (a0 := (3, .inl (fun _ => 0))) hx hb (hts _ (List.mem_cons_of_mem _ t_320)) rfl hK hP hD hS hA (fun _ => rfl) (by decide) (by decide) (by decide) (Nat.le_of_ble_eq_true rfl) (Nat.le_of_ble_eq_true rfl) dX6_init_6 (fun q_1 k_2 H hK hP hD hS => ?_)
  have hK : va_K (dC, dI) vwCl [(k_2, .int)] s := hK
  have hP : va_P (dC, dI) vwCl [(h0, .inr (6, [.long 0, .int 0, .int 0, .int 0, .null, .null, .int 0, .int 0, .int 0, .int 0, .int 0, .int 0, .int 0])), (q_1, .inl (k_2, 3, .inl (fun _ => 0)))] H := hP
  have hD : va_D A [(h0, .inr (6, [.long 0, .int 0, .int 0, .int 0, .null, .null, .int 0, .int 0, .int 0, .int 0, .int 0, .int 0, .int 0])), (q_1, .inl (k_2, 3, .inl (fun _ => 0)))] := hD
  refine W.widen (k := 1) (n := 3) (Nat.le_of_ble_eq_true rfl) (Nat.le_of_ble_eq_true rfl) ?_
  refine va_putF (D := (dC, dI)) (ci := 6) (v := .ref q_1) (ty := tyX6 4) (C := RX6) (T := TX6) (N := 13) hx hb hts (mc_ inX6) tyX6 tyX6_ok nmX6 hown hK hP hD hS 0 rfl rfl 4 (by decide) (hts _ (List.mem_cons_of_mem _ t_569)) (fun _ h9 => h9) rfl hin rfl (by decide +kernel) rfl rfl (Nat.le_of_ble_eq_true rfl) dX6_init_8 (fun H locs hP hD hS => ?_)
  have hP : va_P (dC, dI) vwCl [(h0, .inr (6, [.long 0, .int 0, .int 0, .int 0, .ref q_1, .null, .int 0, .int 0, .int 0, .int 0, .int 0, .int 0, .int 0])), (q_1, .inl (k_2, 3, .inl (fun _ => 0)))] H := hP
  have hD : va_D A [(h0, .inr (6, [.long 0, .int 0, .int 0, .int 0, .ref q_1, .null, .int 0, .int 0, .int 0, .int 0, .int 0, .int 0, .int 0])), (q_1, .inl (k_2, 3, .inl (fun _ => 0)))] := hD
  have hP := hP.sub (ws' := [(h0, .inr (6, [.long 0, .int 0, .int 0, .int 0, .ref q_1, .null, .int 0, .int 0, .int 0, .int 0, .int 0, .int 0, .int 0]))]) [0] rfl
  have hD := hD.sub (ws' := [(h0, .inr (6, [.long 0, .int 0, .int 0, .int 0, .ref q_1, .null, .int 0, .int 0, .int 0, .int 0, .int 0, .int 0, .int 0]))]) [0] (by decide) rfl
  have hK := hK.sub (tys' := []) [] rfl
  refine lv_aload_n hx hb dX6_init_11 rfl (lv_at hl 0 rfl) ?_
  refine lv_iconst (v := 3) hx hb dX6_init_12 (by decide) ?_
  refine va_newa (atype := .int) (N' := 3) (a0 := (3, .inl (fun _ => 0))) hx hb (hts _ (List.mem_cons_of_mem _ t_320)) rfl hK hP hD hS hA (fun _ => rfl) (by decide) (by decide) (by decide) (Nat.le_of_ble_eq_true rfl) (Nat.le_of_ble_eq_true rfl) dX6_init_13 (fun q_3 k_4 H hK hP hD hS => ?_)
  have hK : va_K (dC, dI) vwCl [(k_4, .int)] s := hK
  have hP : va_P (dC, dI) vwCl [(h0, .inr (6, [.long 0, .int 0, .int 0, .int 0, .ref q_1, .null, .int 0, .int 0, .int 0, .int 0, .int 0, .int 0, .int 0])), (q_3, .inl (k_4, 3, .inl (fun _ => 0)))] H := hP
  have hD : va_D A [(h0, .inr (6, [.long 0, .int 0, .int 0, .int 0, .ref q_1, .null, .int 0, .int 0, .int 0, .int 0, .int 0, .int 0, .int 0])), (q_3, .inl (k_4, 3, .inl (fun _ => 0)))] := hD
  refine W.widen (k := 2) (n := 6) (Nat.le_of_ble_eq_true rfl) (Nat.le_of_ble_eq_true rfl) ?_
  refine va_putF (D := (dC, dI)) (ci := 6) (v := .ref q_3) (ty := tyX6 5) (C := RX6) (T := TX6) (N := 13) hx hb hts (mc_ inX6) tyX6 tyX6_ok nmX6 hown hK hP hD hS 0 rfl rfl 5 (by decide) (hts _ (List.mem_cons_of_mem _ t_573)) (fun _ h9 => h9) rfl hin rfl (by decide +kernel) rfl rfl (Nat.le_of_ble_eq_true rfl) dX6_init_15 (fun H locs hP hD hS => ?_)
  have hP : va_P (dC, dI) vwCl [(h0, .inr (6, [.long 0, .int 0, .int 0, .int 0, .ref q_1, .ref q_3, .int 0, .int 0, .int 0, .int 0, .int 0, .int 0, .int 0])), (q_3, .inl (k_4, 3, .inl (fun _ => 0)))] H := hP
  have hD : va_D A [(h0, .inr (6, [.long 0, .int 0, .int 0, .int 0, .ref q_1, .ref q_3, .int 0, .int 0, .int 0, .int 0, .int 0, .int 0, .int 0])), (q_3, .inl (k_4, 3, .inl (fun _ => 0)))] := hD
  have hP := hP.sub (ws' := [(h0, .inr (6, [.long 0, .int 0, .int 0, .int 0, .ref q_1, .ref q_3, .int 0, .int 0, .int 0, .int 0, .int 0, .int 0, .int 0]))]) [0] rfl
  have hD := hD.sub (ws' := [(h0, .inr (6, [.long 0, .int 0, .int 0, .int 0, .ref q_1, .ref q_3, .int 0, .int 0, .int 0, .int 0, .int 0, .int 0, .int 0]))]) [0] (by decide) rfl
  have hK := hK.sub (tys' := []) [] rfl
  have hP9 := hP.sub (ws' := [(h0, .inr (6, [.long 0, .int 0, .int 0, .int 0, .ref q_1, .ref q_3, .int 0, .int 0, .int 0, .int 0, .int 0, .int 0, .int 0]))]) [0] rfl
  have hD9 := hD.sub (ws' := [(h0, .inr (6, [.long 0, .int 0, .int 0, .int 0, .ref q_1, .ref q_3, .int 0, .int 0, .int 0, .int 0, .int 0, .int 0, .int 0]))]) [0] (by decide) rfl
  have hK9 := hK.sub (tys' := []) [] rfl
  refine W.widen (k := 2) (n := 6) (Nat.le_of_ble_eq_true rfl) (Nat.le_of_ble_eq_true rfl) ?_
  exact W.vret hx hb hr (fun t ht hW => ⟨⟨(), rfl, trivial, q_1, q_3, by rw [ht]; exact hP9, va_K.moved hW.alike hK9, hD9⟩, hS.F ht⟩) hS.2.2 dX6_init_18
set_option maxHeartbeats 4000000 in
set_option maxRecDepth 100000 in
theorem c_X1_init (l : Launch) (dC : Nat → ClassId) (dI : Nat → Nat → Nat) (h0 : Nat) (sz : Nat) : Met l yX1_init (.code yX1_init cX1_init 1 none :: lw_g) ({ frames := 1, cells := 3, slots := 952, locals := 20 }) (va_Pc [.ref h0] (fun U => U.heap.size = sz ∧ va_P (dC, dI) vwCl [(h0, .inr (1, [.null, .null, .null, .null, .null, .int 0, .int 0, .null, .int 0, .null, .null, .int 0, .int 0, .int 0, .int 0, .int 0, .int 0, .long 0]))] U.heap ∧ va_K (dC, dI) vwCl [] U ∧ va_D (fun _ => True) [(h0, .inr (1, [.null, .null, .null, .null, .null, .int 0, .int 0, .null, .int 0, .null, .null, .int 0, .int 0, .int 0, .int 0, .int 0, .int 0, .long 0]))])) (va_Qv (fun _ : Unit => True) (fun (_ : Unit) (t : State) => ∃ z0 : Nat, ∃ z1 : Nat, ∃ z2 : Nat, va_P (dC, dI) vwCl [(h0, .inr (1, [.null, .null, .ref z0, .ref z0, .ref z0, .int 0, .int 0, .ref z0, .int 0, .ref z1, .ref z2, .int 0, .int 0, .int 0, .int 0, .int 0, .int 0, .long 0]))] t.heap ∧ va_K (dC, dI) vwCl [] t ∧ va_D (va_A [(h0, .inr (1, [.null, .null, .null, .null, .null, .int 0, .int 0, .null, .int 0, .null, .null, .int 0, .int 0, .int 0, .int 0, .int 0, .int 0, .long 0]))] sz) [(h0, .inr (1, [.null, .null, .ref z0, .ref z0, .ref z0, .int 0, .int 0, .ref z0, .int 0, .ref z1, .ref z2, .int 0, .int 0, .int 0, .int 0, .int 0, .int 0, .long 0]))]) (va_A [(h0, .inr (1, [.null, .null, .null, .null, .null, .int 0, .int 0, .null, .int 0, .null, .null, .int 0, .int 0, .int 0, .int 0, .int 0, .int 0, .long 0]))] sz)) 3 952 (va_A [(h0, .inr (1, [.null, .null, .null, .null, .null, .int 0, .int 0, .null, .int 0, .null, .null, .int 0, .int 0, .int 0, .int 0, .int 0, .int 0, .long 0]))] sz) := by
  refine Met.ofW (cc := cX1_init) (maxL := 1) (ret := none) (by decide) rfl ?_
  intro p e s m args below meth c s₁ B hml hv
  obtain ⟨rfl, hsz, hP, hK, hD0⟩ := hv
  have hx := B.exec
  have hb := B.bytes
  have hr := B.returns
  have hts := atoms_spec (ws := (.code yX1_init cX1_init 1 none :: lw_g)) B.pre
  have hown : s.vm.findClass RX1 = some m.cls := findClass_of_methodNamed B.named
  have hlocks := B.notSynchronized
  have hin : meth.name = "<init>" := (name_of_methodNamed B.named B.method).1
  subst hsz
  have hD := hD0.self (sz := s.heap.size)
  generalize hAe : va_A [(h0, .inr (1, [.null, .null, .null, .null, .null, .int 0, .int 0, .null, .int 0, .null, .null, .int 0, .int 0, .int 0, .int 0, .int 0, .int 0, .long 0]))] s.heap.size = A at hD ⊢
  have hA : ∀ q : Nat, s.heap.size ≤ q → A q := fun q h => by rw [← hAe]; exact Or.inr h
  have hS : va_S A s.heap s.heap [] := va_S.rf
  have hP : va_P (dC, dI) vwCl [(h0, .inr (1, [.null, .null, .null, .null, .null, .int 0, .int 0, .null, .int 0, .null, .null, .int 0, .int 0, .int 0, .int 0, .int 0, .int 0, .long 0]))] s.heap := hP
  have hl := lv_entry ([.ref h0]) (n := 1) (Nat.le_of_ble_eq_true rfl)
  rw [lg_entry_eq]
  generalize (lg_sl ([.ref h0]) ++ List.replicate (1 - (lg_sl ([.ref h0])).length) Slot.unset).toArray = ls at hl ⊢
  have hl : lv_has ls 1 [(0, .ref h0)] := hl
  refine lv_aload_n hx hb dX1_init_0 rfl (lv_at hl 0 rfl) ?_
  refine W.objInit hx hb hown (hts _ (List.mem_cons_of_mem _ t_734)) (hts _ (List.mem_cons_of_mem _ t_213)) (hts _ (List.mem_cons_of_mem _ t_214)) rfl (by rw [hml]; exact hl.1) rfl dX1_init_1 (Nat.le_of_ble_eq_true rfl) (Nat.le_of_ble_eq_true rfl) ?_
  refine W.eq (g2 := F0 m 4 ls []) rfl ?_
  refine lv_aload_n hx hb dX1_init_4 rfl (lv_at hl 0 rfl) ?_
  refine lv_sipush (v := 700) hx hb dX1_init_5 (by decide) ?_
  refine va_newa (atype := .int) (N' := 700) (a0 := (700, .inl (fun _ => 0))) hx hb (hts _ (List.mem_cons_of_mem _ t_320)) rfl hK hP hD hS hA (fun _ => rfl) (by decide) (by decide) (by decide) (Nat.le_of_ble_eq_true rfl) (Nat.le_of_ble_eq_true rfl) dX1_init_8 (fun q_1 k_2 H hK hP hD hS => ?_)
  have hK : va_K (dC, dI) vwCl [(k_2, .int)] s := hK
  have hP : va_P (dC, dI) vwCl [(h0, .inr (1, [.null, .null, .null, .null, .null, .int 0, .int 0, .null, .int 0, .null, .null, .int 0, .int 0, .int 0, .int 0, .int 0, .int 0, .long 0])), (q_1, .inl (k_2, 700, .inl (fun _ => 0)))] H := hP
  have hD : va_D A [(h0, .inr (1, [.null, .null, .null, .null, .null, .int 0, .int 0, .null, .int 0, .null, .null, .int 0, .int 0, .int 0, .int 0, .int 0, .int 0, .long 0])), (q_1, .inl (k_2, 700, .inl (fun _ => 0)))] := hD
  refine W.widen (k := 1) (n := 700) (Nat.le_of_ble_eq_true rfl) (Nat.le_of_ble_eq_true rfl) ?_
  refine va_putF (D := (dC, dI)) (ci := 1) (v := .ref q_1) (ty := tyX1 7) (C := RX1) (T := TX1) (N := 18) hx hb hts (mc_ inX1) tyX1 tyX1_ok nmX1 hown hK hP hD hS 0 rfl rfl 7 (by decide) (hts _ (List.mem_cons_of_mem _ t_742)) (fun _ h9 => h9) rfl hin rfl (by decide +kernel) rfl rfl (Nat.le_of_ble_eq_true rfl) dX1_init_10 (fun H locs hP hD hS => ?_)
  have hP : va_P (dC, dI) vwCl [(h0, .inr (1, [.null, .null, .null, .null, .null, .int 0, .int 0, .ref q_1, .int 0, .null, .null, .int 0, .int 0, .int 0, .int 0, .int 0, .int 0, .long 0])), (q_1, .inl (k_2, 700, .inl (fun _ => 0)))] H := hP
  have hD : va_D A [(h0, .inr (1, [.null, .null, .null, .null, .null, .int 0, .int 0, .ref q_1, .int 0, .null, .null, .int 0, .int 0, .int 0, .int 0, .int 0, .int 0, .long 0])), (q_1, .inl (k_2, 700, .inl (fun _ => 0)))] := hD
  have hP := hP.sub (ws' := [(h0, .inr (1, [.null, .null, .null, .null, .null, .int 0, .int 0, .ref q_1, .int 0, .null, .null, .int 0, .int 0, .int 0, .int 0, .int 0, .int 0, .long 0]))]) [0] rfl
  have hD := hD.sub (ws' := [(h0, .inr (1, [.null, .null, .null, .null, .null, .int 0, .int 0, .ref q_1, .int 0, .null, .null, .int 0, .int 0, .int 0, .int 0, .int 0, .int 0, .long 0]))]) [0] (by decide) rfl
  have hK := hK.sub (tys' := []) [] rfl
  refine lv_aload_n hx hb dX1_init_13 rfl (lv_at hl 0 rfl) ?_
  refine lv_sipush (v := 231) hx hb dX1_init_14 (by decide) ?_
  refine va_newa (atype := .int) (N' := 231) (a0 := (231, .inl (fun _ => 0))) hx hb (hts _ (List.mem_cons_of_mem _ t_320)) rfl hK hP hD hS hA (fun _ => rfl) (by decide) (by decide) (by decide) (Nat.le_of_ble_eq_true rfl) (Nat.le_of_ble_eq_true rfl) dX1_init_17 (fun q_3 k_4 H hK hP hD hS => ?_)
  have hK : va_K (dC, dI) vwCl [(k_4, .int)] s := hK
  have hP : va_P (dC, dI) vwCl [(h0, .inr (1, [.null, .null, .null, .null, .null, .int 0, .int 0, .ref q_1, .int 0, .null, .null, .int 0, .int 0, .int 0, .int 0, .int 0, .int 0, .long 0])), (q_3, .inl (k_4, 231, .inl (fun _ => 0)))] H := hP
  have hD : va_D A [(h0, .inr (1, [.null, .null, .null, .null, .null, .int 0, .int 0, .ref q_1, .int 0, .null, .null, .int 0, .int 0, .int 0, .int 0, .int 0, .int 0, .long 0])), (q_3, .inl (k_4, 231, .inl (fun _ => 0)))] := hD
  refine W.widen (k := 2) (n := 931) (Nat.le_of_ble_eq_true rfl) (Nat.le_of_ble_eq_true rfl) ?_
  refine va_putF (D := (dC, dI)) (ci := 1) (v := .ref q_3) (ty := tyX1 9) (C := RX1) (T := TX1) (N := 18) hx hb hts (mc_ inX1) tyX1 tyX1_ok nmX1 hown hK hP hD hS 0 rfl rfl 9 (by decide) (hts _ (List.mem_cons_of_mem _ t_744)) (fun _ h9 => h9) rfl hin rfl (by decide +kernel) rfl rfl (Nat.le_of_ble_eq_true rfl) dX1_init_19 (fun H locs hP hD hS => ?_)
  have hP : va_P (dC, dI) vwCl [(h0, .inr (1, [.null, .null, .null, .null, .null, .int 0, .int 0, .ref q_1, .int 0, .ref q_3, .null, .int 0, .int 0, .int 0, .int 0, .int 0, .int 0, .long 0])), (q_3, .inl (k_4, 231, .inl (fun _ => 0)))] H := hP
  have hD : va_D A [(h0, .inr (1, [.null, .null, .null, .null, .null, .int 0, .int 0, .ref q_1, .int 0, .ref q_3, .null, .int 0, .int 0, .int 0, .int 0, .int 0, .int 0, .long 0])), (q_3, .inl (k_4, 231, .inl (fun _ => 0)))] := hD
  have hP := hP.sub (ws' := [(h0, .inr (1, [.null, .null, .null, .null, .null, .int 0, .int 0, .ref q_1, .int 0, .ref q_3, .null, .int 0, .int 0, .int 0, .int 0, .int 0, .int 0, .long 0]))]) [0] rfl
  have hD := hD.sub (ws' := [(h0, .inr (1, [.null, .null, .null, .null, .null, .int 0, .int 0, .ref q_1, .int 0, .ref q_3, .null, .int 0, .int 0, .int 0, .int 0, .int 0, .int 0, .long 0]))]) [0] (by decide) rfl
  have hK := hK.sub (tys' := []) [] rfl
  refine lv_aload_n hx hb dX1_init_22 rfl (lv_at hl 0 rfl) ?_
  refine lv_bipush (v := 21) hx hb dX1_init_23 (by decide) ?_
  refine va_newa (atype := .int) (N' := 21) (a0 := (21, .inl (fun _ => 0))) hx hb (hts _ (List.mem_cons_of_mem _ t_320)) rfl hK hP hD hS hA (fun _ => rfl) (by decide) (by decide) (by decide) (Nat.le_of_ble_eq_true rfl) (Nat.le_of_ble_eq_true rfl) dX1_init_25 (fun q_5 k_6 H hK hP hD hS => ?_)
  have hK : va_K (dC, dI) vwCl [(k_6, .int)] s := hK
  have hP : va_P (dC, dI) vwCl [(h0, .inr (1, [.null, .null, .null, .null, .null, .int 0, .int 0, .ref q_1, .int 0, .ref q_3, .null, .int 0, .int 0, .int 0, .int 0, .int 0, .int 0, .long 0])), (q_5, .inl (k_6, 21, .inl (fun _ => 0)))] H := hP
  have hD : va_D A [(h0, .inr (1, [.null, .null, .null, .null, .null, .int 0, .int 0, .ref q_1, .int 0, .ref q_3, .null, .int 0, .int 0, .int 0, .int 0, .int 0, .int 0, .long 0])), (q_5, .inl (k_6, 21, .inl (fun _ => 0)))] := hD
  refine W.widen (k := 3) (n := 952) (Nat.le_of_ble_eq_true rfl) (Nat.le_of_ble_eq_true rfl) ?_
  refine va_putF (D := (dC, dI)) (ci := 1) (v := .ref q_5) (ty := tyX1 10) (C := RX1) (T := TX1) (N := 18) hx hb hts (mc_ inX1) tyX1 tyX1_ok nmX1 hown hK hP hD hS 0 rfl rfl 10 (by decide) (hts _ (List.mem_cons_of_mem _ t_745)) (fun _ h9 => h9) rfl hin rfl (by decide +kernel) rfl rfl (Nat.le_of_ble_eq_true rfl) dX1_init_27 (fun H locs hP hD hS => ?_)
  have hP : va_P (dC, dI) vwCl [(h0, .inr (1, [.null, .null, .null, .null, .null, .int 0, .int 0, .ref q_1, .int 0, .ref q_3, .ref q_5, .int 0, .int 0, .int 0, .int 0, .int 0, .int 0, .long 0])), (q_5, .inl (k_6, 21, .inl (fun _ => 0)))] H := hP
  have hD : va_D A [(h0, .inr (1, [.null, .null, .null, .null, .null, .int 0, .int 0, .ref q_1, .int 0, .ref q_3, .ref q_5, .int 0, .int 0, .int 0, .int 0, .int 0, .int 0, .long 0])), (q_5, .inl (k_6, 21, .inl (fun _ => 0)))] := hD
  have hP := hP.sub (ws' := [(h0, .inr (1, [.null, .null, .null, .null, .null, .int 0, .int 0, .ref q_1, .int 0, .ref q_3, .ref q_5, .int 0, .int 0, .int 0, .int 0, .int 0, .int 0, .long 0]))]) [0] rfl
  have hD := hD.sub (ws' := [(h0, .inr (1, [.null, .null, .null, .null, .null, .int 0, .int 0, .ref q_1, .int 0, .ref q_3, .ref q_5, .int 0, .int 0, .int 0, .int 0, .int 0, .int 0, .long 0]))]) [0] (by decide) rfl
  have hK := hK.sub (tys' := []) [] rfl
  refine lv_aload_n hx hb dX1_init_30 rfl (lv_at hl 0 rfl) ?_
  refine lv_aload_n hx hb dX1_init_31 rfl (lv_at hl 0 rfl) ?_
  refine va_get (D := (dC, dI)) (ci := 1) (v := .ref q_1) (C := RX1) (T := TX1) (N := 18) hx hb hts (mc_ inX1) hown hK hP 0 rfl rfl 7 (by decide) (hts _ (List.mem_cons_of_mem _ t_742)) (fun _ h9 => h9) rfl dX1_init_32 ?_
  refine va_put (D := (dC, dI)) (ci := 1) (v := .ref q_1) (ty := tyX1 2) (C := RX1) (T := TX1) (N := 18) hx hb hts (mc_ inX1) tyX1 tyX1_ok nmX1 hown hK hP hD hS 0 rfl rfl 2 (by decide) (hts _ (List.mem_cons_of_mem _ t_737)) (fun _ h9 => h9) rfl (by decide +kernel) rfl rfl (Nat.le_of_ble_eq_true rfl) dX1_init_35 (fun H locs hP hD hS => ?_)
  have hP : va_P (dC, dI) vwCl [(h0, .inr (1, [.null, .null, .ref q_1, .null, .null, .int 0, .int 0, .ref q_1, .int 0, .ref q_3, .ref q_5, .int 0, .int 0, .int 0, .int 0, .int 0, .int 0, .long 0]))] H := hP
  have hD : va_D A [(h0, .inr (1, [.null, .null, .ref q_1, .null, .null, .int 0, .int 0, .ref q_1, .int 0, .ref q_3, .ref q_5, .int 0, .int 0, .int 0, .int 0, .int 0, .int 0, .long 0]))] := hD
  refine lv_aload_n hx hb dX1_init_38 rfl (lv_at hl 0 rfl) ?_
  refine lv_aload_n hx hb dX1_init_39 rfl (lv_at hl 0 rfl) ?_
  refine va_get (D := (dC, dI)) (ci := 1) (v := .ref q_1) (C := RX1) (T := TX1) (N := 18) hx hb hts (mc_ inX1) hown hK hP 0 rfl rfl 7 (by decide) (hts _ (List.mem_cons_of_mem _ t_742)) (fun _ h9 => h9) rfl dX1_init_40 ?_
  refine va_put (D := (dC, dI)) (ci := 1) (v := .ref q_1) (ty := tyX1 3) (C := RX1) (T := TX1) (N := 18) hx hb hts (mc_ inX1) tyX1 tyX1_ok nmX1 hown hK hP hD hS 0 rfl rfl 3 (by decide) (hts _ (List.mem_cons_of_mem _ t_738)) (fun _ h9 => h9) rfl (by decide +kernel) rfl rfl (Nat.le_of_ble_eq_true rfl) dX1_init_43 (fun H locs hP hD hS => ?_)
  have hP : va_P (dC, dI) vwCl [(h0, .inr (1, [.null, .null, .ref q_1, .ref q_1, .null, .int 0, .int 0, .ref q_1, .int 0, .ref q_3, .ref q_5, .int 0, .int 0, .int 0, .int 0, .int 0, .int 0, .long 0]))] H := hP
  have hD : va_D A [(h0, .inr (1, [.null, .null, .ref q_1, .ref q_1, .null, .int 0, .int 0, .ref q_1, .int 0, .ref q_3, .ref q_5, .int 0, .int 0, .int 0, .int 0, .int 0, .int 0, .long 0]))] := hD
  refine lv_aload_n hx hb dX1_init_46 rfl (lv_at hl 0 rfl) ?_
  refine lv_aload_n hx hb dX1_init_47 rfl (lv_at hl 0 rfl) ?_
  refine va_get (D := (dC, dI)) (ci := 1) (v := .ref q_1) (C := RX1) (T := TX1) (N := 18) hx hb hts (mc_ inX1) hown hK hP 0 rfl rfl 7 (by decide) (hts _ (List.mem_cons_of_mem _ t_742)) (fun _ h9 => h9) rfl dX1_init_48 ?_
  refine va_put (D := (dC, dI)) (ci := 1) (v := .ref q_1) (ty := tyX1 4) (C := RX1) (T := TX1) (N := 18) hx hb hts (mc_ inX1) tyX1 tyX1_ok nmX1 hown hK hP hD hS 0 rfl rfl 4 (by decide) (hts _ (List.mem_cons_of_mem _ t_739)) (fun _ h9 => h9) rfl (by decide +kernel) rfl rfl (Nat.le_of_ble_eq_true rfl) dX1_init_51 (fun H locs hP hD hS => ?_)
  have hP : va_P (dC, dI) vwCl [(h0, .inr (1, [.null, .null, .ref q_1, .ref q_1, .ref q_1, .int 0, .int 0, .ref q_1, .int 0, .ref q_3, .ref q_5, .int 0, .int 0, .int 0, .int 0, .int 0, .int 0, .long 0]))] H := hP
  have hD : va_D A [(h0, .inr (1, [.null, .null, .ref q_1, .ref q_1, .ref q_1, .int 0, .int 0, .ref q_1, .int 0, .ref q_3, .ref q_5, .int 0, .int 0, .int 0, .int 0, .int 0, .int 0, .long 0]))] := hD
  have hP9 := hP.sub (ws' := [(h0, .inr (1, [.null, .null, .ref q_1, .ref q_1, .ref q_1, .int 0, .int 0, .ref q_1, .int 0, .ref q_3, .ref q_5, .int 0, .int 0, .int 0, .int 0, .int 0, .int 0, .long 0]))]) [0] rfl
  have hD9 := hD.sub (ws' := [(h0, .inr (1, [.null, .null, .ref q_1, .ref q_1, .ref q_1, .int 0, .int 0, .ref q_1, .int 0, .ref q_3, .ref q_5, .int 0, .int 0, .int 0, .int 0, .int 0, .int 0, .long 0]))]) [0] (by decide) rfl
  have hK9 := hK.sub (tys' := []) [] rfl
  refine W.widen (k := 3) (n := 952) (Nat.le_of_ble_eq_true rfl) (Nat.le_of_ble_eq_true rfl) ?_
  exact W.vret hx hb hr (fun t ht hW => ⟨⟨(), rfl, trivial, q_1, q_3, q_5, by rw [ht]; exact hP9, va_K.moved hW.alike hK9, hD9⟩, hS.F ht⟩) hS.2.2 dX1_init_54
end
