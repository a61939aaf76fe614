section
-- ===== PART A: goes FIRST, ahead of the names: the tables' words, and 'selects' of the private methods out of them =====
/-- a private method of a class that the tables say can be made, by its rows of tables_1 -/
def lw_okq (q : MethodName × Nat) : Prop := (q.1.cls ≠ "java/lang/invoke/MethodHandle" ∧ q.1.cls ≠ "java/lang/invoke/VarHandle") ∧ Cond.instantiable q.1.cls q.2 ∈ tables_1 ∧ Cond.privateMethod q.1 ∈ tables_1 ∧ Cond.instanceMethod q.1 ∈ tables_1
theorem lw_p0 : lw_okq (⟨"MacroMill", "layNumber", "(I)V"⟩, 7) := ⟨⟨by decide +kernel, by decide +kernel⟩, List.mem_of_getElem? (i := 26) (by decide +kernel), List.mem_of_getElem? (i := 730) (by decide +kernel), List.mem_of_getElem? (i := 731) (by decide +kernel)⟩
theorem lw_p1 : lw_okq (⟨"MacroMill", "useTape", "()I"⟩, 7) := ⟨⟨by decide +kernel, by decide +kernel⟩, List.mem_of_getElem? (i := 26) (by decide +kernel), List.mem_of_getElem? (i := 742) (by decide +kernel), List.mem_of_getElem? (i := 743) (by decide +kernel)⟩
theorem lw_p2 : lw_okq (⟨"MacroMill$Meanings", "layBuiltIn", "()V"⟩, 11) := ⟨⟨by decide +kernel, by decide +kernel⟩, List.mem_of_getElem? (i := 218) (by decide +kernel), List.mem_of_getElem? (i := 809) (by decide +kernel), List.mem_of_getElem? (i := 810) (by decide +kernel)⟩
theorem lw_p3 : lw_okq (⟨"MacroMill$Meanings", "takeNode", "(I)I"⟩, 11) := ⟨⟨by decide +kernel, by decide +kernel⟩, List.mem_of_getElem? (i := 218) (by decide +kernel), List.mem_of_getElem? (i := 865) (by decide +kernel), List.mem_of_getElem? (i := 866) (by decide +kernel)⟩
theorem lw_p4 : lw_okq (⟨"MacroMill$First", "clearDiversions", "()V"⟩, 15) := ⟨⟨by decide +kernel, by decide +kernel⟩, List.mem_of_getElem? (i := 173) (by decide +kernel), List.mem_of_getElem? (i := 869) (by decide +kernel), List.mem_of_getElem? (i := 870) (by decide +kernel)⟩
theorem lw_p5 : lw_okq (⟨"MacroMill$Input", "isAt", "(Z)Z"⟩, 12) := ⟨⟨by decide +kernel, by decide +kernel⟩, List.mem_of_getElem? (i := 261) (by decide +kernel), List.mem_of_getElem? (i := 879) (by decide +kernel), List.mem_of_getElem? (i := 880) (by decide +kernel)⟩
theorem lw_p6 : lw_okq (⟨"MacroMill$Input", "readQuoted", "()V"⟩, 12) := ⟨⟨by decide +kernel, by decide +kernel⟩, List.mem_of_getElem? (i := 261) (by decide +kernel), List.mem_of_getElem? (i := 888) (by decide +kernel), List.mem_of_getElem? (i := 889) (by decide +kernel)⟩
theorem lw_p7 : lw_okq (⟨"MacroMill$Input", "takeQuote", "(Z)Z"⟩, 12) := ⟨⟨by decide +kernel, by decide +kernel⟩, List.mem_of_getElem? (i := 261) (by decide +kernel), List.mem_of_getElem? (i := 892) (by decide +kernel), List.mem_of_getElem? (i := 893) (by decide +kernel)⟩
theorem lw_p8 : lw_okq (⟨"MacroMill$Input", "readName", "()V"⟩, 12) := ⟨⟨by decide +kernel, by decide +kernel⟩, List.mem_of_getElem? (i := 261) (by decide +kernel), List.mem_of_getElem? (i := 911) (by decide +kernel), List.mem_of_getElem? (i := 912) (by decide +kernel)⟩
theorem lw_p9 : lw_okq (⟨"MacroMill$First", "finish", "()V"⟩, 15) := ⟨⟨by decide +kernel, by decide +kernel⟩, List.mem_of_getElem? (i := 173) (by decide +kernel), List.mem_of_getElem? (i := 922) (by decide +kernel), List.mem_of_getElem? (i := 923) (by decide +kernel)⟩
theorem lw_p10 : lw_okq (⟨"MacroMill$First", "fail", "(I)V"⟩, 15) := ⟨⟨by decide +kernel, by decide +kernel⟩, List.mem_of_getElem? (i := 173) (by decide +kernel), List.mem_of_getElem? (i := 926) (by decide +kernel), List.mem_of_getElem? (i := 927) (by decide +kernel)⟩
theorem lw_p11 : lw_okq (⟨"MacroMill$First", "isCallComplete", "()Z"⟩, 15) := ⟨⟨by decide +kernel, by decide +kernel⟩, List.mem_of_getElem? (i := 173) (by decide +kernel), List.mem_of_getElem? (i := 932) (by decide +kernel), List.mem_of_getElem? (i := 933) (by decide +kernel)⟩
theorem lw_p12 : lw_okq (⟨"MacroMill$First", "isCalled", "()Z"⟩, 15) := ⟨⟨by decide +kernel, by decide +kernel⟩, List.mem_of_getElem? (i := 173) (by decide +kernel), List.mem_of_getElem? (i := 936) (by decide +kernel), List.mem_of_getElem? (i := 937) (by decide +kernel)⟩
theorem lw_p13 : lw_okq (⟨"MacroMill$Meanings", "isNamed", "(I[BII)Z"⟩, 11) := ⟨⟨by decide +kernel, by decide +kernel⟩, List.mem_of_getElem? (i := 218) (by decide +kernel), List.mem_of_getElem? (i := 944) (by decide +kernel), List.mem_of_getElem? (i := 945) (by decide +kernel)⟩
theorem lw_p14 : lw_okq (⟨"MacroMill$First", "openCall", "()Z"⟩, 15) := ⟨⟨by decide +kernel, by decide +kernel⟩, List.mem_of_getElem? (i := 173) (by decide +kernel), List.mem_of_getElem? (i := 957) (by decide +kernel), List.mem_of_getElem? (i := 958) (by decide +kernel)⟩
theorem lw_p15 : lw_okq (⟨"MacroMill$First", "useInArgument", "()Z"⟩, 15) := ⟨⟨by decide +kernel, by decide +kernel⟩, List.mem_of_getElem? (i := 173) (by decide +kernel), List.mem_of_getElem? (i := 983) (by decide +kernel), List.mem_of_getElem? (i := 984) (by decide +kernel)⟩
def lw_privs_1 : List (MethodName × Nat) := [(⟨"MacroMill", "layNumber", "(I)V"⟩, 7), (⟨"MacroMill", "useTape", "()I"⟩, 7), (⟨"MacroMill$Meanings", "layBuiltIn", "()V"⟩, 11), (⟨"MacroMill$Meanings", "takeNode", "(I)I"⟩, 11), (⟨"MacroMill$First", "clearDiversions", "()V"⟩, 15), (⟨"MacroMill$Input", "isAt", "(Z)Z"⟩, 12), (⟨"MacroMill$Input", "readQuoted", "()V"⟩, 12), (⟨"MacroMill$Input", "takeQuote", "(Z)Z"⟩, 12), (⟨"MacroMill$Input", "readName", "()V"⟩, 12), (⟨"MacroMill$First", "finish", "()V"⟩, 15), (⟨"MacroMill$First", "fail", "(I)V"⟩, 15), (⟨"MacroMill$First", "isCallComplete", "()Z"⟩, 15), (⟨"MacroMill$First", "isCalled", "()Z"⟩, 15), (⟨"MacroMill$Meanings", "isNamed", "(I[BII)Z"⟩, 11), (⟨"MacroMill$First", "openCall", "()Z"⟩, 15), (⟨"MacroMill$First", "useInArgument", "()Z"⟩, 15)]
theorem lw_r1 : ∀ q ∈ lw_privs_1, lw_okq q := List.forall_mem_cons.mpr ⟨lw_p0, List.forall_mem_cons.mpr ⟨lw_p1, List.forall_mem_cons.mpr ⟨lw_p2, List.forall_mem_cons.mpr ⟨lw_p3, List.forall_mem_cons.mpr ⟨lw_p4, List.forall_mem_cons.mpr ⟨lw_p5, List.forall_mem_cons.mpr ⟨lw_p6, List.forall_mem_cons.mpr ⟨lw_p7, List.forall_mem_cons.mpr ⟨lw_p8, List.forall_mem_cons.mpr ⟨lw_p9, List.forall_mem_cons.mpr ⟨lw_p10, List.forall_mem_cons.mpr ⟨lw_p11, List.forall_mem_cons.mpr ⟨lw_p12, List.forall_mem_cons.mpr ⟨lw_p13, List.forall_mem_cons.mpr ⟨lw_p14, List.forall_mem_cons.mpr ⟨lw_p15, fun _ h => absurd h List.not_mem_nil⟩⟩⟩⟩⟩⟩⟩⟩⟩⟩⟩⟩⟩⟩⟩⟩
theorem lw_p16 : lw_okq (⟨"MacroMill$First", "divert", "([BII)V"⟩, 15) := ⟨⟨by decide +kernel, by decide +kernel⟩, List.mem_of_getElem? (i := 173) (by decide +kernel), List.mem_of_getElem? (i := 1003) (by decide +kernel), List.mem_of_getElem? (i := 1004) (by decide +kernel)⟩
theorem lw_p17 : lw_okq (⟨"MacroMill$First", "takePlace", "()I"⟩, 15) := ⟨⟨by decide +kernel, by decide +kernel⟩, List.mem_of_getElem? (i := 173) (by decide +kernel), List.mem_of_getElem? (i := 1007) (by decide +kernel), List.mem_of_getElem? (i := 1008) (by decide +kernel)⟩
theorem lw_p18 : lw_okq (⟨"MacroMill$First", "join", "(III)V"⟩, 15) := ⟨⟨by decide +kernel, by decide +kernel⟩, List.mem_of_getElem? (i := 173) (by decide +kernel), List.mem_of_getElem? (i := 1011) (by decide +kernel), List.mem_of_getElem? (i := 1012) (by decide +kernel)⟩
theorem lw_p19 : lw_okq (⟨"MacroMill$First", "answer", "()V"⟩, 15) := ⟨⟨by decide +kernel, by decide +kernel⟩, List.mem_of_getElem? (i := 173) (by decide +kernel), List.mem_of_getElem? (i := 1015) (by decide +kernel), List.mem_of_getElem? (i := 1016) (by decide +kernel)⟩
theorem lw_p20 : lw_okq (⟨"MacroMill$First", "giveText", "(I)V"⟩, 15) := ⟨⟨by decide +kernel, by decide +kernel⟩, List.mem_of_getElem? (i := 173) (by decide +kernel), List.mem_of_getElem? (i := 1031) (by decide +kernel), List.mem_of_getElem? (i := 1032) (by decide +kernel)⟩
theorem lw_p21 : lw_okq (⟨"MacroMill$First", "giveBytes", "(II)V"⟩, 15) := ⟨⟨by decide +kernel, by decide +kernel⟩, List.mem_of_getElem? (i := 173) (by decide +kernel), List.mem_of_getElem? (i := 1043) (by decide +kernel), List.mem_of_getElem? (i := 1044) (by decide +kernel)⟩
theorem lw_p22 : lw_okq (⟨"MacroMill$First", "giveArgument", "(I)V"⟩, 15) := ⟨⟨by decide +kernel, by decide +kernel⟩, List.mem_of_getElem? (i := 173) (by decide +kernel), List.mem_of_getElem? (i := 1049) (by decide +kernel), List.mem_of_getElem? (i := 1050) (by decide +kernel)⟩
theorem lw_p23 : lw_okq (⟨"MacroMill$First", "giveNumber", "(I)V"⟩, 15) := ⟨⟨by decide +kernel, by decide +kernel⟩, List.mem_of_getElem? (i := 173) (by decide +kernel), List.mem_of_getElem? (i := 1066) (by decide +kernel), List.mem_of_getElem? (i := 1067) (by decide +kernel)⟩
theorem lw_p24 : lw_okq (⟨"MacroMill$First", "giveByte", "(I)V"⟩, 15) := ⟨⟨by decide +kernel, by decide +kernel⟩, List.mem_of_getElem? (i := 173) (by decide +kernel), List.mem_of_getElem? (i := 1070) (by decide +kernel), List.mem_of_getElem? (i := 1071) (by decide +kernel)⟩
theorem lw_p25 : lw_okq (⟨"MacroMill$First", "giveArguments", "(IZ)V"⟩, 15) := ⟨⟨by decide +kernel, by decide +kernel⟩, List.mem_of_getElem? (i := 173) (by decide +kernel), List.mem_of_getElem? (i := 1077) (by decide +kernel), List.mem_of_getElem? (i := 1078) (by decide +kernel)⟩
theorem lw_p26 : lw_okq (⟨"MacroMill$First", "giveQuote", "(Z)V"⟩, 15) := ⟨⟨by decide +kernel, by decide +kernel⟩, List.mem_of_getElem? (i := 173) (by decide +kernel), List.mem_of_getElem? (i := 1081) (by decide +kernel), List.mem_of_getElem? (i := 1082) (by decide +kernel)⟩
theorem lw_p27 : lw_okq (⟨"MacroMill$First", "evaluate", "()V"⟩, 15) := ⟨⟨by decide +kernel, by decide +kernel⟩, List.mem_of_getElem? (i := 173) (by decide +kernel), List.mem_of_getElem? (i := 1090) (by decide +kernel), List.mem_of_getElem? (i := 1091) (by decide +kernel)⟩
theorem lw_p28 : lw_okq (⟨"MacroMill$First", "takeNumber", "(II)I"⟩, 15) := ⟨⟨by decide +kernel, by decide +kernel⟩, List.mem_of_getElem? (i := 173) (by decide +kernel), List.mem_of_getElem? (i := 1098) (by decide +kernel), List.mem_of_getElem? (i := 1099) (by decide +kernel)⟩
theorem lw_p29 : lw_okq (⟨"MacroMill$Reckoner", "endOperand", "()V"⟩, 13) := ⟨⟨by decide +kernel, by decide +kernel⟩, List.mem_of_getElem? (i := 125) (by decide +kernel), List.mem_of_getElem? (i := 1110) (by decide +kernel), List.mem_of_getElem? (i := 1111) (by decide +kernel)⟩
theorem lw_p30 : lw_okq (⟨"MacroMill$Reckoner", "isTop", "(I)Z"⟩, 13) := ⟨⟨by decide +kernel, by decide +kernel⟩, List.mem_of_getElem? (i := 125) (by decide +kernel), List.mem_of_getElem? (i := 1114) (by decide +kernel), List.mem_of_getElem? (i := 1115) (by decide +kernel)⟩
theorem lw_p31 : lw_okq (⟨"MacroMill$Reckoner", "takeSignInFront", "(I)V"⟩, 13) := ⟨⟨by decide +kernel, by decide +kernel⟩, List.mem_of_getElem? (i := 125) (by decide +kernel), List.mem_of_getElem? (i := 1126) (by decide +kernel), List.mem_of_getElem? (i := 1127) (by decide +kernel)⟩
def lw_privs_2 : List (MethodName × Nat) := [(⟨"MacroMill$First", "divert", "([BII)V"⟩, 15), (⟨"MacroMill$First", "takePlace", "()I"⟩, 15), (⟨"MacroMill$First", "join", "(III)V"⟩, 15), (⟨"MacroMill$First", "answer", "()V"⟩, 15), (⟨"MacroMill$First", "giveText", "(I)V"⟩, 15), (⟨"MacroMill$First", "giveBytes", "(II)V"⟩, 15), (⟨"MacroMill$First", "giveArgument", "(I)V"⟩, 15), (⟨"MacroMill$First", "giveNumber", "(I)V"⟩, 15), (⟨"MacroMill$First", "giveByte", "(I)V"⟩, 15), (⟨"MacroMill$First", "giveArguments", "(IZ)V"⟩, 15), (⟨"MacroMill$First", "giveQuote", "(Z)V"⟩, 15), (⟨"MacroMill$First", "evaluate", "()V"⟩, 15), (⟨"MacroMill$First", "takeNumber", "(II)I"⟩, 15), (⟨"MacroMill$Reckoner", "endOperand", "()V"⟩, 13), (⟨"MacroMill$Reckoner", "isTop", "(I)Z"⟩, 13), (⟨"MacroMill$Reckoner", "takeSignInFront", "(I)V"⟩, 13)]
theorem lw_r2 : ∀ q ∈ lw_privs_2, lw_okq q := List.forall_mem_cons.mpr ⟨lw_p16, List.forall_mem_cons.mpr ⟨lw_p17, List.forall_mem_cons.mpr ⟨lw_p18, List.forall_mem_cons.mpr ⟨lw_p19, List.forall_mem_cons.mpr ⟨lw_p20, List.forall_mem_cons.mpr ⟨lw_p21, List.forall_mem_cons.mpr ⟨lw_p22, List.forall_mem_cons.mpr ⟨lw_p23, List.forall_mem_cons.mpr ⟨lw_p24, List.forall_mem_cons.mpr ⟨lw_p25, List.forall_mem_cons.mpr ⟨lw_p26, List.forall_mem_cons.mpr ⟨lw_p27, List.forall_mem_cons.mpr ⟨lw_p28, List.forall_mem_cons.mpr ⟨lw_p29, List.forall_mem_cons.mpr ⟨lw_p30, List.forall_mem_cons.mpr ⟨lw_p31, fun _ h => absurd h List.not_mem_nil⟩⟩⟩⟩⟩⟩⟩⟩⟩⟩⟩⟩⟩⟩⟩⟩
theorem lw_p32 : lw_okq (⟨"MacroMill$Reckoner", "push", "(II)V"⟩, 13) := ⟨⟨by decide +kernel, by decide +kernel⟩, List.mem_of_getElem? (i := 125) (by decide +kernel), List.mem_of_getElem? (i := 1130) (by decide +kernel), List.mem_of_getElem? (i := 1131) (by decide +kernel)⟩
theorem lw_p33 : lw_okq (⟨"MacroMill$Reckoner", "reduceDownTo", "(I)V"⟩, 13) := ⟨⟨by decide +kernel, by decide +kernel⟩, List.mem_of_getElem? (i := 125) (by decide +kernel), List.mem_of_getElem? (i := 1140) (by decide +kernel), List.mem_of_getElem? (i := 1141) (by decide +kernel)⟩
theorem lw_p34 : lw_okq (⟨"MacroMill$Reckoner", "choose", "()V"⟩, 13) := ⟨⟨by decide +kernel, by decide +kernel⟩, List.mem_of_getElem? (i := 125) (by decide +kernel), List.mem_of_getElem? (i := 1144) (by decide +kernel), List.mem_of_getElem? (i := 1145) (by decide +kernel)⟩
theorem lw_p35 : lw_okq (⟨"MacroMill$Reckoner", "compare", "(I)V"⟩, 13) := ⟨⟨by decide +kernel, by decide +kernel⟩, List.mem_of_getElem? (i := 125) (by decide +kernel), List.mem_of_getElem? (i := 1148) (by decide +kernel), List.mem_of_getElem? (i := 1149) (by decide +kernel)⟩
theorem lw_p36 : lw_okq (⟨"MacroMill$Reckoner", "reckon", "(I)V"⟩, 13) := ⟨⟨by decide +kernel, by decide +kernel⟩, List.mem_of_getElem? (i := 125) (by decide +kernel), List.mem_of_getElem? (i := 1156) (by decide +kernel), List.mem_of_getElem? (i := 1157) (by decide +kernel)⟩
theorem lw_p37 : lw_okq (⟨"MacroMill$Reckoner", "divide", "(JJZZ)J"⟩, 13) := ⟨⟨by decide +kernel, by decide +kernel⟩, List.mem_of_getElem? (i := 125) (by decide +kernel), List.mem_of_getElem? (i := 1160) (by decide +kernel), List.mem_of_getElem? (i := 1161) (by decide +kernel)⟩
theorem lw_p38 : lw_okq (⟨"MacroMill$Reckoner", "closeParenthesis", "()V"⟩, 13) := ⟨⟨by decide +kernel, by decide +kernel⟩, List.mem_of_getElem? (i := 125) (by decide +kernel), List.mem_of_getElem? (i := 1164) (by decide +kernel), List.mem_of_getElem? (i := 1165) (by decide +kernel)⟩
theorem lw_p39 : lw_okq (⟨"MacroMill$Reckoner", "takeColon", "()V"⟩, 13) := ⟨⟨by decide +kernel, by decide +kernel⟩, List.mem_of_getElem? (i := 125) (by decide +kernel), List.mem_of_getElem? (i := 1168) (by decide +kernel), List.mem_of_getElem? (i := 1169) (by decide +kernel)⟩
theorem lw_p40 : lw_okq (⟨"MacroMill$Reckoner", "beIdleBehind", "(I)V"⟩, 13) := ⟨⟨by decide +kernel, by decide +kernel⟩, List.mem_of_getElem? (i := 125) (by decide +kernel), List.mem_of_getElem? (i := 1172) (by decide +kernel), List.mem_of_getElem? (i := 1173) (by decide +kernel)⟩
theorem lw_p41 : lw_okq (⟨"MacroMill$First", "answerMacros", "(I)V"⟩, 15) := ⟨⟨by decide +kernel, by decide +kernel⟩, List.mem_of_getElem? (i := 173) (by decide +kernel), List.mem_of_getElem? (i := 1188) (by decide +kernel), List.mem_of_getElem? (i := 1189) (by decide +kernel)⟩
theorem lw_p42 : lw_okq (⟨"MacroMill$Meanings", "makeRoom", "(I)I"⟩, 11) := ⟨⟨by decide +kernel, by decide +kernel⟩, List.mem_of_getElem? (i := 218) (by decide +kernel), List.mem_of_getElem? (i := 1204) (by decide +kernel), List.mem_of_getElem? (i := 1205) (by decide +kernel)⟩
theorem lw_p43 : lw_okq (⟨"MacroMill$Meanings", "closeGaps", "()V"⟩, 11) := ⟨⟨by decide +kernel, by decide +kernel⟩, List.mem_of_getElem? (i := 218) (by decide +kernel), List.mem_of_getElem? (i := 1208) (by decide +kernel), List.mem_of_getElem? (i := 1209) (by decide +kernel)⟩
theorem lw_p44 : lw_okq (⟨"MacroMill$Meanings", "release", "(I)V"⟩, 11) := ⟨⟨by decide +kernel, by decide +kernel⟩, List.mem_of_getElem? (i := 218) (by decide +kernel), List.mem_of_getElem? (i := 1217) (by decide +kernel), List.mem_of_getElem? (i := 1218) (by decide +kernel)⟩
theorem lw_p45 : lw_okq (⟨"MacroMill$First", "chooseSame", "()V"⟩, 15) := ⟨⟨by decide +kernel, by decide +kernel⟩, List.mem_of_getElem? (i := 173) (by decide +kernel), List.mem_of_getElem? (i := 1221) (by decide +kernel), List.mem_of_getElem? (i := 1222) (by decide +kernel)⟩
theorem lw_p46 : lw_okq (⟨"MacroMill$First", "answerValues", "(I)V"⟩, 15) := ⟨⟨by decide +kernel, by decide +kernel⟩, List.mem_of_getElem? (i := 173) (by decide +kernel), List.mem_of_getElem? (i := 1230) (by decide +kernel), List.mem_of_getElem? (i := 1231) (by decide +kernel)⟩
theorem lw_p47 : lw_okq (⟨"MacroMill$First", "number", "(I)I"⟩, 15) := ⟨⟨by decide +kernel, by decide +kernel⟩, List.mem_of_getElem? (i := 173) (by decide +kernel), List.mem_of_getElem? (i := 1234) (by decide +kernel), List.mem_of_getElem? (i := 1235) (by decide +kernel)⟩
def lw_privs_3 : List (MethodName × Nat) := [(⟨"MacroMill$Reckoner", "push", "(II)V"⟩, 13), (⟨"MacroMill$Reckoner", "reduceDownTo", "(I)V"⟩, 13), (⟨"MacroMill$Reckoner", "choose", "()V"⟩, 13), (⟨"MacroMill$Reckoner", "compare", "(I)V"⟩, 13), (⟨"MacroMill$Reckoner", "reckon", "(I)V"⟩, 13), (⟨"MacroMill$Reckoner", "divide", "(JJZZ)J"⟩, 13), (⟨"MacroMill$Reckoner", "closeParenthesis", "()V"⟩, 13), (⟨"MacroMill$Reckoner", "takeColon", "()V"⟩, 13), (⟨"MacroMill$Reckoner", "beIdleBehind", "(I)V"⟩, 13), (⟨"MacroMill$First", "answerMacros", "(I)V"⟩, 15), (⟨"MacroMill$Meanings", "makeRoom", "(I)I"⟩, 11), (⟨"MacroMill$Meanings", "closeGaps", "()V"⟩, 11), (⟨"MacroMill$Meanings", "release", "(I)V"⟩, 11), (⟨"MacroMill$First", "chooseSame", "()V"⟩, 15), (⟨"MacroMill$First", "answerValues", "(I)V"⟩, 15), (⟨"MacroMill$First", "number", "(I)I"⟩, 15)]
theorem lw_r3 : ∀ q ∈ lw_privs_3, lw_okq q := List.forall_mem_cons.mpr ⟨lw_p32, List.forall_mem_cons.mpr ⟨lw_p33, List.forall_mem_cons.mpr ⟨lw_p34, List.forall_mem_cons.mpr ⟨lw_p35, List.forall_mem_cons.mpr ⟨lw_p36, List.forall_mem_cons.mpr ⟨lw_p37, List.forall_mem_cons.mpr ⟨lw_p38, List.forall_mem_cons.mpr ⟨lw_p39, List.forall_mem_cons.mpr ⟨lw_p40, List.forall_mem_cons.mpr ⟨lw_p41, List.forall_mem_cons.mpr ⟨lw_p42, List.forall_mem_cons.mpr ⟨lw_p43, List.forall_mem_cons.mpr ⟨lw_p44, List.forall_mem_cons.mpr ⟨lw_p45, List.forall_mem_cons.mpr ⟨lw_p46, List.forall_mem_cons.mpr ⟨lw_p47, fun _ h => absurd h List.not_mem_nil⟩⟩⟩⟩⟩⟩⟩⟩⟩⟩⟩⟩⟩⟩⟩⟩
theorem lw_p48 : lw_okq (⟨"MacroMill$First", "place", "()I"⟩, 15) := ⟨⟨by decide +kernel, by decide +kernel⟩, List.mem_of_getElem? (i := 173) (by decide +kernel), List.mem_of_getElem? (i := 1238) (by decide +kernel), List.mem_of_getElem? (i := 1239) (by decide +kernel)⟩
theorem lw_p49 : lw_okq (⟨"MacroMill$First", "givePart", "()V"⟩, 15) := ⟨⟨by decide +kernel, by decide +kernel⟩, List.mem_of_getElem? (i := 173) (by decide +kernel), List.mem_of_getElem? (i := 1243) (by decide +kernel), List.mem_of_getElem? (i := 1244) (by decide +kernel)⟩
theorem lw_p50 : lw_okq (⟨"MacroMill$First", "answerOthers", "(I)V"⟩, 15) := ⟨⟨by decide +kernel, by decide +kernel⟩, List.mem_of_getElem? (i := 173) (by decide +kernel), List.mem_of_getElem? (i := 1250) (by decide +kernel), List.mem_of_getElem? (i := 1251) (by decide +kernel)⟩
theorem lw_p51 : lw_okq (⟨"MacroMill$First", "setCurrent", "(I)V"⟩, 15) := ⟨⟨by decide +kernel, by decide +kernel⟩, List.mem_of_getElem? (i := 173) (by decide +kernel), List.mem_of_getElem? (i := 1255) (by decide +kernel), List.mem_of_getElem? (i := 1256) (by decide +kernel)⟩
theorem lw_p52 : lw_okq (⟨"MacroMill$First", "undivert", "()V"⟩, 15) := ⟨⟨by decide +kernel, by decide +kernel⟩, List.mem_of_getElem? (i := 173) (by decide +kernel), List.mem_of_getElem? (i := 1259) (by decide +kernel), List.mem_of_getElem? (i := 1260) (by decide +kernel)⟩
theorem lw_p53 : lw_okq (⟨"MacroMill$First", "undivertOne", "(I)V"⟩, 15) := ⟨⟨by decide +kernel, by decide +kernel⟩, List.mem_of_getElem? (i := 173) (by decide +kernel), List.mem_of_getElem? (i := 1263) (by decide +kernel), List.mem_of_getElem? (i := 1264) (by decide +kernel)⟩
theorem lw_p54 : lw_okq (⟨"MacroMill$First", "release", "(I)V"⟩, 15) := ⟨⟨by decide +kernel, by decide +kernel⟩, List.mem_of_getElem? (i := 173) (by decide +kernel), List.mem_of_getElem? (i := 1267) (by decide +kernel), List.mem_of_getElem? (i := 1268) (by decide +kernel)⟩
theorem lw_p55 : lw_okq (⟨"MacroMill$First", "changeQuotes", "()V"⟩, 15) := ⟨⟨by decide +kernel, by decide +kernel⟩, List.mem_of_getElem? (i := 173) (by decide +kernel), List.mem_of_getElem? (i := 1271) (by decide +kernel), List.mem_of_getElem? (i := 1272) (by decide +kernel)⟩
theorem lw_p56 : lw_okq (⟨"MacroMill$Lines", "takeTokens", "(II)I"⟩, 19) := ⟨⟨by decide +kernel, by decide +kernel⟩, List.mem_of_getElem? (i := 493) (by decide +kernel), List.mem_of_getElem? (i := 1328) (by decide +kernel), List.mem_of_getElem? (i := 1329) (by decide +kernel)⟩
theorem lw_p57 : lw_okq (⟨"MacroMill$Lines", "commentEnd", "(II)I"⟩, 19) := ⟨⟨by decide +kernel, by decide +kernel⟩, List.mem_of_getElem? (i := 493) (by decide +kernel), List.mem_of_getElem? (i := 1337) (by decide +kernel), List.mem_of_getElem? (i := 1338) (by decide +kernel)⟩
theorem lw_p58 : lw_okq (⟨"MacroMill$Lines", "takeToken", "(IIZ)I"⟩, 19) := ⟨⟨by decide +kernel, by decide +kernel⟩, List.mem_of_getElem? (i := 493) (by decide +kernel), List.mem_of_getElem? (i := 1341) (by decide +kernel), List.mem_of_getElem? (i := 1342) (by decide +kernel)⟩
theorem lw_p59 : lw_okq (⟨"MacroMill$Tokens", "quoteEnd", "(II)I"⟩, 10) := ⟨⟨by decide +kernel, by decide +kernel⟩, List.mem_of_getElem? (i := 362) (by decide +kernel), List.mem_of_getElem? (i := 1349) (by decide +kernel), List.mem_of_getElem? (i := 1350) (by decide +kernel)⟩
theorem lw_p60 : lw_okq (⟨"MacroMill$Tokens", "nameEnd", "(II)I"⟩, 10) := ⟨⟨by decide +kernel, by decide +kernel⟩, List.mem_of_getElem? (i := 362) (by decide +kernel), List.mem_of_getElem? (i := 1354) (by decide +kernel), List.mem_of_getElem? (i := 1355) (by decide +kernel)⟩
theorem lw_p61 : lw_okq (⟨"MacroMill$Tokens", "numberEnd", "(II)I"⟩, 10) := ⟨⟨by decide +kernel, by decide +kernel⟩, List.mem_of_getElem? (i := 362) (by decide +kernel), List.mem_of_getElem? (i := 1359) (by decide +kernel), List.mem_of_getElem? (i := 1360) (by decide +kernel)⟩
theorem lw_p62 : lw_okq (⟨"MacroMill$Tokens", "signEnd", "(II)I"⟩, 10) := ⟨⟨by decide +kernel, by decide +kernel⟩, List.mem_of_getElem? (i := 362) (by decide +kernel), List.mem_of_getElem? (i := 1363) (by decide +kernel), List.mem_of_getElem? (i := 1364) (by decide +kernel)⟩
theorem lw_p63 : lw_okq (⟨"MacroMill$Replacer", "replace", "(III)V"⟩, 16) := ⟨⟨by decide +kernel, by decide +kernel⟩, List.mem_of_getElem? (i := 560) (by decide +kernel), List.mem_of_getElem? (i := 1461) (by decide +kernel), List.mem_of_getElem? (i := 1462) (by decide +kernel)⟩
def lw_privs_4 : List (MethodName × Nat) := [(⟨"MacroMill$First", "place", "()I"⟩, 15), (⟨"MacroMill$First", "givePart", "()V"⟩, 15), (⟨"MacroMill$First", "answerOthers", "(I)V"⟩, 15), (⟨"MacroMill$First", "setCurrent", "(I)V"⟩, 15), (⟨"MacroMill$First", "undivert", "()V"⟩, 15), (⟨"MacroMill$First", "undivertOne", "(I)V"⟩, 15), (⟨"MacroMill$First", "release", "(I)V"⟩, 15), (⟨"MacroMill$First", "changeQuotes", "()V"⟩, 15), (⟨"MacroMill$Lines", "takeTokens", "(II)I"⟩, 19), (⟨"MacroMill$Lines", "commentEnd", "(II)I"⟩, 19), (⟨"MacroMill$Lines", "takeToken", "(IIZ)I"⟩, 19), (⟨"MacroMill$Tokens", "quoteEnd", "(II)I"⟩, 10), (⟨"MacroMill$Tokens", "nameEnd", "(II)I"⟩, 10), (⟨"MacroMill$Tokens", "numberEnd", "(II)I"⟩, 10), (⟨"MacroMill$Tokens", "signEnd", "(II)I"⟩, 10), (⟨"MacroMill$Replacer", "replace", "(III)V"⟩, 16)]
theorem lw_r4 : ∀ q ∈ lw_privs_4, lw_okq q := List.forall_mem_cons.mpr ⟨lw_p48, List.forall_mem_cons.mpr ⟨lw_p49, List.forall_mem_cons.mpr ⟨lw_p50, List.forall_mem_cons.mpr ⟨lw_p51, List.forall_mem_cons.mpr ⟨lw_p52, List.forall_mem_cons.mpr ⟨lw_p53, List.forall_mem_cons.mpr ⟨lw_p54, List.forall_mem_cons.mpr ⟨lw_p55, List.forall_mem_cons.mpr ⟨lw_p56, List.forall_mem_cons.mpr ⟨lw_p57, List.forall_mem_cons.mpr ⟨lw_p58, List.forall_mem_cons.mpr ⟨lw_p59, List.forall_mem_cons.mpr ⟨lw_p60, List.forall_mem_cons.mpr ⟨lw_p61, List.forall_mem_cons.mpr ⟨lw_p62, List.forall_mem_cons.mpr ⟨lw_p63, fun _ h => absurd h List.not_mem_nil⟩⟩⟩⟩⟩⟩⟩⟩⟩⟩⟩⟩⟩⟩⟩⟩
theorem lw_p64 : lw_okq (⟨"MacroMill$Replacer", "macroAt", "(II)I"⟩, 16) := ⟨⟨by decide +kernel, by decide +kernel⟩, List.mem_of_getElem? (i := 560) (by decide +kernel), List.mem_of_getElem? (i := 1467) (by decide +kernel), List.mem_of_getElem? (i := 1468) (by decide +kernel)⟩
theorem lw_p65 : lw_okq (⟨"MacroMill$Replacer", "call", "(IIII)I"⟩, 16) := ⟨⟨by decide +kernel, by decide +kernel⟩, List.mem_of_getElem? (i := 560) (by decide +kernel), List.mem_of_getElem? (i := 1504) (by decide +kernel), List.mem_of_getElem? (i := 1505) (by decide +kernel)⟩
theorem lw_p66 : lw_okq (⟨"MacroMill$Replacer", "gatherArguments", "(IIII)I"⟩, 16) := ⟨⟨by decide +kernel, by decide +kernel⟩, List.mem_of_getElem? (i := 560) (by decide +kernel), List.mem_of_getElem? (i := 1509) (by decide +kernel), List.mem_of_getElem? (i := 1510) (by decide +kernel)⟩
theorem lw_p67 : lw_okq (⟨"MacroMill$Replacer", "endArgument", "(III)V"⟩, 16) := ⟨⟨by decide +kernel, by decide +kernel⟩, List.mem_of_getElem? (i := 560) (by decide +kernel), List.mem_of_getElem? (i := 1513) (by decide +kernel), List.mem_of_getElem? (i := 1514) (by decide +kernel)⟩
theorem lw_p68 : lw_okq (⟨"MacroMill$Replacer", "clearRow", "(I)V"⟩, 16) := ⟨⟨by decide +kernel, by decide +kernel⟩, List.mem_of_getElem? (i := 560) (by decide +kernel), List.mem_of_getElem? (i := 1518) (by decide +kernel), List.mem_of_getElem? (i := 1519) (by decide +kernel)⟩
theorem lw_p69 : lw_okq (⟨"MacroMill$Replacer", "parameterAt", "(II)I"⟩, 16) := ⟨⟨by decide +kernel, by decide +kernel⟩, List.mem_of_getElem? (i := 560) (by decide +kernel), List.mem_of_getElem? (i := 1531) (by decide +kernel), List.mem_of_getElem? (i := 1532) (by decide +kernel)⟩
theorem lw_p70 : lw_okq (⟨"MacroMill$Replacer", "isHash", "(I)Z"⟩, 16) := ⟨⟨by decide +kernel, by decide +kernel⟩, List.mem_of_getElem? (i := 560) (by decide +kernel), List.mem_of_getElem? (i := 1535) (by decide +kernel), List.mem_of_getElem? (i := 1536) (by decide +kernel)⟩
theorem lw_p71 : lw_okq (⟨"MacroMill$Replacer", "putText", "(IIII)V"⟩, 16) := ⟨⟨by decide +kernel, by decide +kernel⟩, List.mem_of_getElem? (i := 560) (by decide +kernel), List.mem_of_getElem? (i := 1541) (by decide +kernel), List.mem_of_getElem? (i := 1542) (by decide +kernel)⟩
theorem lw_p72 : lw_okq (⟨"MacroMill$Replacer", "spellWithin", "(I)V"⟩, 16) := ⟨⟨by decide +kernel, by decide +kernel⟩, List.mem_of_getElem? (i := 560) (by decide +kernel), List.mem_of_getElem? (i := 1556) (by decide +kernel), List.mem_of_getElem? (i := 1557) (by decide +kernel)⟩
theorem lw_p73 : lw_okq (⟨"MacroMill$Replacer", "spelledSince", "(II)J"⟩, 16) := ⟨⟨by decide +kernel, by decide +kernel⟩, List.mem_of_getElem? (i := 560) (by decide +kernel), List.mem_of_getElem? (i := 1564) (by decide +kernel), List.mem_of_getElem? (i := 1565) (by decide +kernel)⟩
theorem lw_p74 : lw_okq (⟨"MacroMill$Replacer", "put", "(IJII)V"⟩, 16) := ⟨⟨by decide +kernel, by decide +kernel⟩, List.mem_of_getElem? (i := 560) (by decide +kernel), List.mem_of_getElem? (i := 1578) (by decide +kernel), List.mem_of_getElem? (i := 1579) (by decide +kernel)⟩
theorem lw_p75 : lw_okq (⟨"MacroMill$Replacer", "append", "(IJI)V"⟩, 16) := ⟨⟨by decide +kernel, by decide +kernel⟩, List.mem_of_getElem? (i := 560) (by decide +kernel), List.mem_of_getElem? (i := 1586) (by decide +kernel), List.mem_of_getElem? (i := 1587) (by decide +kernel)⟩
theorem lw_p76 : lw_okq (⟨"MacroMill$Replacer", "isPasting", "(II)Z"⟩, 16) := ⟨⟨by decide +kernel, by decide +kernel⟩, List.mem_of_getElem? (i := 560) (by decide +kernel), List.mem_of_getElem? (i := 1594) (by decide +kernel), List.mem_of_getElem? (i := 1595) (by decide +kernel)⟩
theorem lw_p77 : lw_okq (⟨"MacroMill$Replacer", "paste", "(IJII)V"⟩, 16) := ⟨⟨by decide +kernel, by decide +kernel⟩, List.mem_of_getElem? (i := 560) (by decide +kernel), List.mem_of_getElem? (i := 1598) (by decide +kernel), List.mem_of_getElem? (i := 1599) (by decide +kernel)⟩
theorem lw_p78 : lw_okq (⟨"MacroMill$Macros", "findSet", "()I"⟩, 19) := ⟨⟨by decide +kernel, by decide +kernel⟩, List.mem_of_getElem? (i := 423) (by decide +kernel), List.mem_of_getElem? (i := 1615) (by decide +kernel), List.mem_of_getElem? (i := 1616) (by decide +kernel)⟩
theorem lw_p79 : lw_okq (⟨"MacroMill$Macros", "isWanted", "(I)Z"⟩, 19) := ⟨⟨by decide +kernel, by decide +kernel⟩, List.mem_of_getElem? (i := 423) (by decide +kernel), List.mem_of_getElem? (i := 1620) (by decide +kernel), List.mem_of_getElem? (i := 1621) (by decide +kernel)⟩
def lw_privs_5 : List (MethodName × Nat) := [(⟨"MacroMill$Replacer", "macroAt", "(II)I"⟩, 16), (⟨"MacroMill$Replacer", "call", "(IIII)I"⟩, 16), (⟨"MacroMill$Replacer", "gatherArguments", "(IIII)I"⟩, 16), (⟨"MacroMill$Replacer", "endArgument", "(III)V"⟩, 16), (⟨"MacroMill$Replacer", "clearRow", "(I)V"⟩, 16), (⟨"MacroMill$Replacer", "parameterAt", "(II)I"⟩, 16), (⟨"MacroMill$Replacer", "isHash", "(I)Z"⟩, 16), (⟨"MacroMill$Replacer", "putText", "(IIII)V"⟩, 16), (⟨"MacroMill$Replacer", "spellWithin", "(I)V"⟩, 16), (⟨"MacroMill$Replacer", "spelledSince", "(II)J"⟩, 16), (⟨"MacroMill$Replacer", "put", "(IJII)V"⟩, 16), (⟨"MacroMill$Replacer", "append", "(IJI)V"⟩, 16), (⟨"MacroMill$Replacer", "isPasting", "(II)Z"⟩, 16), (⟨"MacroMill$Replacer", "paste", "(IJII)V"⟩, 16), (⟨"MacroMill$Macros", "findSet", "()I"⟩, 19), (⟨"MacroMill$Macros", "isWanted", "(I)Z"⟩, 19)]
theorem lw_r5 : ∀ q ∈ lw_privs_5, lw_okq q := List.forall_mem_cons.mpr ⟨lw_p64, List.forall_mem_cons.mpr ⟨lw_p65, List.forall_mem_cons.mpr ⟨lw_p66, List.forall_mem_cons.mpr ⟨lw_p67, List.forall_mem_cons.mpr ⟨lw_p68, List.forall_mem_cons.mpr ⟨lw_p69, List.forall_mem_cons.mpr ⟨lw_p70, List.forall_mem_cons.mpr ⟨lw_p71, List.forall_mem_cons.mpr ⟨lw_p72, List.forall_mem_cons.mpr ⟨lw_p73, List.forall_mem_cons.mpr ⟨lw_p74, List.forall_mem_cons.mpr ⟨lw_p75, List.forall_mem_cons.mpr ⟨lw_p76, List.forall_mem_cons.mpr ⟨lw_p77, List.forall_mem_cons.mpr ⟨lw_p78, List.forall_mem_cons.mpr ⟨lw_p79, fun _ h => absurd h List.not_mem_nil⟩⟩⟩⟩⟩⟩⟩⟩⟩⟩⟩⟩⟩⟩⟩⟩
theorem lw_p80 : lw_okq (⟨"MacroMill$Replacer", "forgetKept", "(II)V"⟩, 16) := ⟨⟨by decide +kernel, by decide +kernel⟩, List.mem_of_getElem? (i := 560) (by decide +kernel), List.mem_of_getElem? (i := 1626) (by decide +kernel), List.mem_of_getElem? (i := 1627) (by decide +kernel)⟩
theorem lw_p81 : lw_okq (⟨"MacroMill$Replacer", "isEmpty", "(II)Z"⟩, 16) := ⟨⟨by decide +kernel, by decide +kernel⟩, List.mem_of_getElem? (i := 560) (by decide +kernel), List.mem_of_getElem? (i := 1630) (by decide +kernel), List.mem_of_getElem? (i := 1631) (by decide +kernel)⟩
theorem lw_p82 : lw_okq (⟨"MacroMill$Replacer", "putArgument", "(IIII)V"⟩, 16) := ⟨⟨by decide +kernel, by decide +kernel⟩, List.mem_of_getElem? (i := 560) (by decide +kernel), List.mem_of_getElem? (i := 1634) (by decide +kernel), List.mem_of_getElem? (i := 1635) (by decide +kernel)⟩
theorem lw_p83 : lw_okq (⟨"MacroMill$Replacer", "putReplaced", "(III)V"⟩, 16) := ⟨⟨by decide +kernel, by decide +kernel⟩, List.mem_of_getElem? (i := 560) (by decide +kernel), List.mem_of_getElem? (i := 1638) (by decide +kernel), List.mem_of_getElem? (i := 1639) (by decide +kernel)⟩
theorem lw_p84 : lw_okq (⟨"MacroMill$Replacer", "hasRoomForKept", "(I)Z"⟩, 16) := ⟨⟨by decide +kernel, by decide +kernel⟩, List.mem_of_getElem? (i := 560) (by decide +kernel), List.mem_of_getElem? (i := 1642) (by decide +kernel), List.mem_of_getElem? (i := 1643) (by decide +kernel)⟩
theorem lw_p85 : lw_okq (⟨"MacroMill$Replacer", "putKept", "(III)V"⟩, 16) := ⟨⟨by decide +kernel, by decide +kernel⟩, List.mem_of_getElem? (i := 560) (by decide +kernel), List.mem_of_getElem? (i := 1647) (by decide +kernel), List.mem_of_getElem? (i := 1648) (by decide +kernel)⟩
theorem lw_p86 : lw_okq (⟨"MacroMill$Replacer", "finishCall", "(IIII)I"⟩, 16) := ⟨⟨by decide +kernel, by decide +kernel⟩, List.mem_of_getElem? (i := 560) (by decide +kernel), List.mem_of_getElem? (i := 1651) (by decide +kernel), List.mem_of_getElem? (i := 1652) (by decide +kernel)⟩
theorem lw_p87 : lw_okq (⟨"MacroMill$Replacer", "leave", "(III)V"⟩, 16) := ⟨⟨by decide +kernel, by decide +kernel⟩, List.mem_of_getElem? (i := 560) (by decide +kernel), List.mem_of_getElem? (i := 1667) (by decide +kernel), List.mem_of_getElem? (i := 1668) (by decide +kernel)⟩
theorem lw_p88 : lw_okq (⟨"MacroMill$Replacer", "spellLine", "(I)J"⟩, 16) := ⟨⟨by decide +kernel, by decide +kernel⟩, List.mem_of_getElem? (i := 560) (by decide +kernel), List.mem_of_getElem? (i := 1678) (by decide +kernel), List.mem_of_getElem? (i := 1679) (by decide +kernel)⟩
theorem lw_p89 : lw_okq (⟨"MacroMill$Replacer", "spellFile", "(I)J"⟩, 16) := ⟨⟨by decide +kernel, by decide +kernel⟩, List.mem_of_getElem? (i := 560) (by decide +kernel), List.mem_of_getElem? (i := 1693) (by decide +kernel), List.mem_of_getElem? (i := 1694) (by decide +kernel)⟩
theorem lw_p90 : lw_okq (⟨"MacroMill$Replacer", "keepForDirective", "(JI)V"⟩, 16) := ⟨⟨by decide +kernel, by decide +kernel⟩, List.mem_of_getElem? (i := 560) (by decide +kernel), List.mem_of_getElem? (i := 1701) (by decide +kernel), List.mem_of_getElem? (i := 1702) (by decide +kernel)⟩
theorem lw_p91 : lw_okq (⟨"MacroMill$Replacer", "putOut", "(JI)V"⟩, 16) := ⟨⟨by decide +kernel, by decide +kernel⟩, List.mem_of_getElem? (i := 560) (by decide +kernel), List.mem_of_getElem? (i := 1705) (by decide +kernel), List.mem_of_getElem? (i := 1706) (by decide +kernel)⟩
theorem lw_p92 : lw_okq (⟨"MacroMill$Second", "wordOf", "(I)I"⟩, 22) := ⟨⟨by decide +kernel, by decide +kernel⟩, List.mem_of_getElem? (i := 356) (by decide +kernel), List.mem_of_getElem? (i := 1715) (by decide +kernel), List.mem_of_getElem? (i := 1716) (by decide +kernel)⟩
theorem lw_p93 : lw_okq (⟨"MacroMill$Second", "obey", "(I)V"⟩, 22) := ⟨⟨by decide +kernel, by decide +kernel⟩, List.mem_of_getElem? (i := 356) (by decide +kernel), List.mem_of_getElem? (i := 1725) (by decide +kernel), List.mem_of_getElem? (i := 1726) (by decide +kernel)⟩
theorem lw_p94 : lw_okq (⟨"MacroMill$Second", "isCounting", "()Z"⟩, 22) := ⟨⟨by decide +kernel, by decide +kernel⟩, List.mem_of_getElem? (i := 356) (by decide +kernel), List.mem_of_getElem? (i := 1729) (by decide +kernel), List.mem_of_getElem? (i := 1730) (by decide +kernel)⟩
theorem lw_p95 : lw_okq (⟨"MacroMill$Second", "openCondition", "(I)V"⟩, 22) := ⟨⟨by decide +kernel, by decide +kernel⟩, List.mem_of_getElem? (i := 356) (by decide +kernel), List.mem_of_getElem? (i := 1733) (by decide +kernel), List.mem_of_getElem? (i := 1734) (by decide +kernel)⟩
def lw_privs_6 : List (MethodName × Nat) := [(⟨"MacroMill$Replacer", "forgetKept", "(II)V"⟩, 16), (⟨"MacroMill$Replacer", "isEmpty", "(II)Z"⟩, 16), (⟨"MacroMill$Replacer", "putArgument", "(IIII)V"⟩, 16), (⟨"MacroMill$Replacer", "putReplaced", "(III)V"⟩, 16), (⟨"MacroMill$Replacer", "hasRoomForKept", "(I)Z"⟩, 16), (⟨"MacroMill$Replacer", "putKept", "(III)V"⟩, 16), (⟨"MacroMill$Replacer", "finishCall", "(IIII)I"⟩, 16), (⟨"MacroMill$Replacer", "leave", "(III)V"⟩, 16), (⟨"MacroMill$Replacer", "spellLine", "(I)J"⟩, 16), (⟨"MacroMill$Replacer", "spellFile", "(I)J"⟩, 16), (⟨"MacroMill$Replacer", "keepForDirective", "(JI)V"⟩, 16), (⟨"MacroMill$Replacer", "putOut", "(JI)V"⟩, 16), (⟨"MacroMill$Second", "wordOf", "(I)I"⟩, 22), (⟨"MacroMill$Second", "obey", "(I)V"⟩, 22), (⟨"MacroMill$Second", "isCounting", "()Z"⟩, 22), (⟨"MacroMill$Second", "openCondition", "(I)V"⟩, 22)]
theorem lw_r6 : ∀ q ∈ lw_privs_6, lw_okq q := List.forall_mem_cons.mpr ⟨lw_p80, List.forall_mem_cons.mpr ⟨lw_p81, List.forall_mem_cons.mpr ⟨lw_p82, List.forall_mem_cons.mpr ⟨lw_p83, List.forall_mem_cons.mpr ⟨lw_p84, List.forall_mem_cons.mpr ⟨lw_p85, List.forall_mem_cons.mpr ⟨lw_p86, List.forall_mem_cons.mpr ⟨lw_p87, List.forall_mem_cons.mpr ⟨lw_p88, List.forall_mem_cons.mpr ⟨lw_p89, List.forall_mem_cons.mpr ⟨lw_p90, List.forall_mem_cons.mpr ⟨lw_p91, List.forall_mem_cons.mpr ⟨lw_p92, List.forall_mem_cons.mpr ⟨lw_p93, List.forall_mem_cons.mpr ⟨lw_p94, List.forall_mem_cons.mpr ⟨lw_p95, fun _ h => absurd h List.not_mem_nil⟩⟩⟩⟩⟩⟩⟩⟩⟩⟩⟩⟩⟩⟩⟩⟩
theorem lw_p96 : lw_okq (⟨"MacroMill$Second", "fail", "(I)V"⟩, 22) := ⟨⟨by decide +kernel, by decide +kernel⟩, List.mem_of_getElem? (i := 356) (by decide +kernel), List.mem_of_getElem? (i := 1737) (by decide +kernel), List.mem_of_getElem? (i := 1738) (by decide +kernel)⟩
theorem lw_p97 : lw_okq (⟨"MacroMill$Second", "waitForCondition", "(I)V"⟩, 22) := ⟨⟨by decide +kernel, by decide +kernel⟩, List.mem_of_getElem? (i := 356) (by decide +kernel), List.mem_of_getElem? (i := 1742) (by decide +kernel), List.mem_of_getElem? (i := 1743) (by decide +kernel)⟩
theorem lw_p98 : lw_okq (⟨"MacroMill$Second", "isMacro", "(I)Z"⟩, 22) := ⟨⟨by decide +kernel, by decide +kernel⟩, List.mem_of_getElem? (i := 356) (by decide +kernel), List.mem_of_getElem? (i := 1748) (by decide +kernel), List.mem_of_getElem? (i := 1749) (by decide +kernel)⟩
theorem lw_p99 : lw_okq (⟨"MacroMill$Second", "findMacro", "(I)I"⟩, 22) := ⟨⟨by decide +kernel, by decide +kernel⟩, List.mem_of_getElem? (i := 356) (by decide +kernel), List.mem_of_getElem? (i := 1752) (by decide +kernel), List.mem_of_getElem? (i := 1753) (by decide +kernel)⟩
theorem lw_p100 : lw_okq (⟨"MacroMill$Second", "failIfTooLong", "()V"⟩, 22) := ⟨⟨by decide +kernel, by decide +kernel⟩, List.mem_of_getElem? (i := 356) (by decide +kernel), List.mem_of_getElem? (i := 1763) (by decide +kernel), List.mem_of_getElem? (i := 1764) (by decide +kernel)⟩
theorem lw_p101 : lw_okq (⟨"MacroMill$Second", "isNameAlone", "()Z"⟩, 22) := ⟨⟨by decide +kernel, by decide +kernel⟩, List.mem_of_getElem? (i := 356) (by decide +kernel), List.mem_of_getElem? (i := 1767) (by decide +kernel), List.mem_of_getElem? (i := 1768) (by decide +kernel)⟩
theorem lw_p102 : lw_okq (⟨"MacroMill$Second", "isName", "(I)Z"⟩, 22) := ⟨⟨by decide +kernel, by decide +kernel⟩, List.mem_of_getElem? (i := 356) (by decide +kernel), List.mem_of_getElem? (i := 1771) (by decide +kernel), List.mem_of_getElem? (i := 1772) (by decide +kernel)⟩
theorem lw_p103 : lw_okq (⟨"MacroMill$Second", "continueCondition", "(I)Z"⟩, 22) := ⟨⟨by decide +kernel, by decide +kernel⟩, List.mem_of_getElem? (i := 356) (by decide +kernel), List.mem_of_getElem? (i := 1778) (by decide +kernel), List.mem_of_getElem? (i := 1779) (by decide +kernel)⟩
theorem lw_p104 : lw_okq (⟨"MacroMill$Second", "define", "()V"⟩, 22) := ⟨⟨by decide +kernel, by decide +kernel⟩, List.mem_of_getElem? (i := 356) (by decide +kernel), List.mem_of_getElem? (i := 1782) (by decide +kernel), List.mem_of_getElem? (i := 1783) (by decide +kernel)⟩
theorem lw_p105 : lw_okq (⟨"MacroMill$Second", "readParameters", "(I)I"⟩, 22) := ⟨⟨by decide +kernel, by decide +kernel⟩, List.mem_of_getElem? (i := 356) (by decide +kernel), List.mem_of_getElem? (i := 1787) (by decide +kernel), List.mem_of_getElem? (i := 1788) (by decide +kernel)⟩
theorem lw_p106 : lw_okq (⟨"MacroMill$Second", "parameterOf", "(I)I"⟩, 22) := ⟨⟨by decide +kernel, by decide +kernel⟩, List.mem_of_getElem? (i := 356) (by decide +kernel), List.mem_of_getElem? (i := 1792) (by decide +kernel), List.mem_of_getElem? (i := 1793) (by decide +kernel)⟩
theorem lw_p107 : lw_okq (⟨"MacroMill$Second", "markParameters", "(I)Z"⟩, 22) := ⟨⟨by decide +kernel, by decide +kernel⟩, List.mem_of_getElem? (i := 356) (by decide +kernel), List.mem_of_getElem? (i := 1801) (by decide +kernel), List.mem_of_getElem? (i := 1802) (by decide +kernel)⟩
theorem lw_p108 : lw_okq (⟨"MacroMill$Second", "areHashesFine", "(I)Z"⟩, 22) := ⟨⟨by decide +kernel, by decide +kernel⟩, List.mem_of_getElem? (i := 356) (by decide +kernel), List.mem_of_getElem? (i := 1806) (by decide +kernel), List.mem_of_getElem? (i := 1807) (by decide +kernel)⟩
theorem lw_p109 : lw_okq (⟨"MacroMill$Macros", "addName", "(I)I"⟩, 19) := ⟨⟨by decide +kernel, by decide +kernel⟩, List.mem_of_getElem? (i := 423) (by decide +kernel), List.mem_of_getElem? (i := 1820) (by decide +kernel), List.mem_of_getElem? (i := 1821) (by decide +kernel)⟩
theorem lw_p110 : lw_okq (⟨"MacroMill$Macros", "addEntry", "(I)V"⟩, 19) := ⟨⟨by decide +kernel, by decide +kernel⟩, List.mem_of_getElem? (i := 423) (by decide +kernel), List.mem_of_getElem? (i := 1825) (by decide +kernel), List.mem_of_getElem? (i := 1826) (by decide +kernel)⟩
theorem lw_p111 : lw_okq (⟨"MacroMill$Second", "include", "()V"⟩, 22) := ⟨⟨by decide +kernel, by decide +kernel⟩, List.mem_of_getElem? (i := 356) (by decide +kernel), List.mem_of_getElem? (i := 1836) (by decide +kernel), List.mem_of_getElem? (i := 1837) (by decide +kernel)⟩
def lw_privs_7 : List (MethodName × Nat) := [(⟨"MacroMill$Second", "fail", "(I)V"⟩, 22), (⟨"MacroMill$Second", "waitForCondition", "(I)V"⟩, 22), (⟨"MacroMill$Second", "isMacro", "(I)Z"⟩, 22), (⟨"MacroMill$Second", "findMacro", "(I)I"⟩, 22), (⟨"MacroMill$Second", "failIfTooLong", "()V"⟩, 22), (⟨"MacroMill$Second", "isNameAlone", "()Z"⟩, 22), (⟨"MacroMill$Second", "isName", "(I)Z"⟩, 22), (⟨"MacroMill$Second", "continueCondition", "(I)Z"⟩, 22), (⟨"MacroMill$Second", "define", "()V"⟩, 22), (⟨"MacroMill$Second", "readParameters", "(I)I"⟩, 22), (⟨"MacroMill$Second", "parameterOf", "(I)I"⟩, 22), (⟨"MacroMill$Second", "markParameters", "(I)Z"⟩, 22), (⟨"MacroMill$Second", "areHashesFine", "(I)Z"⟩, 22), (⟨"MacroMill$Macros", "addName", "(I)I"⟩, 19), (⟨"MacroMill$Macros", "addEntry", "(I)V"⟩, 19), (⟨"MacroMill$Second", "include", "()V"⟩, 22)]
theorem lw_r7 : ∀ q ∈ lw_privs_7, lw_okq q := List.forall_mem_cons.mpr ⟨lw_p96, List.forall_mem_cons.mpr ⟨lw_p97, List.forall_mem_cons.mpr ⟨lw_p98, List.forall_mem_cons.mpr ⟨lw_p99, List.forall_mem_cons.mpr ⟨lw_p100, List.forall_mem_cons.mpr ⟨lw_p101, List.forall_mem_cons.mpr ⟨lw_p102, List.forall_mem_cons.mpr ⟨lw_p103, List.forall_mem_cons.mpr ⟨lw_p104, List.forall_mem_cons.mpr ⟨lw_p105, List.forall_mem_cons.mpr ⟨lw_p106, List.forall_mem_cons.mpr ⟨lw_p107, List.forall_mem_cons.mpr ⟨lw_p108, List.forall_mem_cons.mpr ⟨lw_p109, List.forall_mem_cons.mpr ⟨lw_p110, List.forall_mem_cons.mpr ⟨lw_p111, fun _ h => absurd h List.not_mem_nil⟩⟩⟩⟩⟩⟩⟩⟩⟩⟩⟩⟩⟩⟩⟩⟩
theorem lw_p112 : lw_okq (⟨"MacroMill$Second", "readTitle", "(I)I"⟩, 22) := ⟨⟨by decide +kernel, by decide +kernel⟩, List.mem_of_getElem? (i := 356) (by decide +kernel), List.mem_of_getElem? (i := 1840) (by decide +kernel), List.mem_of_getElem? (i := 1841) (by decide +kernel)⟩
theorem lw_p113 : lw_okq (⟨"MacroMill$Second", "addToTitle", "(II)V"⟩, 22) := ⟨⟨by decide +kernel, by decide +kernel⟩, List.mem_of_getElem? (i := 356) (by decide +kernel), List.mem_of_getElem? (i := 1849) (by decide +kernel), List.mem_of_getElem? (i := 1850) (by decide +kernel)⟩
theorem lw_p114 : lw_okq (⟨"MacroMill$Second", "addBlankToTitle", "()V"⟩, 22) := ⟨⟨by decide +kernel, by decide +kernel⟩, List.mem_of_getElem? (i := 356) (by decide +kernel), List.mem_of_getElem? (i := 1854) (by decide +kernel), List.mem_of_getElem? (i := 1855) (by decide +kernel)⟩
theorem lw_p115 : lw_okq (⟨"MacroMill$Second", "waitForTokens", "(I)V"⟩, 22) := ⟨⟨by decide +kernel, by decide +kernel⟩, List.mem_of_getElem? (i := 356) (by decide +kernel), List.mem_of_getElem? (i := 1858) (by decide +kernel), List.mem_of_getElem? (i := 1859) (by decide +kernel)⟩
theorem lw_p116 : lw_okq (⟨"MacroMill$Second", "beginTitled", "(I)V"⟩, 22) := ⟨⟨by decide +kernel, by decide +kernel⟩, List.mem_of_getElem? (i := 356) (by decide +kernel), List.mem_of_getElem? (i := 1862) (by decide +kernel), List.mem_of_getElem? (i := 1863) (by decide +kernel)⟩
theorem lw_p117 : lw_okq (⟨"MacroMill$Second", "obeyOther", "(I)V"⟩, 22) := ⟨⟨by decide +kernel, by decide +kernel⟩, List.mem_of_getElem? (i := 356) (by decide +kernel), List.mem_of_getElem? (i := 1867) (by decide +kernel), List.mem_of_getElem? (i := 1868) (by decide +kernel)⟩
theorem lw_p118 : lw_okq (⟨"MacroMill$Second", "keepText", "()V"⟩, 22) := ⟨⟨by decide +kernel, by decide +kernel⟩, List.mem_of_getElem? (i := 356) (by decide +kernel), List.mem_of_getElem? (i := 1876) (by decide +kernel), List.mem_of_getElem? (i := 1877) (by decide +kernel)⟩
theorem lw_p119 : lw_okq (⟨"MacroMill$Second", "endFile", "()V"⟩, 22) := ⟨⟨by decide +kernel, by decide +kernel⟩, List.mem_of_getElem? (i := 356) (by decide +kernel), List.mem_of_getElem? (i := 1880) (by decide +kernel), List.mem_of_getElem? (i := 1881) (by decide +kernel)⟩
theorem lw_p120 : lw_okq (⟨"MacroMill$Second", "finishDirective", "(I)V"⟩, 22) := ⟨⟨by decide +kernel, by decide +kernel⟩, List.mem_of_getElem? (i := 356) (by decide +kernel), List.mem_of_getElem? (i := 1892) (by decide +kernel), List.mem_of_getElem? (i := 1893) (by decide +kernel)⟩
theorem lw_p121 : lw_okq (⟨"MacroMill$Second", "setLine", "(I)V"⟩, 22) := ⟨⟨by decide +kernel, by decide +kernel⟩, List.mem_of_getElem? (i := 356) (by decide +kernel), List.mem_of_getElem? (i := 1896) (by decide +kernel), List.mem_of_getElem? (i := 1897) (by decide +kernel)⟩
theorem lw_p122 : lw_okq (⟨"MacroMill$Second", "evaluate", "(I)Z"⟩, 22) := ⟨⟨by decide +kernel, by decide +kernel⟩, List.mem_of_getElem? (i := 356) (by decide +kernel), List.mem_of_getElem? (i := 1906) (by decide +kernel), List.mem_of_getElem? (i := 1907) (by decide +kernel)⟩
theorem lw_p123 : lw_okq (⟨"MacroMill$Second", "takeNumber", "(II)V"⟩, 22) := ⟨⟨by decide +kernel, by decide +kernel⟩, List.mem_of_getElem? (i := 356) (by decide +kernel), List.mem_of_getElem? (i := 1912) (by decide +kernel), List.mem_of_getElem? (i := 1913) (by decide +kernel)⟩
theorem lw_p124 : lw_okq (⟨"MacroMill$Second", "suffixOf", "(II)I"⟩, 22) := ⟨⟨by decide +kernel, by decide +kernel⟩, List.mem_of_getElem? (i := 356) (by decide +kernel), List.mem_of_getElem? (i := 1924) (by decide +kernel), List.mem_of_getElem? (i := 1925) (by decide +kernel)⟩
theorem lw_p125 : lw_okq (⟨"MacroMill$Second", "takeCharacter", "(II)V"⟩, 22) := ⟨⟨by decide +kernel, by decide +kernel⟩, List.mem_of_getElem? (i := 356) (by decide +kernel), List.mem_of_getElem? (i := 1928) (by decide +kernel), List.mem_of_getElem? (i := 1929) (by decide +kernel)⟩
theorem lw_p126 : lw_okq (⟨"MacroMillModel", "feedInt", "(I)V"⟩, 144) := ⟨⟨by decide +kernel, by decide +kernel⟩, List.mem_of_getElem? (i := 1963) (by decide +kernel), List.mem_of_getElem? (i := 2413) (by decide +kernel), List.mem_of_getElem? (i := 2414) (by decide +kernel)⟩
theorem lw_p127 : lw_okq (⟨"MacroMillModel", "use", "()I"⟩, 144) := ⟨⟨by decide +kernel, by decide +kernel⟩, List.mem_of_getElem? (i := 1963) (by decide +kernel), List.mem_of_getElem? (i := 2425) (by decide +kernel), List.mem_of_getElem? (i := 2426) (by decide +kernel)⟩
def lw_privs_8 : List (MethodName × Nat) := [(⟨"MacroMill$Second", "readTitle", "(I)I"⟩, 22), (⟨"MacroMill$Second", "addToTitle", "(II)V"⟩, 22), (⟨"MacroMill$Second", "addBlankToTitle", "()V"⟩, 22), (⟨"MacroMill$Second", "waitForTokens", "(I)V"⟩, 22), (⟨"MacroMill$Second", "beginTitled", "(I)V"⟩, 22), (⟨"MacroMill$Second", "obeyOther", "(I)V"⟩, 22), (⟨"MacroMill$Second", "keepText", "()V"⟩, 22), (⟨"MacroMill$Second", "endFile", "()V"⟩, 22), (⟨"MacroMill$Second", "finishDirective", "(I)V"⟩, 22), (⟨"MacroMill$Second", "setLine", "(I)V"⟩, 22), (⟨"MacroMill$Second", "evaluate", "(I)Z"⟩, 22), (⟨"MacroMill$Second", "takeNumber", "(II)V"⟩, 22), (⟨"MacroMill$Second", "suffixOf", "(II)I"⟩, 22), (⟨"MacroMill$Second", "takeCharacter", "(II)V"⟩, 22), (⟨"MacroMillModel", "feedInt", "(I)V"⟩, 144), (⟨"MacroMillModel", "use", "()I"⟩, 144)]
theorem lw_r8 : ∀ q ∈ lw_privs_8, lw_okq q := List.forall_mem_cons.mpr ⟨lw_p112, List.forall_mem_cons.mpr ⟨lw_p113, List.forall_mem_cons.mpr ⟨lw_p114, List.forall_mem_cons.mpr ⟨lw_p115, List.forall_mem_cons.mpr ⟨lw_p116, List.forall_mem_cons.mpr ⟨lw_p117, List.forall_mem_cons.mpr ⟨lw_p118, List.forall_mem_cons.mpr ⟨lw_p119, List.forall_mem_cons.mpr ⟨lw_p120, List.forall_mem_cons.mpr ⟨lw_p121, List.forall_mem_cons.mpr ⟨lw_p122, List.forall_mem_cons.mpr ⟨lw_p123, List.forall_mem_cons.mpr ⟨lw_p124, List.forall_mem_cons.mpr ⟨lw_p125, List.forall_mem_cons.mpr ⟨lw_p126, List.forall_mem_cons.mpr ⟨lw_p127, fun _ h => absurd h List.not_mem_nil⟩⟩⟩⟩⟩⟩⟩⟩⟩⟩⟩⟩⟩⟩⟩⟩
theorem lw_p128 : lw_okq (⟨"MacroMillModel", "isTitle", "(I[BII)Z"⟩, 144) := ⟨⟨by decide +kernel, by decide +kernel⟩, List.mem_of_getElem? (i := 1963) (by decide +kernel), List.mem_of_getElem? (i := 2429) (by decide +kernel), List.mem_of_getElem? (i := 2430) (by decide +kernel)⟩
theorem lw_p129 : lw_okq (⟨"MacroMillModel", "macrosEnd", "()V"⟩, 144) := ⟨⟨by decide +kernel, by decide +kernel⟩, List.mem_of_getElem? (i := 1963) (by decide +kernel), List.mem_of_getElem? (i := 2446) (by decide +kernel), List.mem_of_getElem? (i := 2447) (by decide +kernel)⟩
theorem lw_p130 : lw_okq (⟨"MacroMillModel", "runFirst", "(II)V"⟩, 144) := ⟨⟨by decide +kernel, by decide +kernel⟩, List.mem_of_getElem? (i := 1963) (by decide +kernel), List.mem_of_getElem? (i := 2450) (by decide +kernel), List.mem_of_getElem? (i := 2451) (by decide +kernel)⟩
theorem lw_p131 : lw_okq (⟨"MacroMillModel", "beginMeanings", "()V"⟩, 144) := ⟨⟨by decide +kernel, by decide +kernel⟩, List.mem_of_getElem? (i := 1963) (by decide +kernel), List.mem_of_getElem? (i := 2454) (by decide +kernel), List.mem_of_getElem? (i := 2455) (by decide +kernel)⟩
theorem lw_p132 : lw_okq (⟨"MacroMillModel", "readToken", "()V"⟩, 144) := ⟨⟨by decide +kernel, by decide +kernel⟩, List.mem_of_getElem? (i := 1963) (by decide +kernel), List.mem_of_getElem? (i := 2480) (by decide +kernel), List.mem_of_getElem? (i := 2481) (by decide +kernel)⟩
theorem lw_p133 : lw_okq (⟨"MacroMillModel", "peek", "(I)I"⟩, 144) := ⟨⟨by decide +kernel, by decide +kernel⟩, List.mem_of_getElem? (i := 1963) (by decide +kernel), List.mem_of_getElem? (i := 2484) (by decide +kernel), List.mem_of_getElem? (i := 2485) (by decide +kernel)⟩
theorem lw_p134 : lw_okq (⟨"MacroMillModel", "isAhead", "([II)Z"⟩, 144) := ⟨⟨by decide +kernel, by decide +kernel⟩, List.mem_of_getElem? (i := 1963) (by decide +kernel), List.mem_of_getElem? (i := 2488) (by decide +kernel), List.mem_of_getElem? (i := 2489) (by decide +kernel)⟩
theorem lw_p135 : lw_okq (⟨"MacroMillModel", "readQuoted", "()V"⟩, 144) := ⟨⟨by decide +kernel, by decide +kernel⟩, List.mem_of_getElem? (i := 1963) (by decide +kernel), List.mem_of_getElem? (i := 2492) (by decide +kernel), List.mem_of_getElem? (i := 2493) (by decide +kernel)⟩
theorem lw_p136 : lw_okq (⟨"MacroMillModel", "pass", "(IZ)V"⟩, 144) := ⟨⟨by decide +kernel, by decide +kernel⟩, List.mem_of_getElem? (i := 1963) (by decide +kernel), List.mem_of_getElem? (i := 2496) (by decide +kernel), List.mem_of_getElem? (i := 2497) (by decide +kernel)⟩
theorem lw_p137 : lw_okq (⟨"MacroMillModel", "take", "()I"⟩, 144) := ⟨⟨by decide +kernel, by decide +kernel⟩, List.mem_of_getElem? (i := 1963) (by decide +kernel), List.mem_of_getElem? (i := 2500) (by decide +kernel), List.mem_of_getElem? (i := 2501) (by decide +kernel)⟩
theorem lw_p138 : lw_okq (⟨"MacroMillModel", "fail1", "(I)V"⟩, 144) := ⟨⟨by decide +kernel, by decide +kernel⟩, List.mem_of_getElem? (i := 1963) (by decide +kernel), List.mem_of_getElem? (i := 2504) (by decide +kernel), List.mem_of_getElem? (i := 2505) (by decide +kernel)⟩
theorem lw_p139 : lw_okq (⟨"MacroMillModel", "fail", "(III)V"⟩, 144) := ⟨⟨by decide +kernel, by decide +kernel⟩, List.mem_of_getElem? (i := 1963) (by decide +kernel), List.mem_of_getElem? (i := 2508) (by decide +kernel), List.mem_of_getElem? (i := 2509) (by decide +kernel)⟩
theorem lw_p140 : lw_okq (⟨"MacroMillModel", "handle", "(Z)V"⟩, 144) := ⟨⟨by decide +kernel, by decide +kernel⟩, List.mem_of_getElem? (i := 1963) (by decide +kernel), List.mem_of_getElem? (i := 2518) (by decide +kernel), List.mem_of_getElem? (i := 2519) (by decide +kernel)⟩
theorem lw_p141 : lw_okq (⟨"MacroMillModel", "top", "([BII)I"⟩, 144) := ⟨⟨by decide +kernel, by decide +kernel⟩, List.mem_of_getElem? (i := 1963) (by decide +kernel), List.mem_of_getElem? (i := 2522) (by decide +kernel), List.mem_of_getElem? (i := 2523) (by decide +kernel)⟩
theorem lw_p142 : lw_okq (⟨"MacroMillModel", "isNamed", "(I[BII)Z"⟩, 144) := ⟨⟨by decide +kernel, by decide +kernel⟩, List.mem_of_getElem? (i := 1963) (by decide +kernel), List.mem_of_getElem? (i := 2526) (by decide +kernel), List.mem_of_getElem? (i := 2527) (by decide +kernel)⟩
theorem lw_p143 : lw_okq (⟨"MacroMillModel", "putToken", "(Z)V"⟩, 144) := ⟨⟨by decide +kernel, by decide +kernel⟩, List.mem_of_getElem? (i := 1963) (by decide +kernel), List.mem_of_getElem? (i := 2530) (by decide +kernel), List.mem_of_getElem? (i := 2531) (by decide +kernel)⟩
def lw_privs_9 : List (MethodName × Nat) := [(⟨"MacroMillModel", "isTitle", "(I[BII)Z"⟩, 144), (⟨"MacroMillModel", "macrosEnd", "()V"⟩, 144), (⟨"MacroMillModel", "runFirst", "(II)V"⟩, 144), (⟨"MacroMillModel", "beginMeanings", "()V"⟩, 144), (⟨"MacroMillModel", "readToken", "()V"⟩, 144), (⟨"MacroMillModel", "peek", "(I)I"⟩, 144), (⟨"MacroMillModel", "isAhead", "([II)Z"⟩, 144), (⟨"MacroMillModel", "readQuoted", "()V"⟩, 144), (⟨"MacroMillModel", "pass", "(IZ)V"⟩, 144), (⟨"MacroMillModel", "take", "()I"⟩, 144), (⟨"MacroMillModel", "fail1", "(I)V"⟩, 144), (⟨"MacroMillModel", "fail", "(III)V"⟩, 144), (⟨"MacroMillModel", "handle", "(Z)V"⟩, 144), (⟨"MacroMillModel", "top", "([BII)I"⟩, 144), (⟨"MacroMillModel", "isNamed", "(I[BII)Z"⟩, 144), (⟨"MacroMillModel", "putToken", "(Z)V"⟩, 144)]
theorem lw_r9 : ∀ q ∈ lw_privs_9, lw_okq q := List.forall_mem_cons.mpr ⟨lw_p128, List.forall_mem_cons.mpr ⟨lw_p129, List.forall_mem_cons.mpr ⟨lw_p130, List.forall_mem_cons.mpr ⟨lw_p131, List.forall_mem_cons.mpr ⟨lw_p132, List.forall_mem_cons.mpr ⟨lw_p133, List.forall_mem_cons.mpr ⟨lw_p134, List.forall_mem_cons.mpr ⟨lw_p135, List.forall_mem_cons.mpr ⟨lw_p136, List.forall_mem_cons.mpr ⟨lw_p137, List.forall_mem_cons.mpr ⟨lw_p138, List.forall_mem_cons.mpr ⟨lw_p139, List.forall_mem_cons.mpr ⟨lw_p140, List.forall_mem_cons.mpr ⟨lw_p141, List.forall_mem_cons.mpr ⟨lw_p142, List.forall_mem_cons.mpr ⟨lw_p143, fun _ h => absurd h List.not_mem_nil⟩⟩⟩⟩⟩⟩⟩⟩⟩⟩⟩⟩⟩⟩⟩⟩
theorem lw_p144 : lw_okq (⟨"MacroMillModel", "putArgument", "(I)V"⟩, 144) := ⟨⟨by decide +kernel, by decide +kernel⟩, List.mem_of_getElem? (i := 1963) (by decide +kernel), List.mem_of_getElem? (i := 2534) (by decide +kernel), List.mem_of_getElem? (i := 2535) (by decide +kernel)⟩
theorem lw_p145 : lw_okq (⟨"MacroMillModel", "divertByte", "(II)V"⟩, 144) := ⟨⟨by decide +kernel, by decide +kernel⟩, List.mem_of_getElem? (i := 1963) (by decide +kernel), List.mem_of_getElem? (i := 2538) (by decide +kernel), List.mem_of_getElem? (i := 2539) (by decide +kernel)⟩
theorem lw_p146 : lw_okq (⟨"MacroMillModel", "readArguments", "()V"⟩, 144) := ⟨⟨by decide +kernel, by decide +kernel⟩, List.mem_of_getElem? (i := 1963) (by decide +kernel), List.mem_of_getElem? (i := 2542) (by decide +kernel), List.mem_of_getElem? (i := 2543) (by decide +kernel)⟩
theorem lw_p147 : lw_okq (⟨"MacroMillModel", "beginArgument", "()V"⟩, 144) := ⟨⟨by decide +kernel, by decide +kernel⟩, List.mem_of_getElem? (i := 1963) (by decide +kernel), List.mem_of_getElem? (i := 2546) (by decide +kernel), List.mem_of_getElem? (i := 2547) (by decide +kernel)⟩
theorem lw_p148 : lw_okq (⟨"MacroMillModel", "act", "(IIII)V"⟩, 144) := ⟨⟨by decide +kernel, by decide +kernel⟩, List.mem_of_getElem? (i := 1963) (by decide +kernel), List.mem_of_getElem? (i := 2553) (by decide +kernel), List.mem_of_getElem? (i := 2554) (by decide +kernel)⟩
theorem lw_p149 : lw_okq (⟨"MacroMillModel", "giveText", "(IIII)V"⟩, 144) := ⟨⟨by decide +kernel, by decide +kernel⟩, List.mem_of_getElem? (i := 1963) (by decide +kernel), List.mem_of_getElem? (i := 2557) (by decide +kernel), List.mem_of_getElem? (i := 2558) (by decide +kernel)⟩
theorem lw_p150 : lw_okq (⟨"MacroMillModel", "give", "(I)V"⟩, 144) := ⟨⟨by decide +kernel, by decide +kernel⟩, List.mem_of_getElem? (i := 1963) (by decide +kernel), List.mem_of_getElem? (i := 2561) (by decide +kernel), List.mem_of_getElem? (i := 2562) (by decide +kernel)⟩
theorem lw_p151 : lw_okq (⟨"MacroMillModel", "inputLeft", "()I"⟩, 144) := ⟨⟨by decide +kernel, by decide +kernel⟩, List.mem_of_getElem? (i := 1963) (by decide +kernel), List.mem_of_getElem? (i := 2565) (by decide +kernel), List.mem_of_getElem? (i := 2566) (by decide +kernel)⟩
theorem lw_p152 : lw_okq (⟨"MacroMillModel", "giveArgument", "(II)V"⟩, 144) := ⟨⟨by decide +kernel, by decide +kernel⟩, List.mem_of_getElem? (i := 1963) (by decide +kernel), List.mem_of_getElem? (i := 2569) (by decide +kernel), List.mem_of_getElem? (i := 2570) (by decide +kernel)⟩
theorem lw_p153 : lw_okq (⟨"MacroMillModel", "argumentAt", "(II)I"⟩, 144) := ⟨⟨by decide +kernel, by decide +kernel⟩, List.mem_of_getElem? (i := 1963) (by decide +kernel), List.mem_of_getElem? (i := 2573) (by decide +kernel), List.mem_of_getElem? (i := 2574) (by decide +kernel)⟩
theorem lw_p154 : lw_okq (⟨"MacroMillModel", "argumentSize", "(II)I"⟩, 144) := ⟨⟨by decide +kernel, by decide +kernel⟩, List.mem_of_getElem? (i := 1963) (by decide +kernel), List.mem_of_getElem? (i := 2577) (by decide +kernel), List.mem_of_getElem? (i := 2578) (by decide +kernel)⟩
theorem lw_p155 : lw_okq (⟨"MacroMillModel", "giveNumber", "(J)V"⟩, 144) := ⟨⟨by decide +kernel, by decide +kernel⟩, List.mem_of_getElem? (i := 1963) (by decide +kernel), List.mem_of_getElem? (i := 2581) (by decide +kernel), List.mem_of_getElem? (i := 2582) (by decide +kernel)⟩
theorem lw_p156 : lw_okq (⟨"MacroMillModel", "giveQuotedArgument", "(II)V"⟩, 144) := ⟨⟨by decide +kernel, by decide +kernel⟩, List.mem_of_getElem? (i := 1963) (by decide +kernel), List.mem_of_getElem? (i := 2588) (by decide +kernel), List.mem_of_getElem? (i := 2589) (by decide +kernel)⟩
theorem lw_p157 : lw_okq (⟨"MacroMillModel", "define", "(IZ)V"⟩, 144) := ⟨⟨by decide +kernel, by decide +kernel⟩, List.mem_of_getElem? (i := 1963) (by decide +kernel), List.mem_of_getElem? (i := 2592) (by decide +kernel), List.mem_of_getElem? (i := 2593) (by decide +kernel)⟩
theorem lw_p158 : lw_okq (⟨"MacroMillModel", "isNameArgument", "(I)Z"⟩, 144) := ⟨⟨by decide +kernel, by decide +kernel⟩, List.mem_of_getElem? (i := 1963) (by decide +kernel), List.mem_of_getElem? (i := 2596) (by decide +kernel), List.mem_of_getElem? (i := 2597) (by decide +kernel)⟩
theorem lw_p159 : lw_okq (⟨"MacroMillModel", "forget", "(I)V"⟩, 144) := ⟨⟨by decide +kernel, by decide +kernel⟩, List.mem_of_getElem? (i := 1963) (by decide +kernel), List.mem_of_getElem? (i := 2600) (by decide +kernel), List.mem_of_getElem? (i := 2601) (by decide +kernel)⟩
def lw_privs_10 : List (MethodName × Nat) := [(⟨"MacroMillModel", "putArgument", "(I)V"⟩, 144), (⟨"MacroMillModel", "divertByte", "(II)V"⟩, 144), (⟨"MacroMillModel", "readArguments", "()V"⟩, 144), (⟨"MacroMillModel", "beginArgument", "()V"⟩, 144), (⟨"MacroMillModel", "act", "(IIII)V"⟩, 144), (⟨"MacroMillModel", "giveText", "(IIII)V"⟩, 144), (⟨"MacroMillModel", "give", "(I)V"⟩, 144), (⟨"MacroMillModel", "inputLeft", "()I"⟩, 144), (⟨"MacroMillModel", "giveArgument", "(II)V"⟩, 144), (⟨"MacroMillModel", "argumentAt", "(II)I"⟩, 144), (⟨"MacroMillModel", "argumentSize", "(II)I"⟩, 144), (⟨"MacroMillModel", "giveNumber", "(J)V"⟩, 144), (⟨"MacroMillModel", "giveQuotedArgument", "(II)V"⟩, 144), (⟨"MacroMillModel", "define", "(IZ)V"⟩, 144), (⟨"MacroMillModel", "isNameArgument", "(I)Z"⟩, 144), (⟨"MacroMillModel", "forget", "(I)V"⟩, 144)]
theorem lw_r10 : ∀ q ∈ lw_privs_10, lw_okq q := List.forall_mem_cons.mpr ⟨lw_p144, List.forall_mem_cons.mpr ⟨lw_p145, List.forall_mem_cons.mpr ⟨lw_p146, List.forall_mem_cons.mpr ⟨lw_p147, List.forall_mem_cons.mpr ⟨lw_p148, List.forall_mem_cons.mpr ⟨lw_p149, List.forall_mem_cons.mpr ⟨lw_p150, List.forall_mem_cons.mpr ⟨lw_p151, List.forall_mem_cons.mpr ⟨lw_p152, List.forall_mem_cons.mpr ⟨lw_p153, List.forall_mem_cons.mpr ⟨lw_p154, List.forall_mem_cons.mpr ⟨lw_p155, List.forall_mem_cons.mpr ⟨lw_p156, List.forall_mem_cons.mpr ⟨lw_p157, List.forall_mem_cons.mpr ⟨lw_p158, List.forall_mem_cons.mpr ⟨lw_p159, fun _ h => absurd h List.not_mem_nil⟩⟩⟩⟩⟩⟩⟩⟩⟩⟩⟩⟩⟩⟩⟩⟩
theorem lw_p160 : lw_okq (⟨"MacroMillModel", "addMeaning", "(IIII)V"⟩, 144) := ⟨⟨by decide +kernel, by decide +kernel⟩, List.mem_of_getElem? (i := 1963) (by decide +kernel), List.mem_of_getElem? (i := 2604) (by decide +kernel), List.mem_of_getElem? (i := 2605) (by decide +kernel)⟩
theorem lw_p161 : lw_okq (⟨"MacroMillModel", "choose", "(II)V"⟩, 144) := ⟨⟨by decide +kernel, by decide +kernel⟩, List.mem_of_getElem? (i := 1963) (by decide +kernel), List.mem_of_getElem? (i := 2608) (by decide +kernel), List.mem_of_getElem? (i := 2609) (by decide +kernel)⟩
theorem lw_p162 : lw_okq (⟨"MacroMillModel", "same", "(III)Z"⟩, 144) := ⟨⟨by decide +kernel, by decide +kernel⟩, List.mem_of_getElem? (i := 1963) (by decide +kernel), List.mem_of_getElem? (i := 2612) (by decide +kernel), List.mem_of_getElem? (i := 2613) (by decide +kernel)⟩
theorem lw_p163 : lw_okq (⟨"MacroMillModel", "evaluate", "(I)V"⟩, 144) := ⟨⟨by decide +kernel, by decide +kernel⟩, List.mem_of_getElem? (i := 1963) (by decide +kernel), List.mem_of_getElem? (i := 2616) (by decide +kernel), List.mem_of_getElem? (i := 2617) (by decide +kernel)⟩
theorem lw_p164 : lw_okq (⟨"MacroMillModel", "operands", "()I"⟩, 144) := ⟨⟨by decide +kernel, by decide +kernel⟩, List.mem_of_getElem? (i := 1963) (by decide +kernel), List.mem_of_getElem? (i := 2620) (by decide +kernel), List.mem_of_getElem? (i := 2621) (by decide +kernel)⟩
theorem lw_p165 : lw_okq (⟨"MacroMillModel", "unary", "()I"⟩, 144) := ⟨⟨by decide +kernel, by decide +kernel⟩, List.mem_of_getElem? (i := 1963) (by decide +kernel), List.mem_of_getElem? (i := 2624) (by decide +kernel), List.mem_of_getElem? (i := 2625) (by decide +kernel)⟩
theorem lw_p166 : lw_okq (⟨"MacroMillModel", "skipBlanks", "()V"⟩, 144) := ⟨⟨by decide +kernel, by decide +kernel⟩, List.mem_of_getElem? (i := 1963) (by decide +kernel), List.mem_of_getElem? (i := 2628) (by decide +kernel), List.mem_of_getElem? (i := 2629) (by decide +kernel)⟩
theorem lw_p167 : lw_okq (⟨"MacroMillModel", "sign", "(I)I"⟩, 144) := ⟨⟨by decide +kernel, by decide +kernel⟩, List.mem_of_getElem? (i := 1963) (by decide +kernel), List.mem_of_getElem? (i := 2632) (by decide +kernel), List.mem_of_getElem? (i := 2633) (by decide +kernel)⟩
theorem lw_p168 : lw_okq (⟨"MacroMillModel", "numeral", "()I"⟩, 144) := ⟨⟨by decide +kernel, by decide +kernel⟩, List.mem_of_getElem? (i := 1963) (by decide +kernel), List.mem_of_getElem? (i := 2636) (by decide +kernel), List.mem_of_getElem? (i := 2637) (by decide +kernel)⟩
theorem lw_p169 : lw_okq (⟨"MacroMillModel", "operator", "()I"⟩, 144) := ⟨⟨by decide +kernel, by decide +kernel⟩, List.mem_of_getElem? (i := 1963) (by decide +kernel), List.mem_of_getElem? (i := 2640) (by decide +kernel), List.mem_of_getElem? (i := 2641) (by decide +kernel)⟩
theorem lw_p170 : lw_okq (⟨"MacroMillModel", "settle", "(I)I"⟩, 144) := ⟨⟨by decide +kernel, by decide +kernel⟩, List.mem_of_getElem? (i := 1963) (by decide +kernel), List.mem_of_getElem? (i := 2647) (by decide +kernel), List.mem_of_getElem? (i := 2648) (by decide +kernel)⟩
theorem lw_p171 : lw_okq (⟨"MacroMillModel", "apply", "(III)I"⟩, 144) := ⟨⟨by decide +kernel, by decide +kernel⟩, List.mem_of_getElem? (i := 1963) (by decide +kernel), List.mem_of_getElem? (i := 2651) (by decide +kernel), List.mem_of_getElem? (i := 2652) (by decide +kernel)⟩
theorem lw_p172 : lw_okq (⟨"MacroMillModel", "number", "(II)I"⟩, 144) := ⟨⟨by decide +kernel, by decide +kernel⟩, List.mem_of_getElem? (i := 1963) (by decide +kernel), List.mem_of_getElem? (i := 2655) (by decide +kernel), List.mem_of_getElem? (i := 2656) (by decide +kernel)⟩
theorem lw_p173 : lw_okq (⟨"MacroMillModel", "giveIfRight", "(J)V"⟩, 144) := ⟨⟨by decide +kernel, by decide +kernel⟩, List.mem_of_getElem? (i := 1963) (by decide +kernel), List.mem_of_getElem? (i := 2659) (by decide +kernel), List.mem_of_getElem? (i := 2660) (by decide +kernel)⟩
theorem lw_p174 : lw_okq (⟨"MacroMillModel", "placeOf", "(I)I"⟩, 144) := ⟨⟨by decide +kernel, by decide +kernel⟩, List.mem_of_getElem? (i := 1963) (by decide +kernel), List.mem_of_getElem? (i := 2663) (by decide +kernel), List.mem_of_getElem? (i := 2664) (by decide +kernel)⟩
theorem lw_p175 : lw_okq (⟨"MacroMillModel", "giveSome", "(II)V"⟩, 144) := ⟨⟨by decide +kernel, by decide +kernel⟩, List.mem_of_getElem? (i := 1963) (by decide +kernel), List.mem_of_getElem? (i := 2667) (by decide +kernel), List.mem_of_getElem? (i := 2668) (by decide +kernel)⟩
def lw_privs_11 : List (MethodName × Nat) := [(⟨"MacroMillModel", "addMeaning", "(IIII)V"⟩, 144), (⟨"MacroMillModel", "choose", "(II)V"⟩, 144), (⟨"MacroMillModel", "same", "(III)Z"⟩, 144), (⟨"MacroMillModel", "evaluate", "(I)V"⟩, 144), (⟨"MacroMillModel", "operands", "()I"⟩, 144), (⟨"MacroMillModel", "unary", "()I"⟩, 144), (⟨"MacroMillModel", "skipBlanks", "()V"⟩, 144), (⟨"MacroMillModel", "sign", "(I)I"⟩, 144), (⟨"MacroMillModel", "numeral", "()I"⟩, 144), (⟨"MacroMillModel", "operator", "()I"⟩, 144), (⟨"MacroMillModel", "settle", "(I)I"⟩, 144), (⟨"MacroMillModel", "apply", "(III)I"⟩, 144), (⟨"MacroMillModel", "number", "(II)I"⟩, 144), (⟨"MacroMillModel", "giveIfRight", "(J)V"⟩, 144), (⟨"MacroMillModel", "placeOf", "(I)I"⟩, 144), (⟨"MacroMillModel", "giveSome", "(II)V"⟩, 144)]
theorem lw_r11 : ∀ q ∈ lw_privs_11, lw_okq q := List.forall_mem_cons.mpr ⟨lw_p160, List.forall_mem_cons.mpr ⟨lw_p161, List.forall_mem_cons.mpr ⟨lw_p162, List.forall_mem_cons.mpr ⟨lw_p163, List.forall_mem_cons.mpr ⟨lw_p164, List.forall_mem_cons.mpr ⟨lw_p165, List.forall_mem_cons.mpr ⟨lw_p166, List.forall_mem_cons.mpr ⟨lw_p167, List.forall_mem_cons.mpr ⟨lw_p168, List.forall_mem_cons.mpr ⟨lw_p169, List.forall_mem_cons.mpr ⟨lw_p170, List.forall_mem_cons.mpr ⟨lw_p171, List.forall_mem_cons.mpr ⟨lw_p172, List.forall_mem_cons.mpr ⟨lw_p173, List.forall_mem_cons.mpr ⟨lw_p174, List.forall_mem_cons.mpr ⟨lw_p175, fun _ h => absurd h List.not_mem_nil⟩⟩⟩⟩⟩⟩⟩⟩⟩⟩⟩⟩⟩⟩⟩⟩
theorem lw_p176 : lw_okq (⟨"MacroMillModel", "actOnInput", "(III)V"⟩, 144) := ⟨⟨by decide +kernel, by decide +kernel⟩, List.mem_of_getElem? (i := 1963) (by decide +kernel), List.mem_of_getElem? (i := 2671) (by decide +kernel), List.mem_of_getElem? (i := 2672) (by decide +kernel)⟩
theorem lw_p177 : lw_okq (⟨"MacroMillModel", "undivert", "(I)V"⟩, 144) := ⟨⟨by decide +kernel, by decide +kernel⟩, List.mem_of_getElem? (i := 1963) (by decide +kernel), List.mem_of_getElem? (i := 2675) (by decide +kernel), List.mem_of_getElem? (i := 2676) (by decide +kernel)⟩
theorem lw_p178 : lw_okq (⟨"MacroMillModel", "changeQuotes", "(II)V"⟩, 144) := ⟨⟨by decide +kernel, by decide +kernel⟩, List.mem_of_getElem? (i := 1963) (by decide +kernel), List.mem_of_getElem? (i := 2679) (by decide +kernel), List.mem_of_getElem? (i := 2680) (by decide +kernel)⟩
theorem lw_p179 : lw_okq (⟨"MacroMillModel", "isQuote", "(II)Z"⟩, 144) := ⟨⟨by decide +kernel, by decide +kernel⟩, List.mem_of_getElem? (i := 1963) (by decide +kernel), List.mem_of_getElem? (i := 2683) (by decide +kernel), List.mem_of_getElem? (i := 2684) (by decide +kernel)⟩
theorem lw_p180 : lw_okq (⟨"MacroMillModel", "putBack", "()V"⟩, 144) := ⟨⟨by decide +kernel, by decide +kernel⟩, List.mem_of_getElem? (i := 1963) (by decide +kernel), List.mem_of_getElem? (i := 2687) (by decide +kernel), List.mem_of_getElem? (i := 2688) (by decide +kernel)⟩
theorem lw_p181 : lw_okq (⟨"MacroMillModel", "runSecond", "(IZI)V"⟩, 144) := ⟨⟨by decide +kernel, by decide +kernel⟩, List.mem_of_getElem? (i := 1963) (by decide +kernel), List.mem_of_getElem? (i := 2691) (by decide +kernel), List.mem_of_getElem? (i := 2692) (by decide +kernel)⟩
theorem lw_p182 : lw_okq (⟨"MacroMillModel", "storeFile", "(I[BII)V"⟩, 144) := ⟨⟨by decide +kernel, by decide +kernel⟩, List.mem_of_getElem? (i := 1963) (by decide +kernel), List.mem_of_getElem? (i := 2695) (by decide +kernel), List.mem_of_getElem? (i := 2696) (by decide +kernel)⟩
theorem lw_p183 : lw_okq (⟨"MacroMillModel", "enterFile", "(I)V"⟩, 144) := ⟨⟨by decide +kernel, by decide +kernel⟩, List.mem_of_getElem? (i := 1963) (by decide +kernel), List.mem_of_getElem? (i := 2703) (by decide +kernel), List.mem_of_getElem? (i := 2704) (by decide +kernel)⟩
theorem lw_p184 : lw_okq (⟨"MacroMillModel", "takeFile", "()V"⟩, 144) := ⟨⟨by decide +kernel, by decide +kernel⟩, List.mem_of_getElem? (i := 1963) (by decide +kernel), List.mem_of_getElem? (i := 2707) (by decide +kernel), List.mem_of_getElem? (i := 2708) (by decide +kernel)⟩
theorem lw_p185 : lw_okq (⟨"MacroMillModel", "takeLine", "()Z"⟩, 144) := ⟨⟨by decide +kernel, by decide +kernel⟩, List.mem_of_getElem? (i := 1963) (by decide +kernel), List.mem_of_getElem? (i := 2711) (by decide +kernel), List.mem_of_getElem? (i := 2712) (by decide +kernel)⟩
theorem lw_p186 : lw_okq (⟨"MacroMillModel", "commentEnd", "(II)I"⟩, 144) := ⟨⟨by decide +kernel, by decide +kernel⟩, List.mem_of_getElem? (i := 1963) (by decide +kernel), List.mem_of_getElem? (i := 2718) (by decide +kernel), List.mem_of_getElem? (i := 2719) (by decide +kernel)⟩
theorem lw_p187 : lw_okq (⟨"MacroMillModel", "fail2", "(II)V"⟩, 144) := ⟨⟨by decide +kernel, by decide +kernel⟩, List.mem_of_getElem? (i := 1963) (by decide +kernel), List.mem_of_getElem? (i := 2722) (by decide +kernel), List.mem_of_getElem? (i := 2723) (by decide +kernel)⟩
theorem lw_p188 : lw_okq (⟨"MacroMillModel", "tokenSizeAt", "(II)I"⟩, 144) := ⟨⟨by decide +kernel, by decide +kernel⟩, List.mem_of_getElem? (i := 1963) (by decide +kernel), List.mem_of_getElem? (i := 2726) (by decide +kernel), List.mem_of_getElem? (i := 2727) (by decide +kernel)⟩
theorem lw_p189 : lw_okq (⟨"MacroMillModel", "quotedEnd", "(II)I"⟩, 144) := ⟨⟨by decide +kernel, by decide +kernel⟩, List.mem_of_getElem? (i := 1963) (by decide +kernel), List.mem_of_getElem? (i := 2730) (by decide +kernel), List.mem_of_getElem? (i := 2731) (by decide +kernel)⟩
theorem lw_p190 : lw_okq (⟨"MacroMillModel", "signSize", "(II)I"⟩, 144) := ⟨⟨by decide +kernel, by decide +kernel⟩, List.mem_of_getElem? (i := 1963) (by decide +kernel), List.mem_of_getElem? (i := 2738) (by decide +kernel), List.mem_of_getElem? (i := 2739) (by decide +kernel)⟩
theorem lw_p191 : lw_okq (⟨"MacroMillModel", "cell", "(IIIZZ)I"⟩, 144) := ⟨⟨by decide +kernel, by decide +kernel⟩, List.mem_of_getElem? (i := 1963) (by decide +kernel), List.mem_of_getElem? (i := 2744) (by decide +kernel), List.mem_of_getElem? (i := 2745) (by decide +kernel)⟩
def lw_privs_12 : List (MethodName × Nat) := [(⟨"MacroMillModel", "actOnInput", "(III)V"⟩, 144), (⟨"MacroMillModel", "undivert", "(I)V"⟩, 144), (⟨"MacroMillModel", "changeQuotes", "(II)V"⟩, 144), (⟨"MacroMillModel", "isQuote", "(II)Z"⟩, 144), (⟨"MacroMillModel", "putBack", "()V"⟩, 144), (⟨"MacroMillModel", "runSecond", "(IZI)V"⟩, 144), (⟨"MacroMillModel", "storeFile", "(I[BII)V"⟩, 144), (⟨"MacroMillModel", "enterFile", "(I)V"⟩, 144), (⟨"MacroMillModel", "takeFile", "()V"⟩, 144), (⟨"MacroMillModel", "takeLine", "()Z"⟩, 144), (⟨"MacroMillModel", "commentEnd", "(II)I"⟩, 144), (⟨"MacroMillModel", "fail2", "(II)V"⟩, 144), (⟨"MacroMillModel", "tokenSizeAt", "(II)I"⟩, 144), (⟨"MacroMillModel", "quotedEnd", "(II)I"⟩, 144), (⟨"MacroMillModel", "signSize", "(II)I"⟩, 144), (⟨"MacroMillModel", "cell", "(IIIZZ)I"⟩, 144)]
theorem lw_r12 : ∀ q ∈ lw_privs_12, lw_okq q := List.forall_mem_cons.mpr ⟨lw_p176, List.forall_mem_cons.mpr ⟨lw_p177, List.forall_mem_cons.mpr ⟨lw_p178, List.forall_mem_cons.mpr ⟨lw_p179, List.forall_mem_cons.mpr ⟨lw_p180, List.forall_mem_cons.mpr ⟨lw_p181, List.forall_mem_cons.mpr ⟨lw_p182, List.forall_mem_cons.mpr ⟨lw_p183, List.forall_mem_cons.mpr ⟨lw_p184, List.forall_mem_cons.mpr ⟨lw_p185, List.forall_mem_cons.mpr ⟨lw_p186, List.forall_mem_cons.mpr ⟨lw_p187, List.forall_mem_cons.mpr ⟨lw_p188, List.forall_mem_cons.mpr ⟨lw_p189, List.forall_mem_cons.mpr ⟨lw_p190, List.forall_mem_cons.mpr ⟨lw_p191, fun _ h => absurd h List.not_mem_nil⟩⟩⟩⟩⟩⟩⟩⟩⟩⟩⟩⟩⟩⟩⟩⟩
theorem lw_p192 : lw_okq (⟨"MacroMillModel", "is", "(ILjava/lang/String;)Z"⟩, 144) := ⟨⟨by decide +kernel, by decide +kernel⟩, List.mem_of_getElem? (i := 1963) (by decide +kernel), List.mem_of_getElem? (i := 2749) (by decide +kernel), List.mem_of_getElem? (i := 2750) (by decide +kernel)⟩
theorem lw_p193 : lw_okq (⟨"MacroMillModel", "byteOf", "(II)I"⟩, 144) := ⟨⟨by decide +kernel, by decide +kernel⟩, List.mem_of_getElem? (i := 1963) (by decide +kernel), List.mem_of_getElem? (i := 2753) (by decide +kernel), List.mem_of_getElem? (i := 2754) (by decide +kernel)⟩
theorem lw_p194 : lw_okq (⟨"MacroMillModel", "endRow", "()V"⟩, 144) := ⟨⟨by decide +kernel, by decide +kernel⟩, List.mem_of_getElem? (i := 1963) (by decide +kernel), List.mem_of_getElem? (i := 2757) (by decide +kernel), List.mem_of_getElem? (i := 2758) (by decide +kernel)⟩
theorem lw_p195 : lw_okq (⟨"MacroMillModel", "replace", "(IIIZ)I"⟩, 144) := ⟨⟨by decide +kernel, by decide +kernel⟩, List.mem_of_getElem? (i := 1963) (by decide +kernel), List.mem_of_getElem? (i := 2761) (by decide +kernel), List.mem_of_getElem? (i := 2762) (by decide +kernel)⟩
theorem lw_p196 : lw_okq (⟨"MacroMillModel", "macroOf", "(I)I"⟩, 144) := ⟨⟨by decide +kernel, by decide +kernel⟩, List.mem_of_getElem? (i := 1963) (by decide +kernel), List.mem_of_getElem? (i := 2765) (by decide +kernel), List.mem_of_getElem? (i := 2766) (by decide +kernel)⟩
theorem lw_p197 : lw_okq (⟨"MacroMillModel", "isName", "(I)Z"⟩, 144) := ⟨⟨by decide +kernel, by decide +kernel⟩, List.mem_of_getElem? (i := 1963) (by decide +kernel), List.mem_of_getElem? (i := 2769) (by decide +kernel), List.mem_of_getElem? (i := 2770) (by decide +kernel)⟩
theorem lw_p198 : lw_okq (⟨"MacroMillModel", "kindOf", "(I)I"⟩, 144) := ⟨⟨by decide +kernel, by decide +kernel⟩, List.mem_of_getElem? (i := 1963) (by decide +kernel), List.mem_of_getElem? (i := 2773) (by decide +kernel), List.mem_of_getElem? (i := 2774) (by decide +kernel)⟩
theorem lw_p199 : lw_okq (⟨"MacroMillModel", "nameOfCell", "(I)I"⟩, 144) := ⟨⟨by decide +kernel, by decide +kernel⟩, List.mem_of_getElem? (i := 1963) (by decide +kernel), List.mem_of_getElem? (i := 2777) (by decide +kernel), List.mem_of_getElem? (i := 2778) (by decide +kernel)⟩
theorem lw_p200 : lw_okq (⟨"MacroMillModel", "isSpelledAs", "(III)Z"⟩, 144) := ⟨⟨by decide +kernel, by decide +kernel⟩, List.mem_of_getElem? (i := 1963) (by decide +kernel), List.mem_of_getElem? (i := 2781) (by decide +kernel), List.mem_of_getElem? (i := 2782) (by decide +kernel)⟩
theorem lw_p201 : lw_okq (⟨"MacroMillModel", "hides", "(II)Z"⟩, 144) := ⟨⟨by decide +kernel, by decide +kernel⟩, List.mem_of_getElem? (i := 1963) (by decide +kernel), List.mem_of_getElem? (i := 2785) (by decide +kernel), List.mem_of_getElem? (i := 2786) (by decide +kernel)⟩
theorem lw_p202 : lw_okq (⟨"MacroMillModel", "special", "(I)I"⟩, 144) := ⟨⟨by decide +kernel, by decide +kernel⟩, List.mem_of_getElem? (i := 1963) (by decide +kernel), List.mem_of_getElem? (i := 2791) (by decide +kernel), List.mem_of_getElem? (i := 2792) (by decide +kernel)⟩
theorem lw_p203 : lw_okq (⟨"MacroMillModel", "lineNumber", "(I)I"⟩, 144) := ⟨⟨by decide +kernel, by decide +kernel⟩, List.mem_of_getElem? (i := 1963) (by decide +kernel), List.mem_of_getElem? (i := 2796) (by decide +kernel), List.mem_of_getElem? (i := 2797) (by decide +kernel)⟩
theorem lw_p204 : lw_okq (⟨"MacroMillModel", "spend", "(II)Z"⟩, 144) := ⟨⟨by decide +kernel, by decide +kernel⟩, List.mem_of_getElem? (i := 1963) (by decide +kernel), List.mem_of_getElem? (i := 2800) (by decide +kernel), List.mem_of_getElem? (i := 2801) (by decide +kernel)⟩
theorem lw_p205 : lw_okq (⟨"MacroMillModel", "spell", "(I)V"⟩, 144) := ⟨⟨by decide +kernel, by decide +kernel⟩, List.mem_of_getElem? (i := 1963) (by decide +kernel), List.mem_of_getElem? (i := 2805) (by decide +kernel), List.mem_of_getElem? (i := 2806) (by decide +kernel)⟩
theorem lw_p206 : lw_okq (⟨"MacroMillModel", "titleByte", "(I)I"⟩, 144) := ⟨⟨by decide +kernel, by decide +kernel⟩, List.mem_of_getElem? (i := 1963) (by decide +kernel), List.mem_of_getElem? (i := 2809) (by decide +kernel), List.mem_of_getElem? (i := 2810) (by decide +kernel)⟩
theorem lw_p207 : lw_okq (⟨"MacroMillModel", "deliver", "(IIZI)V"⟩, 144) := ⟨⟨by decide +kernel, by decide +kernel⟩, List.mem_of_getElem? (i := 1963) (by decide +kernel), List.mem_of_getElem? (i := 2814) (by decide +kernel), List.mem_of_getElem? (i := 2815) (by decide +kernel)⟩
def lw_privs_13 : List (MethodName × Nat) := [(⟨"MacroMillModel", "is", "(ILjava/lang/String;)Z"⟩, 144), (⟨"MacroMillModel", "byteOf", "(II)I"⟩, 144), (⟨"MacroMillModel", "endRow", "()V"⟩, 144), (⟨"MacroMillModel", "replace", "(IIIZ)I"⟩, 144), (⟨"MacroMillModel", "macroOf", "(I)I"⟩, 144), (⟨"MacroMillModel", "isName", "(I)Z"⟩, 144), (⟨"MacroMillModel", "kindOf", "(I)I"⟩, 144), (⟨"MacroMillModel", "nameOfCell", "(I)I"⟩, 144), (⟨"MacroMillModel", "isSpelledAs", "(III)Z"⟩, 144), (⟨"MacroMillModel", "hides", "(II)Z"⟩, 144), (⟨"MacroMillModel", "special", "(I)I"⟩, 144), (⟨"MacroMillModel", "lineNumber", "(I)I"⟩, 144), (⟨"MacroMillModel", "spend", "(II)Z"⟩, 144), (⟨"MacroMillModel", "spell", "(I)V"⟩, 144), (⟨"MacroMillModel", "titleByte", "(I)I"⟩, 144), (⟨"MacroMillModel", "deliver", "(IIZI)V"⟩, 144)]
theorem lw_r13 : ∀ q ∈ lw_privs_13, lw_okq q := List.forall_mem_cons.mpr ⟨lw_p192, List.forall_mem_cons.mpr ⟨lw_p193, List.forall_mem_cons.mpr ⟨lw_p194, List.forall_mem_cons.mpr ⟨lw_p195, List.forall_mem_cons.mpr ⟨lw_p196, List.forall_mem_cons.mpr ⟨lw_p197, List.forall_mem_cons.mpr ⟨lw_p198, List.forall_mem_cons.mpr ⟨lw_p199, List.forall_mem_cons.mpr ⟨lw_p200, List.forall_mem_cons.mpr ⟨lw_p201, List.forall_mem_cons.mpr ⟨lw_p202, List.forall_mem_cons.mpr ⟨lw_p203, List.forall_mem_cons.mpr ⟨lw_p204, List.forall_mem_cons.mpr ⟨lw_p205, List.forall_mem_cons.mpr ⟨lw_p206, List.forall_mem_cons.mpr ⟨lw_p207, fun _ h => absurd h List.not_mem_nil⟩⟩⟩⟩⟩⟩⟩⟩⟩⟩⟩⟩⟩⟩⟩⟩
theorem lw_p208 : lw_okq (⟨"MacroMillModel", "show", "(II)V"⟩, 144) := ⟨⟨by decide +kernel, by decide +kernel⟩, List.mem_of_getElem? (i := 1963) (by decide +kernel), List.mem_of_getElem? (i := 2818) (by decide +kernel), List.mem_of_getElem? (i := 2819) (by decide +kernel)⟩
theorem lw_p209 : lw_okq (⟨"MacroMillModel", "copy", "(I)I"⟩, 144) := ⟨⟨by decide +kernel, by decide +kernel⟩, List.mem_of_getElem? (i := 1963) (by decide +kernel), List.mem_of_getElem? (i := 2823) (by decide +kernel), List.mem_of_getElem? (i := 2824) (by decide +kernel)⟩
theorem lw_p210 : lw_okq (⟨"MacroMillModel", "setHide", "(IIII)V"⟩, 144) := ⟨⟨by decide +kernel, by decide +kernel⟩, List.mem_of_getElem? (i := 1963) (by decide +kernel), List.mem_of_getElem? (i := 2827) (by decide +kernel), List.mem_of_getElem? (i := 2828) (by decide +kernel)⟩
theorem lw_p211 : lw_okq (⟨"MacroMillModel", "substitute", "(IIIII)I"⟩, 144) := ⟨⟨by decide +kernel, by decide +kernel⟩, List.mem_of_getElem? (i := 1963) (by decide +kernel), List.mem_of_getElem? (i := 2831) (by decide +kernel), List.mem_of_getElem? (i := 2832) (by decide +kernel)⟩
theorem lw_p212 : lw_okq (⟨"MacroMillModel", "parameterOf", "(II)I"⟩, 144) := ⟨⟨by decide +kernel, by decide +kernel⟩, List.mem_of_getElem? (i := 1963) (by decide +kernel), List.mem_of_getElem? (i := 2835) (by decide +kernel), List.mem_of_getElem? (i := 2836) (by decide +kernel)⟩
theorem lw_p213 : lw_okq (⟨"MacroMillModel", "isBody", "(ILjava/lang/String;)Z"⟩, 144) := ⟨⟨by decide +kernel, by decide +kernel⟩, List.mem_of_getElem? (i := 1963) (by decide +kernel), List.mem_of_getElem? (i := 2840) (by decide +kernel), List.mem_of_getElem? (i := 2841) (by decide +kernel)⟩
theorem lw_p214 : lw_okq (⟨"MacroMillModel", "spelled", "(IIIZ)I"⟩, 144) := ⟨⟨by decide +kernel, by decide +kernel⟩, List.mem_of_getElem? (i := 1963) (by decide +kernel), List.mem_of_getElem? (i := 2844) (by decide +kernel), List.mem_of_getElem? (i := 2845) (by decide +kernel)⟩
theorem lw_p215 : lw_okq (⟨"MacroMillModel", "isMarked", "(II)Z"⟩, 144) := ⟨⟨by decide +kernel, by decide +kernel⟩, List.mem_of_getElem? (i := 1963) (by decide +kernel), List.mem_of_getElem? (i := 2848) (by decide +kernel), List.mem_of_getElem? (i := 2849) (by decide +kernel)⟩
theorem lw_p216 : lw_okq (⟨"MacroMillModel", "put", "(III)V"⟩, 144) := ⟨⟨by decide +kernel, by decide +kernel⟩, List.mem_of_getElem? (i := 1963) (by decide +kernel), List.mem_of_getElem? (i := 2852) (by decide +kernel), List.mem_of_getElem? (i := 2853) (by decide +kernel)⟩
theorem lw_p217 : lw_okq (⟨"MacroMillModel", "bodyCell", "(II)I"⟩, 144) := ⟨⟨by decide +kernel, by decide +kernel⟩, List.mem_of_getElem? (i := 1963) (by decide +kernel), List.mem_of_getElem? (i := 2857) (by decide +kernel), List.mem_of_getElem? (i := 2858) (by decide +kernel)⟩
theorem lw_p218 : lw_okq (⟨"MacroMillModel", "paste", "(III)V"⟩, 144) := ⟨⟨by decide +kernel, by decide +kernel⟩, List.mem_of_getElem? (i := 1963) (by decide +kernel), List.mem_of_getElem? (i := 2861) (by decide +kernel), List.mem_of_getElem? (i := 2862) (by decide +kernel)⟩
theorem lw_p219 : lw_okq (⟨"MacroMillModel", "isOneToken", "(II)Z"⟩, 144) := ⟨⟨by decide +kernel, by decide +kernel⟩, List.mem_of_getElem? (i := 1963) (by decide +kernel), List.mem_of_getElem? (i := 2865) (by decide +kernel), List.mem_of_getElem? (i := 2866) (by decide +kernel)⟩
theorem lw_p220 : lw_okq (⟨"MacroMillModel", "setOfSome", "(I)I"⟩, 144) := ⟨⟨by decide +kernel, by decide +kernel⟩, List.mem_of_getElem? (i := 1963) (by decide +kernel), List.mem_of_getElem? (i := 2869) (by decide +kernel), List.mem_of_getElem? (i := 2870) (by decide +kernel)⟩
theorem lw_p221 : lw_okq (⟨"MacroMillModel", "putRaw", "(IIII)V"⟩, 144) := ⟨⟨by decide +kernel, by decide +kernel⟩, List.mem_of_getElem? (i := 1963) (by decide +kernel), List.mem_of_getElem? (i := 2873) (by decide +kernel), List.mem_of_getElem? (i := 2874) (by decide +kernel)⟩
theorem lw_p222 : lw_okq (⟨"MacroMillModel", "putReplaced", "(IIII)V"⟩, 144) := ⟨⟨by decide +kernel, by decide +kernel⟩, List.mem_of_getElem? (i := 1963) (by decide +kernel), List.mem_of_getElem? (i := 2877) (by decide +kernel), List.mem_of_getElem? (i := 2878) (by decide +kernel)⟩
theorem lw_p223 : lw_okq (⟨"MacroMillModel", "finish", "(IIII)I"⟩, 144) := ⟨⟨by decide +kernel, by decide +kernel⟩, List.mem_of_getElem? (i := 1963) (by decide +kernel), List.mem_of_getElem? (i := 2881) (by decide +kernel), List.mem_of_getElem? (i := 2882) (by decide +kernel)⟩
def lw_privs_14 : List (MethodName × Nat) := [(⟨"MacroMillModel", "show", "(II)V"⟩, 144), (⟨"MacroMillModel", "copy", "(I)I"⟩, 144), (⟨"MacroMillModel", "setHide", "(IIII)V"⟩, 144), (⟨"MacroMillModel", "substitute", "(IIIII)I"⟩, 144), (⟨"MacroMillModel", "parameterOf", "(II)I"⟩, 144), (⟨"MacroMillModel", "isBody", "(ILjava/lang/String;)Z"⟩, 144), (⟨"MacroMillModel", "spelled", "(IIIZ)I"⟩, 144), (⟨"MacroMillModel", "isMarked", "(II)Z"⟩, 144), (⟨"MacroMillModel", "put", "(III)V"⟩, 144), (⟨"MacroMillModel", "bodyCell", "(II)I"⟩, 144), (⟨"MacroMillModel", "paste", "(III)V"⟩, 144), (⟨"MacroMillModel", "isOneToken", "(II)Z"⟩, 144), (⟨"MacroMillModel", "setOfSome", "(I)I"⟩, 144), (⟨"MacroMillModel", "putRaw", "(IIII)V"⟩, 144), (⟨"MacroMillModel", "putReplaced", "(IIII)V"⟩, 144), (⟨"MacroMillModel", "finish", "(IIII)I"⟩, 144)]
theorem lw_r14 : ∀ q ∈ lw_privs_14, lw_okq q := List.forall_mem_cons.mpr ⟨lw_p208, List.forall_mem_cons.mpr ⟨lw_p209, List.forall_mem_cons.mpr ⟨lw_p210, List.forall_mem_cons.mpr ⟨lw_p211, List.forall_mem_cons.mpr ⟨lw_p212, List.forall_mem_cons.mpr ⟨lw_p213, List.forall_mem_cons.mpr ⟨lw_p214, List.forall_mem_cons.mpr ⟨lw_p215, List.forall_mem_cons.mpr ⟨lw_p216, List.forall_mem_cons.mpr ⟨lw_p217, List.forall_mem_cons.mpr ⟨lw_p218, List.forall_mem_cons.mpr ⟨lw_p219, List.forall_mem_cons.mpr ⟨lw_p220, List.forall_mem_cons.mpr ⟨lw_p221, List.forall_mem_cons.mpr ⟨lw_p222, List.forall_mem_cons.mpr ⟨lw_p223, fun _ h => absurd h List.not_mem_nil⟩⟩⟩⟩⟩⟩⟩⟩⟩⟩⟩⟩⟩⟩⟩⟩
theorem lw_p224 : lw_okq (⟨"MacroMillModel", "call", "(IIIII)I"⟩, 144) := ⟨⟨by decide +kernel, by decide +kernel⟩, List.mem_of_getElem? (i := 1963) (by decide +kernel), List.mem_of_getElem? (i := 2885) (by decide +kernel), List.mem_of_getElem? (i := 2886) (by decide +kernel)⟩
theorem lw_p225 : lw_okq (⟨"MacroMillModel", "direct", "(I)V"⟩, 144) := ⟨⟨by decide +kernel, by decide +kernel⟩, List.mem_of_getElem? (i := 1963) (by decide +kernel), List.mem_of_getElem? (i := 2891) (by decide +kernel), List.mem_of_getElem? (i := 2892) (by decide +kernel)⟩
theorem lw_p226 : lw_okq (⟨"MacroMillModel", "countsNow", "()Z"⟩, 144) := ⟨⟨by decide +kernel, by decide +kernel⟩, List.mem_of_getElem? (i := 1963) (by decide +kernel), List.mem_of_getElem? (i := 2895) (by decide +kernel), List.mem_of_getElem? (i := 2896) (by decide +kernel)⟩
theorem lw_p227 : lw_okq (⟨"MacroMillModel", "beginIf", "(ZZI)V"⟩, 144) := ⟨⟨by decide +kernel, by decide +kernel⟩, List.mem_of_getElem? (i := 1963) (by decide +kernel), List.mem_of_getElem? (i := 2904) (by decide +kernel), List.mem_of_getElem? (i := 2905) (by decide +kernel)⟩
theorem lw_p228 : lw_okq (⟨"MacroMillModel", "partOf", "(III)V"⟩, 144) := ⟨⟨by decide +kernel, by decide +kernel⟩, List.mem_of_getElem? (i := 1963) (by decide +kernel), List.mem_of_getElem? (i := 2908) (by decide +kernel), List.mem_of_getElem? (i := 2909) (by decide +kernel)⟩
theorem lw_p229 : lw_okq (⟨"MacroMillModel", "fault", "(I)V"⟩, 144) := ⟨⟨by decide +kernel, by decide +kernel⟩, List.mem_of_getElem? (i := 1963) (by decide +kernel), List.mem_of_getElem? (i := 2912) (by decide +kernel), List.mem_of_getElem? (i := 2913) (by decide +kernel)⟩
theorem lw_p230 : lw_okq (⟨"MacroMillModel", "condition", "(I)Z"⟩, 144) := ⟨⟨by decide +kernel, by decide +kernel⟩, List.mem_of_getElem? (i := 1963) (by decide +kernel), List.mem_of_getElem? (i := 2916) (by decide +kernel), List.mem_of_getElem? (i := 2917) (by decide +kernel)⟩
theorem lw_p231 : lw_okq (⟨"MacroMillModel", "markDefined", "(I)I"⟩, 144) := ⟨⟨by decide +kernel, by decide +kernel⟩, List.mem_of_getElem? (i := 1963) (by decide +kernel), List.mem_of_getElem? (i := 2920) (by decide +kernel), List.mem_of_getElem? (i := 2921) (by decide +kernel)⟩
theorem lw_p232 : lw_okq (⟨"MacroMillModel", "choice", "(Z)J"⟩, 144) := ⟨⟨by decide +kernel, by decide +kernel⟩, List.mem_of_getElem? (i := 1963) (by decide +kernel), List.mem_of_getElem? (i := 2925) (by decide +kernel), List.mem_of_getElem? (i := 2926) (by decide +kernel)⟩
theorem lw_p233 : lw_okq (⟨"MacroMillModel", "either", "(Z)J"⟩, 144) := ⟨⟨by decide +kernel, by decide +kernel⟩, List.mem_of_getElem? (i := 1963) (by decide +kernel), List.mem_of_getElem? (i := 2929) (by decide +kernel), List.mem_of_getElem? (i := 2930) (by decide +kernel)⟩
theorem lw_p234 : lw_okq (⟨"MacroMillModel", "front", "(Z)J"⟩, 144) := ⟨⟨by decide +kernel, by decide +kernel⟩, List.mem_of_getElem? (i := 1963) (by decide +kernel), List.mem_of_getElem? (i := 2933) (by decide +kernel), List.mem_of_getElem? (i := 2934) (by decide +kernel)⟩
theorem lw_p235 : lw_okq (⟨"MacroMillModel", "goOn", "()V"⟩, 144) := ⟨⟨by decide +kernel, by decide +kernel⟩, List.mem_of_getElem? (i := 1963) (by decide +kernel), List.mem_of_getElem? (i := 2937) (by decide +kernel), List.mem_of_getElem? (i := 2938) (by decide +kernel)⟩
theorem lw_p236 : lw_okq (⟨"MacroMillModel", "numberOf", "(I)J"⟩, 144) := ⟨⟨by decide +kernel, by decide +kernel⟩, List.mem_of_getElem? (i := 1963) (by decide +kernel), List.mem_of_getElem? (i := 2941) (by decide +kernel), List.mem_of_getElem? (i := 2942) (by decide +kernel)⟩
theorem lw_p237 : lw_okq (⟨"MacroMillModel", "characterOf", "(I)J"⟩, 144) := ⟨⟨by decide +kernel, by decide +kernel⟩, List.mem_of_getElem? (i := 1963) (by decide +kernel), List.mem_of_getElem? (i := 2953) (by decide +kernel), List.mem_of_getElem? (i := 2954) (by decide +kernel)⟩
theorem lw_p238 : lw_okq (⟨"MacroMillModel", "operatorHere", "()I"⟩, 144) := ⟨⟨by decide +kernel, by decide +kernel⟩, List.mem_of_getElem? (i := 1963) (by decide +kernel), List.mem_of_getElem? (i := 2966) (by decide +kernel), List.mem_of_getElem? (i := 2967) (by decide +kernel)⟩
theorem lw_p239 : lw_okq (⟨"MacroMillModel", "settle", "(JIZ)J"⟩, 144) := ⟨⟨by decide +kernel, by decide +kernel⟩, List.mem_of_getElem? (i := 1963) (by decide +kernel), List.mem_of_getElem? (i := 3038) (by decide +kernel), List.mem_of_getElem? (i := 3039) (by decide +kernel)⟩
def lw_privs_15 : List (MethodName × Nat) := [(⟨"MacroMillModel", "call", "(IIIII)I"⟩, 144), (⟨"MacroMillModel", "direct", "(I)V"⟩, 144), (⟨"MacroMillModel", "countsNow", "()Z"⟩, 144), (⟨"MacroMillModel", "beginIf", "(ZZI)V"⟩, 144), (⟨"MacroMillModel", "partOf", "(III)V"⟩, 144), (⟨"MacroMillModel", "fault", "(I)V"⟩, 144), (⟨"MacroMillModel", "condition", "(I)Z"⟩, 144), (⟨"MacroMillModel", "markDefined", "(I)I"⟩, 144), (⟨"MacroMillModel", "choice", "(Z)J"⟩, 144), (⟨"MacroMillModel", "either", "(Z)J"⟩, 144), (⟨"MacroMillModel", "front", "(Z)J"⟩, 144), (⟨"MacroMillModel", "goOn", "()V"⟩, 144), (⟨"MacroMillModel", "numberOf", "(I)J"⟩, 144), (⟨"MacroMillModel", "characterOf", "(I)J"⟩, 144), (⟨"MacroMillModel", "operatorHere", "()I"⟩, 144), (⟨"MacroMillModel", "settle", "(JIZ)J"⟩, 144)]
theorem lw_r15 : ∀ q ∈ lw_privs_15, lw_okq q := List.forall_mem_cons.mpr ⟨lw_p224, List.forall_mem_cons.mpr ⟨lw_p225, List.forall_mem_cons.mpr ⟨lw_p226, List.forall_mem_cons.mpr ⟨lw_p227, List.forall_mem_cons.mpr ⟨lw_p228, List.forall_mem_cons.mpr ⟨lw_p229, List.forall_mem_cons.mpr ⟨lw_p230, List.forall_mem_cons.mpr ⟨lw_p231, List.forall_mem_cons.mpr ⟨lw_p232, List.forall_mem_cons.mpr ⟨lw_p233, List.forall_mem_cons.mpr ⟨lw_p234, List.forall_mem_cons.mpr ⟨lw_p235, List.forall_mem_cons.mpr ⟨lw_p236, List.forall_mem_cons.mpr ⟨lw_p237, List.forall_mem_cons.mpr ⟨lw_p238, List.forall_mem_cons.mpr ⟨lw_p239, fun _ h => absurd h List.not_mem_nil⟩⟩⟩⟩⟩⟩⟩⟩⟩⟩⟩⟩⟩⟩⟩⟩
theorem lw_p240 : lw_okq (⟨"MacroMillModel", "isNeeded", "(IZ)Z"⟩, 144) := ⟨⟨by decide +kernel, by decide +kernel⟩, List.mem_of_getElem? (i := 1963) (by decide +kernel), List.mem_of_getElem? (i := 3042) (by decide +kernel), List.mem_of_getElem? (i := 3043) (by decide +kernel)⟩
theorem lw_p241 : lw_okq (⟨"MacroMillModel", "join", "(IJJZZ)J"⟩, 144) := ⟨⟨by decide +kernel, by decide +kernel⟩, List.mem_of_getElem? (i := 1963) (by decide +kernel), List.mem_of_getElem? (i := 3046) (by decide +kernel), List.mem_of_getElem? (i := 3047) (by decide +kernel)⟩
theorem lw_p242 : lw_okq (⟨"MacroMillModel", "openIf", "(II)V"⟩, 144) := ⟨⟨by decide +kernel, by decide +kernel⟩, List.mem_of_getElem? (i := 1963) (by decide +kernel), List.mem_of_getElem? (i := 3053) (by decide +kernel), List.mem_of_getElem? (i := 3054) (by decide +kernel)⟩
theorem lw_p243 : lw_okq (⟨"MacroMillModel", "isMacroName", "(I)Z"⟩, 144) := ⟨⟨by decide +kernel, by decide +kernel⟩, List.mem_of_getElem? (i := 1963) (by decide +kernel), List.mem_of_getElem? (i := 3057) (by decide +kernel), List.mem_of_getElem? (i := 3058) (by decide +kernel)⟩
theorem lw_p244 : lw_okq (⟨"MacroMillModel", "directOther", "(II)V"⟩, 144) := ⟨⟨by decide +kernel, by decide +kernel⟩, List.mem_of_getElem? (i := 1963) (by decide +kernel), List.mem_of_getElem? (i := 3061) (by decide +kernel), List.mem_of_getElem? (i := 3062) (by decide +kernel)⟩
theorem lw_p245 : lw_okq (⟨"MacroMillModel", "defineMacro", "(I)V"⟩, 144) := ⟨⟨by decide +kernel, by decide +kernel⟩, List.mem_of_getElem? (i := 1963) (by decide +kernel), List.mem_of_getElem? (i := 3065) (by decide +kernel), List.mem_of_getElem? (i := 3066) (by decide +kernel)⟩
theorem lw_p246 : lw_okq (⟨"MacroMillModel", "readParameters", "(I)Z"⟩, 144) := ⟨⟨by decide +kernel, by decide +kernel⟩, List.mem_of_getElem? (i := 1963) (by decide +kernel), List.mem_of_getElem? (i := 3069) (by decide +kernel), List.mem_of_getElem? (i := 3070) (by decide +kernel)⟩
theorem lw_p247 : lw_okq (⟨"MacroMillModel", "isNewParameter", "(I)Z"⟩, 144) := ⟨⟨by decide +kernel, by decide +kernel⟩, List.mem_of_getElem? (i := 1963) (by decide +kernel), List.mem_of_getElem? (i := 3074) (by decide +kernel), List.mem_of_getElem? (i := 3075) (by decide +kernel)⟩
theorem lw_p248 : lw_okq (⟨"MacroMillModel", "isNewUse", "(I)Z"⟩, 144) := ⟨⟨by decide +kernel, by decide +kernel⟩, List.mem_of_getElem? (i := 1963) (by decide +kernel), List.mem_of_getElem? (i := 3078) (by decide +kernel), List.mem_of_getElem? (i := 3079) (by decide +kernel)⟩
theorem lw_p249 : lw_okq (⟨"MacroMillModel", "isNewNamed", "(I)Z"⟩, 144) := ⟨⟨by decide +kernel, by decide +kernel⟩, List.mem_of_getElem? (i := 1963) (by decide +kernel), List.mem_of_getElem? (i := 3082) (by decide +kernel), List.mem_of_getElem? (i := 3083) (by decide +kernel)⟩
theorem lw_p250 : lw_okq (⟨"MacroMillModel", "isAgain", "(IZI)Z"⟩, 144) := ⟨⟨by decide +kernel, by decide +kernel⟩, List.mem_of_getElem? (i := 1963) (by decide +kernel), List.mem_of_getElem? (i := 3086) (by decide +kernel), List.mem_of_getElem? (i := 3087) (by decide +kernel)⟩
theorem lw_p251 : lw_okq (⟨"MacroMillModel", "enter", "(IZI)V"⟩, 144) := ⟨⟨by decide +kernel, by decide +kernel⟩, List.mem_of_getElem? (i := 1963) (by decide +kernel), List.mem_of_getElem? (i := 3090) (by decide +kernel), List.mem_of_getElem? (i := 3091) (by decide +kernel)⟩
theorem lw_p252 : lw_okq (⟨"MacroMillModel", "parametersNow", "()I"⟩, 144) := ⟨⟨by decide +kernel, by decide +kernel⟩, List.mem_of_getElem? (i := 1963) (by decide +kernel), List.mem_of_getElem? (i := 3094) (by decide +kernel), List.mem_of_getElem? (i := 3095) (by decide +kernel)⟩
theorem lw_p253 : lw_okq (⟨"MacroMillModel", "undefine", "(I)V"⟩, 144) := ⟨⟨by decide +kernel, by decide +kernel⟩, List.mem_of_getElem? (i := 1963) (by decide +kernel), List.mem_of_getElem? (i := 3099) (by decide +kernel), List.mem_of_getElem? (i := 3100) (by decide +kernel)⟩
theorem lw_p254 : lw_okq (⟨"MacroMillModel", "include", "(I)V"⟩, 144) := ⟨⟨by decide +kernel, by decide +kernel⟩, List.mem_of_getElem? (i := 1963) (by decide +kernel), List.mem_of_getElem? (i := 3104) (by decide +kernel), List.mem_of_getElem? (i := 3105) (by decide +kernel)⟩
theorem lw_p255 : lw_okq (⟨"MacroMillModel", "readTitle", "(I)I"⟩, 144) := ⟨⟨by decide +kernel, by decide +kernel⟩, List.mem_of_getElem? (i := 1963) (by decide +kernel), List.mem_of_getElem? (i := 3108) (by decide +kernel), List.mem_of_getElem? (i := 3109) (by decide +kernel)⟩
def lw_privs_16 : List (MethodName × Nat) := [(⟨"MacroMillModel", "isNeeded", "(IZ)Z"⟩, 144), (⟨"MacroMillModel", "join", "(IJJZZ)J"⟩, 144), (⟨"MacroMillModel", "openIf", "(II)V"⟩, 144), (⟨"MacroMillModel", "isMacroName", "(I)Z"⟩, 144), (⟨"MacroMillModel", "directOther", "(II)V"⟩, 144), (⟨"MacroMillModel", "defineMacro", "(I)V"⟩, 144), (⟨"MacroMillModel", "readParameters", "(I)Z"⟩, 144), (⟨"MacroMillModel", "isNewParameter", "(I)Z"⟩, 144), (⟨"MacroMillModel", "isNewUse", "(I)Z"⟩, 144), (⟨"MacroMillModel", "isNewNamed", "(I)Z"⟩, 144), (⟨"MacroMillModel", "isAgain", "(IZI)Z"⟩, 144), (⟨"MacroMillModel", "enter", "(IZI)V"⟩, 144), (⟨"MacroMillModel", "parametersNow", "()I"⟩, 144), (⟨"MacroMillModel", "undefine", "(I)V"⟩, 144), (⟨"MacroMillModel", "include", "(I)V"⟩, 144), (⟨"MacroMillModel", "readTitle", "(I)I"⟩, 144)]
theorem lw_r16 : ∀ q ∈ lw_privs_16, lw_okq q := List.forall_mem_cons.mpr ⟨lw_p240, List.forall_mem_cons.mpr ⟨lw_p241, List.forall_mem_cons.mpr ⟨lw_p242, List.forall_mem_cons.mpr ⟨lw_p243, List.forall_mem_cons.mpr ⟨lw_p244, List.forall_mem_cons.mpr ⟨lw_p245, List.forall_mem_cons.mpr ⟨lw_p246, List.forall_mem_cons.mpr ⟨lw_p247, List.forall_mem_cons.mpr ⟨lw_p248, List.forall_mem_cons.mpr ⟨lw_p249, List.forall_mem_cons.mpr ⟨lw_p250, List.forall_mem_cons.mpr ⟨lw_p251, List.forall_mem_cons.mpr ⟨lw_p252, List.forall_mem_cons.mpr ⟨lw_p253, List.forall_mem_cons.mpr ⟨lw_p254, List.forall_mem_cons.mpr ⟨lw_p255, fun _ h => absurd h List.not_mem_nil⟩⟩⟩⟩⟩⟩⟩⟩⟩⟩⟩⟩⟩⟩⟩⟩
theorem lw_p256 : lw_okq (⟨"MacroMillModel", "isPlainText", "(I)Z"⟩, 144) := ⟨⟨by decide +kernel, by decide +kernel⟩, List.mem_of_getElem? (i := 1963) (by decide +kernel), List.mem_of_getElem? (i := 3112) (by decide +kernel), List.mem_of_getElem? (i := 3113) (by decide +kernel)⟩
theorem lw_p257 : lw_okq (⟨"MacroMillModel", "want", "(I)V"⟩, 144) := ⟨⟨by decide +kernel, by decide +kernel⟩, List.mem_of_getElem? (i := 1963) (by decide +kernel), List.mem_of_getElem? (i := 3116) (by decide +kernel), List.mem_of_getElem? (i := 3117) (by decide +kernel)⟩
theorem lw_p258 : lw_okq (⟨"MacroMillModel", "sizeNow", "(I)I"⟩, 144) := ⟨⟨by decide +kernel, by decide +kernel⟩, List.mem_of_getElem? (i := 1963) (by decide +kernel), List.mem_of_getElem? (i := 3120) (by decide +kernel), List.mem_of_getElem? (i := 3121) (by decide +kernel)⟩
theorem lw_p259 : lw_okq (⟨"MacroMillModel", "setLine", "(I)V"⟩, 144) := ⟨⟨by decide +kernel, by decide +kernel⟩, List.mem_of_getElem? (i := 1963) (by decide +kernel), List.mem_of_getElem? (i := 3126) (by decide +kernel), List.mem_of_getElem? (i := 3127) (by decide +kernel)⟩
theorem lw_p260 : lw_okq (⟨"MacroMillModel", "addToRow", "()V"⟩, 144) := ⟨⟨by decide +kernel, by decide +kernel⟩, List.mem_of_getElem? (i := 1963) (by decide +kernel), List.mem_of_getElem? (i := 3132) (by decide +kernel), List.mem_of_getElem? (i := 3133) (by decide +kernel)⟩
def lw_privs_17 : List (MethodName × Nat) := [(⟨"MacroMillModel", "isPlainText", "(I)Z"⟩, 144), (⟨"MacroMillModel", "want", "(I)V"⟩, 144), (⟨"MacroMillModel", "sizeNow", "(I)I"⟩, 144), (⟨"MacroMillModel", "setLine", "(I)V"⟩, 144), (⟨"MacroMillModel", "addToRow", "()V"⟩, 144)]
theorem lw_r17 : ∀ q ∈ lw_privs_17, lw_okq q := List.forall_mem_cons.mpr ⟨lw_p256, List.forall_mem_cons.mpr ⟨lw_p257, List.forall_mem_cons.mpr ⟨lw_p258, List.forall_mem_cons.mpr ⟨lw_p259, List.forall_mem_cons.mpr ⟨lw_p260, fun _ h => absurd h List.not_mem_nil⟩⟩⟩⟩⟩
def lw_privs : List (MethodName × Nat) := lw_privs_1 ++ (lw_privs_2 ++ (lw_privs_3 ++ (lw_privs_4 ++ (lw_privs_5 ++ (lw_privs_6 ++ (lw_privs_7 ++ (lw_privs_8 ++ (lw_privs_9 ++ (lw_privs_10 ++ (lw_privs_11 ++ (lw_privs_12 ++ (lw_privs_13 ++ (lw_privs_14 ++ (lw_privs_15 ++ (lw_privs_16 ++ (lw_privs_17))))))))))))))))
def lw_tbl : List Cond := k2_sels lw_privs ++ tables_1
theorem lw_privs_ok : ∀ q ∈ lw_privs, lw_okq q := by
  show ∀ q ∈ lw_privs_1 ++ (lw_privs_2 ++ (lw_privs_3 ++ (lw_privs_4 ++ (lw_privs_5 ++ (lw_privs_6 ++ (lw_privs_7 ++ (lw_privs_8 ++ (lw_privs_9 ++ (lw_privs_10 ++ (lw_privs_11 ++ (lw_privs_12 ++ (lw_privs_13 ++ (lw_privs_14 ++ (lw_privs_15 ++ (lw_privs_16 ++ (lw_privs_17)))))))))))))))), lw_okq q
  exact List.forall_mem_append.mpr ⟨lw_r1, List.forall_mem_append.mpr ⟨lw_r2, List.forall_mem_append.mpr ⟨lw_r3, List.forall_mem_append.mpr ⟨lw_r4, List.forall_mem_append.mpr ⟨lw_r5, List.forall_mem_append.mpr ⟨lw_r6, List.forall_mem_append.mpr ⟨lw_r7, List.forall_mem_append.mpr ⟨lw_r8, List.forall_mem_append.mpr ⟨lw_r9, List.forall_mem_append.mpr ⟨lw_r10, List.forall_mem_append.mpr ⟨lw_r11, List.forall_mem_append.mpr ⟨lw_r12, List.forall_mem_append.mpr ⟨lw_r13, List.forall_mem_append.mpr ⟨lw_r14, List.forall_mem_append.mpr ⟨lw_r15, List.forall_mem_append.mpr ⟨lw_r16, lw_r17⟩⟩⟩⟩⟩⟩⟩⟩⟩⟩⟩⟩⟩⟩⟩⟩
end
section
-- names: classes, fields, methods; written by wip/gen/make.py out of the Statement
def L_MM : List (String × String × String × Bool) := [("MacroMill", "tape", "[B", true), ("MacroMill", "tapeSize", "I", false), ("MacroMill", "canBeCut", "Z", false), ("MacroMill", "files", "LMacroMill$Files;", true), ("MacroMill", "outcome", "LMacroMill$Outcome;", true), ("MacroMill", "first", "LMacroMill$First;", true), ("MacroMill", "second", "LMacroMill$Second;", true)]
def F_MM : u_T := fun k => L_MM.getD k ("", "", "", false)
def LT_MM : List FieldType := [.array .byte, .int, .boolean, .object "MacroMill$Files", .object "MacroMill$Outcome", .object "MacroMill$First", .object "MacroMill$Second"]
def t_MM : Nat → FieldType := fun k => LT_MM.getD k .int
set_option maxRecDepth 100000 in
theorem n_MM : ∀ a, a < 7 → ∀ b, b < 7 → a ≠ b → (F_MM a).2.1 ≠ (F_MM b).2.1 := by decide +kernel
set_option maxRecDepth 100000 in
theorem t_MM_ok : ∀ k, k < 7 → parseFieldDescriptor (F_MM k).2.2.1 = some (t_MM k) := by decide +kernel
set_option maxRecDepth 100000 in
theorem z_MM : ∀ j, j < 7 → defaultValue (t_MM j) = vp_V [.null, .int 0, .int 0, .null, .null, .null, .null] j := by decide +kernel
def L_Files : List (String × String × String × Bool) := [("MacroMill$Files", "bytes", "[B", true), ("MacroMill$Files", "titles", "[B", true), ("MacroMill$Files", "titleLength", "[I", true), ("MacroMill$Files", "start", "[I", true), ("MacroMill$Files", "count", "I", false)]
def F_Files : u_T := fun k => L_Files.getD k ("", "", "", false)
def LT_Files : List FieldType := [.array .byte, .array .byte, .array .int, .array .int, .int]
def t_Files : Nat → FieldType := fun k => LT_Files.getD k .int
set_option maxRecDepth 100000 in
theorem n_Files : ∀ a, a < 5 → ∀ b, b < 5 → a ≠ b → (F_Files a).2.1 ≠ (F_Files b).2.1 := by decide +kernel
set_option maxRecDepth 100000 in
theorem t_Files_ok : ∀ k, k < 5 → parseFieldDescriptor (F_Files k).2.2.1 = some (t_Files k) := by decide +kernel
set_option maxRecDepth 100000 in
theorem z_Files : ∀ j, j < 5 → defaultValue (t_Files j) = vp_V [.null, .null, .null, .null, .int 0] j := by decide +kernel
def L_Outcome : List (String × String × String × Bool) := [("MacroMill$Outcome", "out", "[B", true), ("MacroMill$Outcome", "size", "I", false), ("MacroMill$Outcome", "error", "I", false), ("MacroMill$Outcome", "file", "I", false), ("MacroMill$Outcome", "line", "I", false), ("MacroMill$Outcome", "fileAtHand", "I", false), ("MacroMill$Outcome", "taken", "I", false), ("MacroMill$Outcome", "putOut", "I", false), ("MacroMill$Outcome", "substituted", "I", false), ("MacroMill$Outcome", "astray", "I", false)]
def F_Outcome : u_T := fun k => L_Outcome.getD k ("", "", "", false)
def LT_Outcome : List FieldType := [.array .byte, .int, .int, .int, .int, .int, .int, .int, .int, .int]
def t_Outcome : Nat → FieldType := fun k => LT_Outcome.getD k .int
set_option maxRecDepth 100000 in
theorem n_Outcome : ∀ a, a < 10 → ∀ b, b < 10 → a ≠ b → (F_Outcome a).2.1 ≠ (F_Outcome b).2.1 := by decide +kernel
set_option maxRecDepth 100000 in
theorem t_Outcome_ok : ∀ k, k < 10 → parseFieldDescriptor (F_Outcome k).2.2.1 = some (t_Outcome k) := by decide +kernel
set_option maxRecDepth 100000 in
theorem z_Outcome : ∀ j, j < 10 → defaultValue (t_Outcome j) = vp_V [.null, .int 0, .int 0, .int 0, .int 0, .int 0, .int 0, .int 0, .int 0, .int 0] j := by decide +kernel
def L_Reckoner : List (String × String × String × Bool) := [("MacroMill$Reckoner", "values", "[J", true), ("MacroMill$Reckoner", "unsigned", "[Z", true), ("MacroMill$Reckoner", "valueCount", "I", false), ("MacroMill$Reckoner", "signs", "[I", true), ("MacroMill$Reckoner", "ranks", "[I", true), ("MacroMill$Reckoner", "idleBefore", "[Z", true), ("MacroMill$Reckoner", "signCount", "I", false), ("MacroMill$Reckoner", "nesting", "I", false), ("MacroMill$Reckoner", "wide", "Z", false), ("MacroMill$Reckoner", "wantsValue", "Z", false), ("MacroMill$Reckoner", "idle", "Z", false), ("MacroMill$Reckoner", "malformed", "Z", false), ("MacroMill$Reckoner", "dividedByZero", "Z", false)]
def F_Reckoner : u_T := fun k => L_Reckoner.getD k ("", "", "", false)
def LT_Reckoner : List FieldType := [.array .long, .array .boolean, .int, .array .int, .array .int, .array .boolean, .int, .int, .boolean, .boolean, .boolean, .boolean, .boolean]
def t_Reckoner : Nat → FieldType := fun k => LT_Reckoner.getD k .int
set_option maxRecDepth 100000 in
theorem n_Reckoner : ∀ a, a < 13 → ∀ b, b < 13 → a ≠ b → (F_Reckoner a).2.1 ≠ (F_Reckoner b).2.1 := by decide +kernel
set_option maxRecDepth 100000 in
theorem t_Reckoner_ok : ∀ k, k < 13 → parseFieldDescriptor (F_Reckoner k).2.2.1 = some (t_Reckoner k) := by decide +kernel
set_option maxRecDepth 100000 in
theorem z_Reckoner : ∀ j, j < 13 → defaultValue (t_Reckoner j) = vp_V [.null, .null, .int 0, .null, .null, .null, .int 0, .int 0, .int 0, .int 0, .int 0, .int 0, .int 0] j := by decide +kernel
def L_First : List (String × String × String × Bool) := [("MacroMill$First", "outcome", "LMacroMill$Outcome;", true), ("MacroMill$First", "reckoner", "LMacroMill$Reckoner;", true), ("MacroMill$First", "input", "LMacroMill$Input;", true), ("MacroMill$First", "calls", "LMacroMill$Calls;", true), ("MacroMill$First", "meanings", "LMacroMill$Meanings;", true), ("MacroMill$First", "result", "[B", true), ("MacroMill$First", "resultSize", "I", false), ("MacroMill$First", "diverted", "[B", true), ("MacroMill$First", "chain", "[I", true), ("MacroMill$First", "head", "[I", true), ("MacroMill$First", "tail", "[I", true), ("MacroMill$First", "free", "I", false), ("MacroMill$First", "fresh", "I", false), ("MacroMill$First", "divertedCount", "I", false), ("MacroMill$First", "current", "I", false)]
def F_First : u_T := fun k => L_First.getD k ("", "", "", false)
def LT_First : List FieldType := [.object "MacroMill$Outcome", .object "MacroMill$Reckoner", .object "MacroMill$Input", .object "MacroMill$Calls", .object "MacroMill$Meanings", .array .byte, .int, .array .byte, .array .int, .array .int, .array .int, .int, .int, .int, .int]
def t_First : Nat → FieldType := fun k => LT_First.getD k .int
set_option maxRecDepth 100000 in
theorem n_First : ∀ a, a < 15 → ∀ b, b < 15 → a ≠ b → (F_First a).2.1 ≠ (F_First b).2.1 := by decide +kernel
set_option maxRecDepth 100000 in
theorem t_First_ok : ∀ k, k < 15 → parseFieldDescriptor (F_First k).2.2.1 = some (t_First k) := by decide +kernel
set_option maxRecDepth 100000 in
theorem z_First : ∀ j, j < 15 → defaultValue (t_First j) = vp_V [.null, .null, .null, .null, .null, .null, .int 0, .null, .null, .null, .null, .int 0, .int 0, .int 0, .int 0] j := by decide +kernel
def L_Input : List (String × String × String × Bool) := [("MacroMill$Input", "bytes", "[B", true), ("MacroMill$Input", "outcome", "LMacroMill$Outcome;", true), ("MacroMill$Input", "at", "I", false), ("MacroMill$Input", "mainAt", "I", false), ("MacroMill$Input", "line", "I", false), ("MacroMill$Input", "fuel", "I", false), ("MacroMill$Input", "quotes", "[B", true), ("MacroMill$Input", "openingLength", "I", false), ("MacroMill$Input", "closingLength", "I", false), ("MacroMill$Input", "kind", "I", false), ("MacroMill$Input", "from", "I", false), ("MacroMill$Input", "to", "I", false)]
def F_Input : u_T := fun k => L_Input.getD k ("", "", "", false)
def LT_Input : List FieldType := [.array .byte, .object "MacroMill$Outcome", .int, .int, .int, .int, .array .byte, .int, .int, .int, .int, .int]
def t_Input : Nat → FieldType := fun k => LT_Input.getD k .int
set_option maxRecDepth 100000 in
theorem n_Input : ∀ a, a < 12 → ∀ b, b < 12 → a ≠ b → (F_Input a).2.1 ≠ (F_Input b).2.1 := by decide +kernel
set_option maxRecDepth 100000 in
theorem t_Input_ok : ∀ k, k < 12 → parseFieldDescriptor (F_Input k).2.2.1 = some (t_Input k) := by decide +kernel
set_option maxRecDepth 100000 in
theorem z_Input : ∀ j, j < 12 → defaultValue (t_Input j) = vp_V [.null, .null, .int 0, .int 0, .int 0, .int 0, .null, .int 0, .int 0, .int 0, .int 0, .int 0] j := by decide +kernel
def L_Calls : List (String × String × String × Bool) := [("MacroMill$Calls", "bytes", "[B", true), ("MacroMill$Calls", "used", "I", false), ("MacroMill$Calls", "argumentAt", "[I", true), ("MacroMill$Calls", "argumentCount", "I", false), ("MacroMill$Calls", "nameAt", "[I", true), ("MacroMill$Calls", "nameLength", "[I", true), ("MacroMill$Calls", "firstArgument", "[I", true), ("MacroMill$Calls", "nesting", "[I", true), ("MacroMill$Calls", "begun", "[Z", true), ("MacroMill$Calls", "open", "I", false)]
def F_Calls : u_T := fun k => L_Calls.getD k ("", "", "", false)
def LT_Calls : List FieldType := [.array .byte, .int, .array .int, .int, .array .int, .array .int, .array .int, .array .int, .array .boolean, .int]
def t_Calls : Nat → FieldType := fun k => LT_Calls.getD k .int
set_option maxRecDepth 100000 in
theorem n_Calls : ∀ a, a < 10 → ∀ b, b < 10 → a ≠ b → (F_Calls a).2.1 ≠ (F_Calls b).2.1 := by decide +kernel
set_option maxRecDepth 100000 in
theorem t_Calls_ok : ∀ k, k < 10 → parseFieldDescriptor (F_Calls k).2.2.1 = some (t_Calls k) := by decide +kernel
set_option maxRecDepth 100000 in
theorem z_Calls : ∀ j, j < 10 → defaultValue (t_Calls j) = vp_V [.null, .int 0, .null, .int 0, .null, .null, .null, .null, .null, .int 0] j := by decide +kernel
def L_Meanings : List (String × String × String × Bool) := [("MacroMill$Meanings", "pool", "[B", true), ("MacroMill$Meanings", "poolUsed", "I", false), ("MacroMill$Meanings", "bucket", "[I", true), ("MacroMill$Meanings", "chain", "[I", true), ("MacroMill$Meanings", "free", "I", false), ("MacroMill$Meanings", "nameAt", "[I", true), ("MacroMill$Meanings", "nameLength", "[I", true), ("MacroMill$Meanings", "textLength", "[I", true), ("MacroMill$Meanings", "kind", "[I", true), ("MacroMill$Meanings", "defined", "I", false), ("MacroMill$Meanings", "definedBytes", "I", false)]
def F_Meanings : u_T := fun k => L_Meanings.getD k ("", "", "", false)
def LT_Meanings : List FieldType := [.array .byte, .int, .array .int, .array .int, .int, .array .int, .array .int, .array .int, .array .int, .int, .int]
def t_Meanings : Nat → FieldType := fun k => LT_Meanings.getD k .int
set_option maxRecDepth 100000 in
theorem n_Meanings : ∀ a, a < 11 → ∀ b, b < 11 → a ≠ b → (F_Meanings a).2.1 ≠ (F_Meanings b).2.1 := by decide +kernel
set_option maxRecDepth 100000 in
theorem t_Meanings_ok : ∀ k, k < 11 → parseFieldDescriptor (F_Meanings k).2.2.1 = some (t_Meanings k) := by decide +kernel
set_option maxRecDepth 100000 in
theorem z_Meanings : ∀ j, j < 11 → defaultValue (t_Meanings j) = vp_V [.null, .int 0, .null, .null, .int 0, .null, .null, .null, .null, .int 0, .int 0] j := by decide +kernel
def L_Second : List (String × String × String × Bool) := [("MacroMill$Second", "files", "LMacroMill$Files;", true), ("MacroMill$Second", "outcome", "LMacroMill$Outcome;", true), ("MacroMill$Second", "reckoner", "LMacroMill$Reckoner;", true), ("MacroMill$Second", "tokens", "LMacroMill$Tokens;", true), ("MacroMill$Second", "macros", "LMacroMill$Macros;", true), ("MacroMill$Second", "lines", "LMacroMill$Lines;", true), ("MacroMill$Second", "replacer", "LMacroMill$Replacer;", true), ("MacroMill$Second", "conditionLine", "[I", true), ("MacroMill$Second", "condition", "[I", true), ("MacroMill$Second", "conditions", "I", false), ("MacroMill$Second", "conditionsBefore", "[I", true), ("MacroMill$Second", "depthLimit", "I", false), ("MacroMill$Second", "from", "I", false), ("MacroMill$Second", "to", "I", false), ("MacroMill$Second", "line", "I", false), ("MacroMill$Second", "waiting", "I", false), ("MacroMill$Second", "waitingFirst", "I", false), ("MacroMill$Second", "parameterTokens", "[I", true), ("MacroMill$Second", "parameterCount", "I", false), ("MacroMill$Second", "takesMore", "Z", false), ("MacroMill$Second", "title", "[B", true), ("MacroMill$Second", "titleLength", "I", false)]
def F_Second : u_T := fun k => L_Second.getD k ("", "", "", false)
def LT_Second : List FieldType := [.object "MacroMill$Files", .object "MacroMill$Outcome", .object "MacroMill$Reckoner", .object "MacroMill$Tokens", .object "MacroMill$Macros", .object "MacroMill$Lines", .object "MacroMill$Replacer", .array .int, .array .int, .int, .array .int, .int, .int, .int, .int, .int, .int, .array .int, .int, .boolean, .array .byte, .int]
def t_Second : Nat → FieldType := fun k => LT_Second.getD k .int
set_option maxRecDepth 100000 in
theorem n_Second : ∀ a, a < 22 → ∀ b, b < 22 → a ≠ b → (F_Second a).2.1 ≠ (F_Second b).2.1 := by decide +kernel
set_option maxRecDepth 100000 in
theorem t_Second_ok : ∀ k, k < 22 → parseFieldDescriptor (F_Second k).2.2.1 = some (t_Second k) := by decide +kernel
set_option maxRecDepth 100000 in
theorem z_Second : ∀ j, j < 22 → defaultValue (t_Second j) = vp_V [.null, .null, .null, .null, .null, .null, .null, .null, .null, .int 0, .null, .int 0, .int 0, .int 0, .int 0, .int 0, .int 0, .null, .int 0, .int 0, .null, .int 0] j := by decide +kernel
def L_Tokens : List (String × String × String × Bool) := [("MacroMill$Tokens", "bytes", "[B", true), ("MacroMill$Tokens", "lines", "[C", true), ("MacroMill$Tokens", "made", "I", false), ("MacroMill$Tokens", "overfull", "Z", false), ("MacroMill$Tokens", "textEnd", "I", false), ("MacroMill$Tokens", "spelling", "[J", true), ("MacroMill$Tokens", "look", "[I", true), ("MacroMill$Tokens", "next", "[I", true), ("MacroMill$Tokens", "used", "I", false), ("MacroMill$Tokens", "scanned", "I", false)]
def F_Tokens : u_T := fun k => L_Tokens.getD k ("", "", "", false)
def LT_Tokens : List FieldType := [.array .byte, .array .char, .int, .boolean, .int, .array .long, .array .int, .array .int, .int, .int]
def t_Tokens : Nat → FieldType := fun k => LT_Tokens.getD k .int
set_option maxRecDepth 100000 in
theorem n_Tokens : ∀ a, a < 10 → ∀ b, b < 10 → a ≠ b → (F_Tokens a).2.1 ≠ (F_Tokens b).2.1 := by decide +kernel
set_option maxRecDepth 100000 in
theorem t_Tokens_ok : ∀ k, k < 10 → parseFieldDescriptor (F_Tokens k).2.2.1 = some (t_Tokens k) := by decide +kernel
set_option maxRecDepth 100000 in
theorem z_Tokens : ∀ j, j < 10 → defaultValue (t_Tokens j) = vp_V [.null, .null, .int 0, .int 0, .int 0, .null, .null, .null, .int 0, .int 0] j := by decide +kernel
def L_Macros : List (String × String × String × Bool) := [("MacroMill$Macros", "tokens", "LMacroMill$Tokens;", true), ("MacroMill$Macros", "name", "[J", true), ("MacroMill$Macros", "bucket", "[I", true), ("MacroMill$Macros", "chain", "[I", true), ("MacroMill$Macros", "names", "I", false), ("MacroMill$Macros", "there", "I", false), ("MacroMill$Macros", "parameters", "[I", true), ("MacroMill$Macros", "takesMore", "[Z", true), ("MacroMill$Macros", "start", "[I", true), ("MacroMill$Macros", "end", "[I", true), ("MacroMill$Macros", "spelling", "[J", true), ("MacroMill$Macros", "look", "[I", true), ("MacroMill$Macros", "used", "I", false), ("MacroMill$Macros", "bits", "[J", true), ("MacroMill$Macros", "setBucket", "[I", true), ("MacroMill$Macros", "setChain", "[I", true), ("MacroMill$Macros", "sets", "I", false), ("MacroMill$Macros", "common", "[J", true), ("MacroMill$Macros", "wanted", "[J", true)]
def F_Macros : u_T := fun k => L_Macros.getD k ("", "", "", false)
def LT_Macros : List FieldType := [.object "MacroMill$Tokens", .array .long, .array .int, .array .int, .int, .int, .array .int, .array .boolean, .array .int, .array .int, .array .long, .array .int, .int, .array .long, .array .int, .array .int, .int, .array .long, .array .long]
def t_Macros : Nat → FieldType := fun k => LT_Macros.getD k .int
set_option maxRecDepth 100000 in
theorem n_Macros : ∀ a, a < 19 → ∀ b, b < 19 → a ≠ b → (F_Macros a).2.1 ≠ (F_Macros b).2.1 := by decide +kernel
set_option maxRecDepth 100000 in
theorem t_Macros_ok : ∀ k, k < 19 → parseFieldDescriptor (F_Macros k).2.2.1 = some (t_Macros k) := by decide +kernel
set_option maxRecDepth 100000 in
theorem z_Macros : ∀ j, j < 19 → defaultValue (t_Macros j) = vp_V [.null, .null, .null, .null, .int 0, .int 0, .null, .null, .null, .null, .null, .null, .int 0, .null, .null, .null, .int 0, .null, .null] j := by decide +kernel
def L_Lines : List (String × String × String × Bool) := [("MacroMill$Lines", "files", "LMacroMill$Files;", true), ("MacroMill$Lines", "tokens", "LMacroMill$Tokens;", true), ("MacroMill$Lines", "outcome", "LMacroMill$Outcome;", true), ("MacroMill$Lines", "textFrom", "[I", true), ("MacroMill$Lines", "textTo", "[I", true), ("MacroMill$Lines", "rawLength", "[I", true), ("MacroMill$Lines", "file", "[I", true), ("MacroMill$Lines", "at", "[I", true), ("MacroMill$Lines", "shift", "[I", true), ("MacroMill$Lines", "titles", "[B", true), ("MacroMill$Lines", "titleLength", "[I", true), ("MacroMill$Lines", "depth", "I", false), ("MacroMill$Lines", "begun", "I", false), ("MacroMill$Lines", "begunBytes", "I", false), ("MacroMill$Lines", "lines", "I", false), ("MacroMill$Lines", "loneQuotes", "I", false), ("MacroMill$Lines", "row", "I", false), ("MacroMill$Lines", "count", "I", false), ("MacroMill$Lines", "lineBehind", "I", false)]
def F_Lines : u_T := fun k => L_Lines.getD k ("", "", "", false)
def LT_Lines : List FieldType := [.object "MacroMill$Files", .object "MacroMill$Tokens", .object "MacroMill$Outcome", .array .int, .array .int, .array .int, .array .int, .array .int, .array .int, .array .byte, .array .int, .int, .int, .int, .int, .int, .int, .int, .int]
def t_Lines : Nat → FieldType := fun k => LT_Lines.getD k .int
set_option maxRecDepth 100000 in
theorem n_Lines : ∀ a, a < 19 → ∀ b, b < 19 → a ≠ b → (F_Lines a).2.1 ≠ (F_Lines b).2.1 := by decide +kernel
set_option maxRecDepth 100000 in
theorem t_Lines_ok : ∀ k, k < 19 → parseFieldDescriptor (F_Lines k).2.2.1 = some (t_Lines k) := by decide +kernel
set_option maxRecDepth 100000 in
theorem z_Lines : ∀ j, j < 19 → defaultValue (t_Lines j) = vp_V [.null, .null, .null, .null, .null, .null, .null, .null, .null, .null, .null, .int 0, .int 0, .int 0, .int 0, .int 0, .int 0, .int 0, .int 0] j := by decide +kernel
def L_Replacer : List (String × String × String × Bool) := [("MacroMill$Replacer", "tokens", "LMacroMill$Tokens;", true), ("MacroMill$Replacer", "macros", "LMacroMill$Macros;", true), ("MacroMill$Replacer", "lines", "LMacroMill$Lines;", true), ("MacroMill$Replacer", "outcome", "LMacroMill$Outcome;", true), ("MacroMill$Replacer", "argumentFirst", "[I", true), ("MacroMill$Replacer", "argumentStop", "[I", true), ("MacroMill$Replacer", "keptFirst", "[I", true), ("MacroMill$Replacer", "keptLast", "[I", true), ("MacroMill$Replacer", "keptCount", "[I", true), ("MacroMill$Replacer", "keptSubstituted", "[I", true), ("MacroMill$Replacer", "keptMade", "[I", true), ("MacroMill$Replacer", "head", "[I", true), ("MacroMill$Replacer", "tail", "[I", true), ("MacroMill$Replacer", "count", "[I", true), ("MacroMill$Replacer", "printing", "Z", false), ("MacroMill$Replacer", "directiveLine", "I", false)]
def F_Replacer : u_T := fun k => L_Replacer.getD k ("", "", "", false)
def LT_Replacer : List FieldType := [.object "MacroMill$Tokens", .object "MacroMill$Macros", .object "MacroMill$Lines", .object "MacroMill$Outcome", .array .int, .array .int, .array .int, .array .int, .array .int, .array .int, .array .int, .array .int, .array .int, .array .int, .boolean, .int]
def t_Replacer : Nat → FieldType := fun k => LT_Replacer.getD k .int
set_option maxRecDepth 100000 in
theorem n_Replacer : ∀ a, a < 16 → ∀ b, b < 16 → a ≠ b → (F_Replacer a).2.1 ≠ (F_Replacer b).2.1 := by decide +kernel
set_option maxRecDepth 100000 in
theorem t_Replacer_ok : ∀ k, k < 16 → parseFieldDescriptor (F_Replacer k).2.2.1 = some (t_Replacer k) := by decide +kernel
set_option maxRecDepth 100000 in
theorem z_Replacer : ∀ j, j < 16 → defaultValue (t_Replacer j) = vp_V [.null, .null, .null, .null, .null, .null, .null, .null, .null, .null, .null, .null, .null, .null, .int 0, .int 0] j := by decide +kernel
def L_Mod : List (String × String × String × Bool) := [("MacroMillModel", "tape", "[B", true), ("MacroMillModel", "tapeSize", "I", false), ("MacroMillModel", "fed", "Z", false), ("MacroMillModel", "files", "I", false), ("MacroMillModel", "titles", "[B", true), ("MacroMillModel", "titleSize", "[I", true), ("MacroMillModel", "bytes", "[B", true), ("MacroMillModel", "at", "[I", true), ("MacroMillModel", "size", "[I", true), ("MacroMillModel", "allBytes", "I", false), ("MacroMillModel", "error", "I", false), ("MacroMillModel", "errorFile", "I", false), ("MacroMillModel", "errorLine", "I", false), ("MacroMillModel", "tokensRead", "I", false), ("MacroMillModel", "tokensOut", "I", false), ("MacroMillModel", "substituted", "I", false), ("MacroMillModel", "astray", "I", false), ("MacroMillModel", "out", "[B", true), ("MacroMillModel", "outSize", "I", false), ("MacroMillModel", "input", "[B", true), ("MacroMillModel", "inputAt", "I", false), ("MacroMillModel", "mainLeft", "I", false), ("MacroMillModel", "mainFile", "I", false), ("MacroMillModel", "line", "I", false), ("MacroMillModel", "fuel", "I", false), ("MacroMillModel", "open", "[I", true), ("MacroMillModel", "openSize", "I", false), ("MacroMillModel", "close", "[I", true), ("MacroMillModel", "closeSize", "I", false), ("MacroMillModel", "kind", "I", false), ("MacroMillModel", "token", "[B", true), ("MacroMillModel", "tokenSize", "I", false), ("MacroMillModel", "given", "[B", true), ("MacroMillModel", "givenSize", "I", false), ("MacroMillModel", "meanings", "I", false), ("MacroMillModel", "meaningAt", "[I", true), ("MacroMillModel", "meaningName", "[I", true), ("MacroMillModel", "meaningText", "[I", true), ("MacroMillModel", "builtIn", "[I", true), ("MacroMillModel", "texts", "[B", true), ("MacroMillModel", "textsSize", "I", false), ("MacroMillModel", "defined", "I", false), ("MacroMillModel", "definedBytes", "I", false), ("MacroMillModel", "diverted", "[B", true), ("MacroMillModel", "divertedSize", "[I", true), ("MacroMillModel", "divertedAll", "I", false), ("MacroMillModel", "current", "I", false), ("MacroMillModel", "calls", "I", false), ("MacroMillModel", "arguments", "[B", true), ("MacroMillModel", "argumentsSize", "I", false), ("MacroMillModel", "starts", "I", false), ("MacroMillModel", "start", "[I", true), ("MacroMillModel", "place", "I", false), ("MacroMillModel", "stop", "I", false), ("MacroMillModel", "wrong", "Z", false), ("MacroMillModel", "divided", "Z", false), ("MacroMillModel", "nested", "I", false), ("MacroMillModel", "waiting", "I", false), ("MacroMillModel", "waitingSign", "[I", true), ("MacroMillModel", "waitingValue", "[I", true), ("MacroMillModel", "store", "[B", true), ("MacroMillModel", "lineOf", "[I", true), ("MacroMillModel", "sourceAt", "[I", true), ("MacroMillModel", "sourceSize", "[I", true), ("MacroMillModel", "stored", "I", false), ("MacroMillModel", "made", "I", false), ("MacroMillModel", "counted", "I", false), ("MacroMillModel", "cells", "I", false), ("MacroMillModel", "cellAt", "[I", true), ("MacroMillModel", "cellSize", "[I", true), ("MacroMillModel", "cellLine", "[I", true), ("MacroMillModel", "cellSet", "[I", true), ("MacroMillModel", "cellNext", "[I", true), ("MacroMillModel", "isBefore", "[Z", true), ("MacroMillModel", "isFirst", "[Z", true), ("MacroMillModel", "names", "I", false), ("MacroMillModel", "nameAt", "[I", true), ("MacroMillModel", "nameLength", "[I", true), ("MacroMillModel", "isMacro", "[Z", true), ("MacroMillModel", "parameterCount", "[I", true), ("MacroMillModel", "takesRest", "[Z", true), ("MacroMillModel", "parameterAt", "[I", true), ("MacroMillModel", "parameterSize", "[I", true), ("MacroMillModel", "bodyCells", "I", false), ("MacroMillModel", "bodyAt", "[I", true), ("MacroMillModel", "bodySize", "[I", true), ("MacroMillModel", "bodyBefore", "[Z", true), ("MacroMillModel", "bodyFrom", "[I", true), ("MacroMillModel", "bodyCount", "[I", true), ("MacroMillModel", "sets", "I", false), ("MacroMillModel", "members", "[J", true), ("MacroMillModel", "some", "[J", true), ("MacroMillModel", "deep", "I", false), ("MacroMillModel", "mostDeep", "I", false), ("MacroMillModel", "fileOf", "[I", true), ("MacroMillModel", "shiftOf", "[I", true), ("MacroMillModel", "titleAt", "[I", true), ("MacroMillModel", "titleLength", "[I", true), ("MacroMillModel", "lines", "I", false), ("MacroMillModel", "hide", "[J", true), ("MacroMillModel", "argumentFrom", "[I", true), ("MacroMillModel", "argumentEnd", "[I", true), ("MacroMillModel", "listed", "I", false), ("MacroMillModel", "headOf", "[I", true), ("MacroMillModel", "tailOf", "[I", true), ("MacroMillModel", "madeHead", "[I", true), ("MacroMillModel", "madeTail", "[I", true), ("MacroMillModel", "placeOf", "[I", true), ("MacroMillModel", "lineHead", "I", false), ("MacroMillModel", "lineTail", "I", false), ("MacroMillModel", "lineCount", "I", false), ("MacroMillModel", "noEnds", "I", false), ("MacroMillModel", "rowHead", "I", false), ("MacroMillModel", "rowTail", "I", false), ("MacroMillModel", "rowCount", "I", false), ("MacroMillModel", "ifs", "I", false), ("MacroMillModel", "ifLine", "[I", true), ("MacroMillModel", "outside", "[Z", true), ("MacroMillModel", "done", "[Z", true), ("MacroMillModel", "counts", "[Z", true), ("MacroMillModel", "hasElse", "[Z", true), ("MacroMillModel", "hashLine", "I", false), ("MacroMillModel", "newCount", "I", false), ("MacroMillModel", "newRest", "Z", false), ("MacroMillModel", "newAt", "[I", true), ("MacroMillModel", "newSize", "[I", true), ("MacroMillModel", "newBody", "I", false), ("MacroMillModel", "restAt", "I", false), ("MacroMillModel", "wanted", "[B", true), ("MacroMillModel", "wantedSize", "I", false), ("MacroMillModel", "begun", "I", false), ("MacroMillModel", "begunBytes", "I", false), ("MacroMillModel", "mainFileNow", "I", false), ("MacroMillModel", "mainSize", "I", false), ("MacroMillModel", "look", "I", false), ("MacroMillModel", "bad", "Z", false), ("MacroMillModel", "byZero", "Z", false), ("MacroMillModel", "inner", "I", false), ("MacroMillModel", "plain", "Z", false), ("MacroMillModel", "held", "I", false), ("MacroMillModel", "heldSign", "[I", true), ("MacroMillModel", "heldValue", "[J", true), ("MacroMillModel", "heldPlain", "[Z", true), ("MacroMillModel", "first", "[B", true)]
def F_Mod : u_T := fun k => L_Mod.getD k ("", "", "", false)
def LT_Mod : List FieldType := [.array .byte, .int, .boolean, .int, .array .byte, .array .int, .array .byte, .array .int, .array .int, .int, .int, .int, .int, .int, .int, .int, .int, .array .byte, .int, .array .byte, .int, .int, .int, .int, .int, .array .int, .int, .array .int, .int, .int, .array .byte, .int, .array .byte, .int, .int, .array .int, .array .int, .array .int, .array .int, .array .byte, .int, .int, .int, .array .byte, .array .int, .int, .int, .int, .array .byte, .int, .int, .array .int, .int, .int, .boolean, .boolean, .int, .int, .array .int, .array .int, .array .byte, .array .int, .array .int, .array .int, .int, .int, .int, .int, .array .int, .array .int, .array .int, .array .int, .array .int, .array .boolean, .array .boolean, .int, .array .int, .array .int, .array .boolean, .array .int, .array .boolean, .array .int, .array .int, .int, .array .int, .array .int, .array .boolean, .array .int, .array .int, .int, .array .long, .array .long, .int, .int, .array .int, .array .int, .array .int, .array .int, .int, .array .long, .array .int, .array .int, .int, .array .int, .array .int, .array .int, .array .int, .array .int, .int, .int, .int, .int, .int, .int, .int, .int, .array .int, .array .boolean, .array .boolean, .array .boolean, .array .boolean, .int, .int, .boolean, .array .int, .array .int, .int, .int, .array .byte, .int, .int, .int, .int, .int, .int, .boolean, .boolean, .int, .boolean, .int, .array .int, .array .long, .array .boolean, .array .byte]
def t_Mod : Nat → FieldType := fun k => LT_Mod.getD k .int
set_option maxRecDepth 100000 in
theorem n_Mod : ∀ a, a < 144 → ∀ b, b < 144 → a ≠ b → (F_Mod a).2.1 ≠ (F_Mod b).2.1 := by decide +kernel
set_option maxRecDepth 100000 in
theorem t_Mod_ok : ∀ k, k < 144 → parseFieldDescriptor (F_Mod k).2.2.1 = some (t_Mod k) := by decide +kernel
set_option maxRecDepth 100000 in
theorem z_Mod : ∀ j, j < 144 → defaultValue (t_Mod j) = vp_V [.null, .int 0, .int 0, .int 0, .null, .null, .null, .null, .null, .int 0, .int 0, .int 0, .int 0, .int 0, .int 0, .int 0, .int 0, .null, .int 0, .null, .int 0, .int 0, .int 0, .int 0, .int 0, .null, .int 0, .null, .int 0, .int 0, .null, .int 0, .null, .int 0, .int 0, .null, .null, .null, .null, .null, .int 0, .int 0, .int 0, .null, .null, .int 0, .int 0, .int 0, .null, .int 0, .int 0, .null, .int 0, .int 0, .int 0, .int 0, .int 0, .int 0, .null, .null, .null, .null, .null, .null, .int 0, .int 0, .int 0, .int 0, .null, .null, .null, .null, .null, .null, .null, .int 0, .null, .null, .null, .null, .null, .null, .null, .int 0, .null, .null, .null, .null, .null, .int 0, .null, .null, .int 0, .int 0, .null, .null, .null, .null, .int 0, .null, .null, .null, .int 0, .null, .null, .null, .null, .null, .int 0, .int 0, .int 0, .int 0, .int 0, .int 0, .int 0, .int 0, .null, .null, .null, .null, .null, .int 0, .int 0, .int 0, .null, .null, .int 0, .int 0, .null, .int 0, .int 0, .int 0, .int 0, .int 0, .int 0, .int 0, .int 0, .int 0, .int 0, .int 0, .null, .null, .null, .null] j := by decide +kernel
abbrev classes : List vw_C := [("MacroMill", F_MM, 7), ("MacroMill$Files", F_Files, 5), ("MacroMill$Outcome", F_Outcome, 10), ("MacroMill$Reckoner", F_Reckoner, 13), ("MacroMill$First", F_First, 15), ("MacroMill$Input", F_Input, 12), ("MacroMill$Calls", F_Calls, 10), ("MacroMill$Meanings", F_Meanings, 11), ("MacroMill$Second", F_Second, 22), ("MacroMill$Tokens", F_Tokens, 10), ("MacroMill$Macros", F_Macros, 19), ("MacroMill$Lines", F_Lines, 19), ("MacroMill$Replacer", F_Replacer, 16), ("MacroMillModel", F_Mod, 144)]
abbrev y_Arrays_fill : MethodName := ⟨"java/util/Arrays", "fill", "([II)V"⟩
abbrev b_Arrays_fill : ByteArray := prog_23_method_103_code
abbrev y_Calls_init : MethodName := ⟨"MacroMill$Calls", "<init>", "()V"⟩
abbrev b_Calls_init : ByteArray := prog_2_method_1_code
abbrev y_Files_init : MethodName := ⟨"MacroMill$Files", "<init>", "()V"⟩
abbrev b_Files_init : ByteArray := prog_3_method_1_code
abbrev y_First_init : MethodName := ⟨"MacroMill$First", "<init>", "(LMacroMill$Outcome;LMacroMill$Reckoner;)V"⟩
abbrev b_First_init : ByteArray := prog_4_method_1_code
abbrev y_Input_init : MethodName := ⟨"MacroMill$Input", "<init>", "(LMacroMill$Outcome;)V"⟩
abbrev b_Input_init : ByteArray := prog_5_method_1_code
abbrev y_Law_law : MethodName := ⟨"MacroMillLaw", "law", "([I)Z"⟩
abbrev b_Law_law : ByteArray := code
abbrev y_Lines_clearAll : MethodName := ⟨"MacroMill$Lines", "clearAll", "()V"⟩
abbrev b_Lines_clearAll : ByteArray := prog_6_method_2_code
abbrev y_Lines_init : MethodName := ⟨"MacroMill$Lines", "<init>", "(LMacroMill$Files;LMacroMill$Tokens;LMacroMill$Outcome;)V"⟩
abbrev b_Lines_init : ByteArray := prog_6_method_1_code
abbrev y_MM_astray : MethodName := ⟨"MacroMill", "astray", "()I"⟩
abbrev b_MM_astray : ByteArray := prog_1_method_12_code
abbrev y_MM_clear : MethodName := ⟨"MacroMill", "clear", "()I"⟩
abbrev b_MM_clear : ByteArray := prog_1_method_6_code
abbrev y_MM_end : MethodName := ⟨"MacroMill", "end", "(I)I"⟩
abbrev b_MM_end : ByteArray := prog_1_method_3_code
abbrev y_MM_feed : MethodName := ⟨"MacroMill", "feed", "(IIIII)I"⟩
abbrev b_MM_feed : ByteArray := prog_1_method_2_code
abbrev y_MM_file : MethodName := ⟨"MacroMill", "file", "(I)I"⟩
abbrev b_MM_file : ByteArray := prog_1_method_4_code
abbrev y_MM_hashOf : MethodName := ⟨"MacroMill", "hashOf", "([BII)I"⟩
abbrev b_MM_hashOf : ByteArray := prog_1_method_19_code
abbrev y_MM_init : MethodName := ⟨"MacroMill", "<init>", "()V"⟩
abbrev b_MM_init : ByteArray := prog_1_method_1_code
abbrev y_MM_layNumber : MethodName := ⟨"MacroMill", "layNumber", "(I)V"⟩
abbrev b_MM_layNumber : ByteArray := prog_1_method_13_code
abbrev y_MM_parameters : MethodName := ⟨"MacroMill", "parameters", "()I"⟩
abbrev b_MM_parameters : ByteArray := prog_1_method_11_code
abbrev y_MM_run : MethodName := ⟨"MacroMill", "run", "(IIII)I"⟩
abbrev b_MM_run : ByteArray := prog_1_method_7_code
abbrev y_MM_size : MethodName := ⟨"MacroMill", "size", "()I"⟩
abbrev b_MM_size : ByteArray := prog_1_method_9_code
abbrev y_MM_told : MethodName := ⟨"MacroMill", "told", "(I)I"⟩
abbrev b_MM_told : ByteArray := prog_1_method_8_code
abbrev y_MM_useTape : MethodName := ⟨"MacroMill", "useTape", "()I"⟩
abbrev b_MM_useTape : ByteArray := prog_1_method_14_code
abbrev y_MM_word : MethodName := ⟨"MacroMill", "word", "(I)J"⟩
abbrev b_MM_word : ByteArray := prog_1_method_10_code
abbrev y_MM_write : MethodName := ⟨"MacroMill", "write", "(I)I"⟩
abbrev b_MM_write : ByteArray := prog_1_method_5_code
abbrev y_Macros_clearAll : MethodName := ⟨"MacroMill$Macros", "clearAll", "()V"⟩
abbrev b_Macros_clearAll : ByteArray := prog_7_method_2_code
abbrev y_Macros_find : MethodName := ⟨"MacroMill$Macros", "find", "([BII)I"⟩
abbrev b_Macros_find : ByteArray := prog_7_method_3_code
abbrev y_Macros_init : MethodName := ⟨"MacroMill$Macros", "<init>", "(LMacroMill$Tokens;)V"⟩
abbrev b_Macros_init : ByteArray := prog_7_method_1_code
abbrev y_Meanings_init : MethodName := ⟨"MacroMill$Meanings", "<init>", "()V"⟩
abbrev b_Meanings_init : ByteArray := prog_8_method_1_code
abbrev y_Mod_astray : MethodName := ⟨"MacroMillModel", "astray", "()I"⟩
abbrev b_Mod_astray : ByteArray := prog_15_method_158_code
abbrev y_Mod_clear : MethodName := ⟨"MacroMillModel", "clear", "()I"⟩
abbrev b_Mod_clear : ByteArray := prog_15_method_9_code
abbrev y_Mod_end : MethodName := ⟨"MacroMillModel", "end", "(I)I"⟩
abbrev b_Mod_end : ByteArray := prog_15_method_4_code
abbrev y_Mod_feed : MethodName := ⟨"MacroMillModel", "feed", "(IIIII)I"⟩
abbrev b_Mod_feed : ByteArray := prog_15_method_3_code
abbrev y_Mod_feedInt : MethodName := ⟨"MacroMillModel", "feedInt", "(I)V"⟩
abbrev b_Mod_feedInt : ByteArray := prog_15_method_2_code
abbrev y_Mod_file : MethodName := ⟨"MacroMillModel", "file", "(I)I"⟩
abbrev b_Mod_file : ByteArray := prog_15_method_7_code
abbrev y_Mod_init : MethodName := ⟨"MacroMillModel", "<init>", "()V"⟩
abbrev b_Mod_init : ByteArray := prog_15_method_1_code
abbrev y_Mod_parameters : MethodName := ⟨"MacroMillModel", "parameters", "()I"⟩
abbrev b_Mod_parameters : ByteArray := prog_15_method_157_code
abbrev y_Mod_run : MethodName := ⟨"MacroMillModel", "run", "(IIII)I"⟩
abbrev b_Mod_run : ByteArray := prog_15_method_151_code
abbrev y_Mod_size : MethodName := ⟨"MacroMillModel", "size", "()I"⟩
abbrev b_Mod_size : ByteArray := prog_15_method_155_code
abbrev y_Mod_told : MethodName := ⟨"MacroMillModel", "told", "(I)I"⟩
abbrev b_Mod_told : ByteArray := prog_15_method_154_code
abbrev y_Mod_use : MethodName := ⟨"MacroMillModel", "use", "()I"⟩
abbrev b_Mod_use : ByteArray := prog_15_method_5_code
abbrev y_Mod_word : MethodName := ⟨"MacroMillModel", "word", "(I)J"⟩
abbrev b_Mod_word : ByteArray := prog_15_method_156_code
abbrev y_Mod_write : MethodName := ⟨"MacroMillModel", "write", "(I)I"⟩
abbrev b_Mod_write : ByteArray := prog_15_method_8_code
abbrev y_Outcome_init : MethodName := ⟨"MacroMill$Outcome", "<init>", "()V"⟩
abbrev b_Outcome_init : ByteArray := prog_9_method_1_code
abbrev y_Reckoner_init : MethodName := ⟨"MacroMill$Reckoner", "<init>", "()V"⟩
abbrev b_Reckoner_init : ByteArray := prog_10_method_1_code
abbrev y_Replacer_init : MethodName := ⟨"MacroMill$Replacer", "<init>", "(LMacroMill$Tokens;LMacroMill$Macros;LMacroMill$Lines;LMacroMill$Outcome;)V"⟩
abbrev b_Replacer_init : ByteArray := prog_11_method_1_code
abbrev y_Second_forget : MethodName := ⟨"MacroMill$Second", "forget", "()V"⟩
abbrev b_Second_forget : ByteArray := prog_12_method_2_code
abbrev y_Second_init : MethodName := ⟨"MacroMill$Second", "<init>", "(LMacroMill$Files;LMacroMill$Outcome;LMacroMill$Reckoner;)V"⟩
abbrev b_Second_init : ByteArray := prog_12_method_1_code
abbrev y_Tokens_clearAll : MethodName := ⟨"MacroMill$Tokens", "clearAll", "()V"⟩
abbrev b_Tokens_clearAll : ByteArray := prog_13_method_2_code
abbrev y_Tokens_init : MethodName := ⟨"MacroMill$Tokens", "<init>", "()V"⟩
abbrev b_Tokens_init : ByteArray := prog_13_method_1_code
theorem hd_MM_init : y_MM_init.cls ≠ "java/lang/invoke/MethodHandle" ∧ y_MM_init.cls ≠ "java/lang/invoke/VarHandle" ∧ (parseMethodDescriptor y_MM_init.desc).map (fun d => d.parameters.length) = some 0 := by decide +kernel
theorem hd_MM_astray : y_MM_astray.cls ≠ "java/lang/invoke/MethodHandle" ∧ y_MM_astray.cls ≠ "java/lang/invoke/VarHandle" ∧ (parseMethodDescriptor y_MM_astray.desc).map (fun d => d.parameters.length) = some 0 := by decide +kernel
theorem hd_MM_clear : y_MM_clear.cls ≠ "java/lang/invoke/MethodHandle" ∧ y_MM_clear.cls ≠ "java/lang/invoke/VarHandle" ∧ (parseMethodDescriptor y_MM_clear.desc).map (fun d => d.parameters.length) = some 0 := by decide +kernel
theorem hd_MM_end : y_MM_end.cls ≠ "java/lang/invoke/MethodHandle" ∧ y_MM_end.cls ≠ "java/lang/invoke/VarHandle" ∧ (parseMethodDescriptor y_MM_end.desc).map (fun d => d.parameters.length) = some 1 := by decide +kernel
theorem hd_MM_feed : y_MM_feed.cls ≠ "java/lang/invoke/MethodHandle" ∧ y_MM_feed.cls ≠ "java/lang/invoke/VarHandle" ∧ (parseMethodDescriptor y_MM_feed.desc).map (fun d => d.parameters.length) = some 5 := by decide +kernel
theorem hd_MM_file : y_MM_file.cls ≠ "java/lang/invoke/MethodHandle" ∧ y_MM_file.cls ≠ "java/lang/invoke/VarHandle" ∧ (parseMethodDescriptor y_MM_file.desc).map (fun d => d.parameters.length) = some 1 := by decide +kernel
theorem hd_MM_hashOf : y_MM_hashOf.cls ≠ "java/lang/invoke/MethodHandle" ∧ y_MM_hashOf.cls ≠ "java/lang/invoke/VarHandle" ∧ (parseMethodDescriptor y_MM_hashOf.desc).map (fun d => d.parameters.length) = some 3 := by decide +kernel
theorem hd_MM_layNumber : y_MM_layNumber.cls ≠ "java/lang/invoke/MethodHandle" ∧ y_MM_layNumber.cls ≠ "java/lang/invoke/VarHandle" ∧ (parseMethodDescriptor y_MM_layNumber.desc).map (fun d => d.parameters.length) = some 1 := by decide +kernel
theorem hd_MM_parameters : y_MM_parameters.cls ≠ "java/lang/invoke/MethodHandle" ∧ y_MM_parameters.cls ≠ "java/lang/invoke/VarHandle" ∧ (parseMethodDescriptor y_MM_parameters.desc).map (fun d => d.parameters.length) = some 0 := by decide +kernel
theorem hd_MM_run : y_MM_run.cls ≠ "java/lang/invoke/MethodHandle" ∧ y_MM_run.cls ≠ "java/lang/invoke/VarHandle" ∧ (parseMethodDescriptor y_MM_run.desc).map (fun d => d.parameters.length) = some 4 := by decide +kernel
theorem hd_MM_size : y_MM_size.cls ≠ "java/lang/invoke/MethodHandle" ∧ y_MM_size.cls ≠ "java/lang/invoke/VarHandle" ∧ (parseMethodDescriptor y_MM_size.desc).map (fun d => d.parameters.length) = some 0 := by decide +kernel
theorem hd_MM_told : y_MM_told.cls ≠ "java/lang/invoke/MethodHandle" ∧ y_MM_told.cls ≠ "java/lang/invoke/VarHandle" ∧ (parseMethodDescriptor y_MM_told.desc).map (fun d => d.parameters.length) = some 1 := by decide +kernel
theorem hd_MM_useTape : y_MM_useTape.cls ≠ "java/lang/invoke/MethodHandle" ∧ y_MM_useTape.cls ≠ "java/lang/invoke/VarHandle" ∧ (parseMethodDescriptor y_MM_useTape.desc).map (fun d => d.parameters.length) = some 0 := by decide +kernel
theorem hd_MM_word : y_MM_word.cls ≠ "java/lang/invoke/MethodHandle" ∧ y_MM_word.cls ≠ "java/lang/invoke/VarHandle" ∧ (parseMethodDescriptor y_MM_word.desc).map (fun d => d.parameters.length) = some 1 := by decide +kernel
theorem hd_MM_write : y_MM_write.cls ≠ "java/lang/invoke/MethodHandle" ∧ y_MM_write.cls ≠ "java/lang/invoke/VarHandle" ∧ (parseMethodDescriptor y_MM_write.desc).map (fun d => d.parameters.length) = some 1 := by decide +kernel
theorem hd_Calls_init : y_Calls_init.cls ≠ "java/lang/invoke/MethodHandle" ∧ y_Calls_init.cls ≠ "java/lang/invoke/VarHandle" ∧ (parseMethodDescriptor y_Calls_init.desc).map (fun d => d.parameters.length) = some 0 := by decide +kernel
theorem hd_Files_init : y_Files_init.cls ≠ "java/lang/invoke/MethodHandle" ∧ y_Files_init.cls ≠ "java/lang/invoke/VarHandle" ∧ (parseMethodDescriptor y_Files_init.desc).map (fun d => d.parameters.length) = some 0 := by decide +kernel
theorem hd_First_init : y_First_init.cls ≠ "java/lang/invoke/MethodHandle" ∧ y_First_init.cls ≠ "java/lang/invoke/VarHandle" ∧ (parseMethodDescriptor y_First_init.desc).map (fun d => d.parameters.length) = some 2 := by decide +kernel
theorem hd_Input_init : y_Input_init.cls ≠ "java/lang/invoke/MethodHandle" ∧ y_Input_init.cls ≠ "java/lang/invoke/VarHandle" ∧ (parseMethodDescriptor y_Input_init.desc).map (fun d => d.parameters.length) = some 1 := by decide +kernel
theorem hd_Lines_init : y_Lines_init.cls ≠ "java/lang/invoke/MethodHandle" ∧ y_Lines_init.cls ≠ "java/lang/invoke/VarHandle" ∧ (parseMethodDescriptor y_Lines_init.desc).map (fun d => d.parameters.length) = some 3 := by decide +kernel
theorem hd_Lines_clearAll : y_Lines_clearAll.cls ≠ "java/lang/invoke/MethodHandle" ∧ y_Lines_clearAll.cls ≠ "java/lang/invoke/VarHandle" ∧ (parseMethodDescriptor y_Lines_clearAll.desc).map (fun d => d.parameters.length) = some 0 := by decide +kernel
theorem hd_Macros_init : y_Macros_init.cls ≠ "java/lang/invoke/MethodHandle" ∧ y_Macros_init.cls ≠ "java/lang/invoke/VarHandle" ∧ (parseMethodDescriptor y_Macros_init.desc).map (fun d => d.parameters.length) = some 1 := by decide +kernel
theorem hd_Macros_clearAll : y_Macros_clearAll.cls ≠ "java/lang/invoke/MethodHandle" ∧ y_Macros_clearAll.cls ≠ "java/lang/invoke/VarHandle" ∧ (parseMethodDescriptor y_Macros_clearAll.desc).map (fun d => d.parameters.length) = some 0 := by decide +kernel
theorem hd_Macros_find : y_Macros_find.cls ≠ "java/lang/invoke/MethodHandle" ∧ y_Macros_find.cls ≠ "java/lang/invoke/VarHandle" ∧ (parseMethodDescriptor y_Macros_find.desc).map (fun d => d.parameters.length) = some 3 := by decide +kernel
theorem hd_Meanings_init : y_Meanings_init.cls ≠ "java/lang/invoke/MethodHandle" ∧ y_Meanings_init.cls ≠ "java/lang/invoke/VarHandle" ∧ (parseMethodDescriptor y_Meanings_init.desc).map (fun d => d.parameters.length) = some 0 := by decide +kernel
theorem hd_Outcome_init : y_Outcome_init.cls ≠ "java/lang/invoke/MethodHandle" ∧ y_Outcome_init.cls ≠ "java/lang/invoke/VarHandle" ∧ (parseMethodDescriptor y_Outcome_init.desc).map (fun d => d.parameters.length) = some 0 := by decide +kernel
theorem hd_Reckoner_init : y_Reckoner_init.cls ≠ "java/lang/invoke/MethodHandle" ∧ y_Reckoner_init.cls ≠ "java/lang/invoke/VarHandle" ∧ (parseMethodDescriptor y_Reckoner_init.desc).map (fun d => d.parameters.length) = some 0 := by decide +kernel
theorem hd_Replacer_init : y_Replacer_init.cls ≠ "java/lang/invoke/MethodHandle" ∧ y_Replacer_init.cls ≠ "java/lang/invoke/VarHandle" ∧ (parseMethodDescriptor y_Replacer_init.desc).map (fun d => d.parameters.length) = some 4 := by decide +kernel
theorem hd_Second_init : y_Second_init.cls ≠ "java/lang/invoke/MethodHandle" ∧ y_Second_init.cls ≠ "java/lang/invoke/VarHandle" ∧ (parseMethodDescriptor y_Second_init.desc).map (fun d => d.parameters.length) = some 3 := by decide +kernel
theorem hd_Second_forget : y_Second_forget.cls ≠ "java/lang/invoke/MethodHandle" ∧ y_Second_forget.cls ≠ "java/lang/invoke/VarHandle" ∧ (parseMethodDescriptor y_Second_forget.desc).map (fun d => d.parameters.length) = some 0 := by decide +kernel
theorem hd_Tokens_init : y_Tokens_init.cls ≠ "java/lang/invoke/MethodHandle" ∧ y_Tokens_init.cls ≠ "java/lang/invoke/VarHandle" ∧ (parseMethodDescriptor y_Tokens_init.desc).map (fun d => d.parameters.length) = some 0 := by decide +kernel
theorem hd_Tokens_clearAll : y_Tokens_clearAll.cls ≠ "java/lang/invoke/MethodHandle" ∧ y_Tokens_clearAll.cls ≠ "java/lang/invoke/VarHandle" ∧ (parseMethodDescriptor y_Tokens_clearAll.desc).map (fun d => d.parameters.length) = some 0 := by decide +kernel
theorem hd_Mod_init : y_Mod_init.cls ≠ "java/lang/invoke/MethodHandle" ∧ y_Mod_init.cls ≠ "java/lang/invoke/VarHandle" ∧ (parseMethodDescriptor y_Mod_init.desc).map (fun d => d.parameters.length) = some 0 := by decide +kernel
theorem hd_Mod_astray : y_Mod_astray.cls ≠ "java/lang/invoke/MethodHandle" ∧ y_Mod_astray.cls ≠ "java/lang/invoke/VarHandle" ∧ (parseMethodDescriptor y_Mod_astray.desc).map (fun d => d.parameters.length) = some 0 := by decide +kernel
theorem hd_Mod_clear : y_Mod_clear.cls ≠ "java/lang/invoke/MethodHandle" ∧ y_Mod_clear.cls ≠ "java/lang/invoke/VarHandle" ∧ (parseMethodDescriptor y_Mod_clear.desc).map (fun d => d.parameters.length) = some 0 := by decide +kernel
theorem hd_Mod_end : y_Mod_end.cls ≠ "java/lang/invoke/MethodHandle" ∧ y_Mod_end.cls ≠ "java/lang/invoke/VarHandle" ∧ (parseMethodDescriptor y_Mod_end.desc).map (fun d => d.parameters.length) = some 1 := by decide +kernel
theorem hd_Mod_feed : y_Mod_feed.cls ≠ "java/lang/invoke/MethodHandle" ∧ y_Mod_feed.cls ≠ "java/lang/invoke/VarHandle" ∧ (parseMethodDescriptor y_Mod_feed.desc).map (fun d => d.parameters.length) = some 5 := by decide +kernel
theorem hd_Mod_feedInt : y_Mod_feedInt.cls ≠ "java/lang/invoke/MethodHandle" ∧ y_Mod_feedInt.cls ≠ "java/lang/invoke/VarHandle" ∧ (parseMethodDescriptor y_Mod_feedInt.desc).map (fun d => d.parameters.length) = some 1 := by decide +kernel
theorem hd_Mod_file : y_Mod_file.cls ≠ "java/lang/invoke/MethodHandle" ∧ y_Mod_file.cls ≠ "java/lang/invoke/VarHandle" ∧ (parseMethodDescriptor y_Mod_file.desc).map (fun d => d.parameters.length) = some 1 := by decide +kernel
theorem hd_Mod_parameters : y_Mod_parameters.cls ≠ "java/lang/invoke/MethodHandle" ∧ y_Mod_parameters.cls ≠ "java/lang/invoke/VarHandle" ∧ (parseMethodDescriptor y_Mod_parameters.desc).map (fun d => d.parameters.length) = some 0 := by decide +kernel
theorem hd_Mod_run : y_Mod_run.cls ≠ "java/lang/invoke/MethodHandle" ∧ y_Mod_run.cls ≠ "java/lang/invoke/VarHandle" ∧ (parseMethodDescriptor y_Mod_run.desc).map (fun d => d.parameters.length) = some 4 := by decide +kernel
theorem hd_Mod_size : y_Mod_size.cls ≠ "java/lang/invoke/MethodHandle" ∧ y_Mod_size.cls ≠ "java/lang/invoke/VarHandle" ∧ (parseMethodDescriptor y_Mod_size.desc).map (fun d => d.parameters.length) = some 0 := by decide +kernel
theorem hd_Mod_told : y_Mod_told.cls ≠ "java/lang/invoke/MethodHandle" ∧ y_Mod_told.cls ≠ "java/lang/invoke/VarHandle" ∧ (parseMethodDescriptor y_Mod_told.desc).map (fun d => d.parameters.length) = some 1 := by decide +kernel
theorem hd_Mod_use : y_Mod_use.cls ≠ "java/lang/invoke/MethodHandle" ∧ y_Mod_use.cls ≠ "java/lang/invoke/VarHandle" ∧ (parseMethodDescriptor y_Mod_use.desc).map (fun d => d.parameters.length) = some 0 := by decide +kernel
theorem hd_Mod_word : y_Mod_word.cls ≠ "java/lang/invoke/MethodHandle" ∧ y_Mod_word.cls ≠ "java/lang/invoke/VarHandle" ∧ (parseMethodDescriptor y_Mod_word.desc).map (fun d => d.parameters.length) = some 1 := by decide +kernel
theorem hd_Mod_write : y_Mod_write.cls ≠ "java/lang/invoke/MethodHandle" ∧ y_Mod_write.cls ≠ "java/lang/invoke/VarHandle" ∧ (parseMethodDescriptor y_Mod_write.desc).map (fun d => d.parameters.length) = some 1 := by decide +kernel
theorem hd_Arrays_fill : y_Arrays_fill.cls ≠ "java/lang/invoke/MethodHandle" ∧ y_Arrays_fill.cls ≠ "java/lang/invoke/VarHandle" ∧ (parseMethodDescriptor y_Arrays_fill.desc).map (fun d => d.parameters.length) = some 2 := by decide +kernel
end
section
def gt : List Cond := lw_tbl.filter goodWord
def mw (y : MethodName) (b : ByteArray) (n : Nat) (r : Option FieldType) : List Cond := Cond.code y b n r :: gt
theorem i_tables_1_1 : ∀ w ∈ tables_1_1, w ∈ lw_tbl := fun _ h => List.mem_append_right _ (List.mem_append_left _ h)
theorem i_tables_1_2 : ∀ w ∈ tables_1_2, w ∈ lw_tbl := fun _ h => List.mem_append_right _ (List.mem_append_right _ (List.mem_append_left _ h))
theorem i_tables_1_3 : ∀ w ∈ tables_1_3, w ∈ lw_tbl := fun _ h => List.mem_append_right _ (List.mem_append_right _ (List.mem_append_right _ (List.mem_append_left _ h)))
theorem i_tables_1_4 : ∀ w ∈ tables_1_4, w ∈ lw_tbl := fun _ h => List.mem_append_right _ (List.mem_append_right _ (List.mem_append_right _ (List.mem_append_right _ (List.mem_append_left _ h))))
theorem i_tables_1_5 : ∀ w ∈ tables_1_5, w ∈ lw_tbl := fun _ h => List.mem_append_right _ (List.mem_append_right _ (List.mem_append_right _ (List.mem_append_right _ (List.mem_append_right _ (List.mem_append_left _ h)))))
theorem i_tables_1_6 : ∀ w ∈ tables_1_6, w ∈ lw_tbl := fun _ h => List.mem_append_right _ (List.mem_append_right _ (List.mem_append_right _ (List.mem_append_right _ (List.mem_append_right _ (List.mem_append_right _ (List.mem_append_left _ h))))))
theorem i_tables_1_7 : ∀ w ∈ tables_1_7, w ∈ lw_tbl := fun _ h => List.mem_append_right _ (List.mem_append_right _ (List.mem_append_right _ (List.mem_append_right _ (List.mem_append_right _ (List.mem_append_right _ (List.mem_append_right _ (List.mem_append_left _ h)))))))
theorem i_tables_1_8 : ∀ w ∈ tables_1_8, w ∈ lw_tbl := fun _ h => List.mem_append_right _ (List.mem_append_right _ (List.mem_append_right _ (List.mem_append_right _ (List.mem_append_right _ (List.mem_append_right _ (List.mem_append_right _ (List.mem_append_right _ (List.mem_append_left _ h))))))))
theorem i_tables_1_9 : ∀ w ∈ tables_1_9, w ∈ lw_tbl := fun _ h => List.mem_append_right _ (List.mem_append_right _ (List.mem_append_right _ (List.mem_append_right _ (List.mem_append_right _ (List.mem_append_right _ (List.mem_append_right _ (List.mem_append_right _ (List.mem_append_right _ (List.mem_append_left _ h)))))))))
theorem i_tables_1_10 : ∀ w ∈ tables_1_10, w ∈ lw_tbl := fun _ h => List.mem_append_right _ (List.mem_append_right _ (List.mem_append_right _ (List.mem_append_right _ (List.mem_append_right _ (List.mem_append_right _ (List.mem_append_right _ (List.mem_append_right _ (List.mem_append_right _ (List.mem_append_right _ (List.mem_append_left _ h))))))))))
theorem i_tables_1_11 : ∀ w ∈ tables_1_11, w ∈ lw_tbl := fun _ h => List.mem_append_right _ (List.mem_append_right _ (List.mem_append_right _ (List.mem_append_right _ (List.mem_append_right _ (List.mem_append_right _ (List.mem_append_right _ (List.mem_append_right _ (List.mem_append_right _ (List.mem_append_right _ (List.mem_append_right _ (List.mem_append_left _ h)))))))))))
theorem i_tables_1_12 : ∀ w ∈ tables_1_12, w ∈ lw_tbl := fun _ h => List.mem_append_right _ (List.mem_append_right _ (List.mem_append_right _ (List.mem_append_right _ (List.mem_append_right _ (List.mem_append_right _ (List.mem_append_right _ (List.mem_append_right _ (List.mem_append_right _ (List.mem_append_right _ (List.mem_append_right _ (List.mem_append_right _ (List.mem_append_left _ h))))))))))))
theorem i_tables_1_13 : ∀ w ∈ tables_1_13, w ∈ lw_tbl := fun _ h => List.mem_append_right _ (List.mem_append_right _ (List.mem_append_right _ (List.mem_append_right _ (List.mem_append_right _ (List.mem_append_right _ (List.mem_append_right _ (List.mem_append_right _ (List.mem_append_right _ (List.mem_append_right _ (List.mem_append_right _ (List.mem_append_right _ (List.mem_append_right _ (List.mem_append_left _ h)))))))))))))
theorem i_tables_1_14 : ∀ w ∈ tables_1_14, w ∈ lw_tbl := fun _ h => List.mem_append_right _ (List.mem_append_right _ (List.mem_append_right _ (List.mem_append_right _ (List.mem_append_right _ (List.mem_append_right _ (List.mem_append_right _ (List.mem_append_right _ (List.mem_append_right _ (List.mem_append_right _ (List.mem_append_right _ (List.mem_append_right _ (List.mem_append_right _ (List.mem_append_right _ (h))))))))))))))
theorem i_lw_privs_1 : ∀ w ∈ lw_privs_1, w ∈ lw_privs := fun _ h => List.mem_append_left _ h
theorem i_lw_privs_2 : ∀ w ∈ lw_privs_2, w ∈ lw_privs := fun _ h => List.mem_append_right _ (List.mem_append_left _ h)
theorem i_lw_privs_3 : ∀ w ∈ lw_privs_3, w ∈ lw_privs := fun _ h => List.mem_append_right _ (List.mem_append_right _ (List.mem_append_left _ h))
theorem i_lw_privs_4 : ∀ w ∈ lw_privs_4, w ∈ lw_privs := fun _ h => List.mem_append_right _ (List.mem_append_right _ (List.mem_append_right _ (List.mem_append_left _ h)))
theorem i_lw_privs_5 : ∀ w ∈ lw_privs_5, w ∈ lw_privs := fun _ h => List.mem_append_right _ (List.mem_append_right _ (List.mem_append_right _ (List.mem_append_right _ (List.mem_append_left _ h))))
theorem i_lw_privs_6 : ∀ w ∈ lw_privs_6, w ∈ lw_privs := fun _ h => List.mem_append_right _ (List.mem_append_right _ (List.mem_append_right _ (List.mem_append_right _ (List.mem_append_right _ (List.mem_append_left _ h)))))
theorem i_lw_privs_7 : ∀ w ∈ lw_privs_7, w ∈ lw_privs := fun _ h => List.mem_append_right _ (List.mem_append_right _ (List.mem_append_right _ (List.mem_append_right _ (List.mem_append_right _ (List.mem_append_right _ (List.mem_append_left _ h))))))
theorem i_lw_privs_8 : ∀ w ∈ lw_privs_8, w ∈ lw_privs := fun _ h => List.mem_append_right _ (List.mem_append_right _ (List.mem_append_right _ (List.mem_append_right _ (List.mem_append_right _ (List.mem_append_right _ (List.mem_append_right _ (List.mem_append_left _ h)))))))
theorem i_lw_privs_9 : ∀ w ∈ lw_privs_9, w ∈ lw_privs := fun _ h => List.mem_append_right _ (List.mem_append_right _ (List.mem_append_right _ (List.mem_append_right _ (List.mem_append_right _ (List.mem_append_right _ (List.mem_append_right _ (List.mem_append_right _ (List.mem_append_left _ h))))))))
theorem i_lw_privs_10 : ∀ w ∈ lw_privs_10, w ∈ lw_privs := fun _ h => List.mem_append_right _ (List.mem_append_right _ (List.mem_append_right _ (List.mem_append_right _ (List.mem_append_right _ (List.mem_append_right _ (List.mem_append_right _ (List.mem_append_right _ (List.mem_append_right _ (List.mem_append_left _ h)))))))))
theorem i_lw_privs_11 : ∀ w ∈ lw_privs_11, w ∈ lw_privs := fun _ h => List.mem_append_right _ (List.mem_append_right _ (List.mem_append_right _ (List.mem_append_right _ (List.mem_append_right _ (List.mem_append_right _ (List.mem_append_right _ (List.mem_append_right _ (List.mem_append_right _ (List.mem_append_right _ (List.mem_append_left _ h))))))))))
theorem i_lw_privs_12 : ∀ w ∈ lw_privs_12, w ∈ lw_privs := fun _ h => List.mem_append_right _ (List.mem_append_right _ (List.mem_append_right _ (List.mem_append_right _ (List.mem_append_right _ (List.mem_append_right _ (List.mem_append_right _ (List.mem_append_right _ (List.mem_append_right _ (List.mem_append_right _ (List.mem_append_right _ (List.mem_append_left _ h)))))))))))
theorem i_lw_privs_13 : ∀ w ∈ lw_privs_13, w ∈ lw_privs := fun _ h => List.mem_append_right _ (List.mem_append_right _ (List.mem_append_right _ (List.mem_append_right _ (List.mem_append_right _ (List.mem_append_right _ (List.mem_append_right _ (List.mem_append_right _ (List.mem_append_right _ (List.mem_append_right _ (List.mem_append_right _ (List.mem_append_right _ (List.mem_append_left _ h))))))))))))
theorem i_lw_privs_14 : ∀ w ∈ lw_privs_14, w ∈ lw_privs := fun _ h => List.mem_append_right _ (List.mem_append_right _ (List.mem_append_right _ (List.mem_append_right _ (List.mem_append_right _ (List.mem_append_right _ (List.mem_append_right _ (List.mem_append_right _ (List.mem_append_right _ (List.mem_append_right _ (List.mem_append_right _ (List.mem_append_right _ (List.mem_append_right _ (List.mem_append_left _ h)))))))))))))
theorem i_lw_privs_15 : ∀ w ∈ lw_privs_15, w ∈ lw_privs := fun _ h => List.mem_append_right _ (List.mem_append_right _ (List.mem_append_right _ (List.mem_append_right _ (List.mem_append_right _ (List.mem_append_right _ (List.mem_append_right _ (List.mem_append_right _ (List.mem_append_right _ (List.mem_append_right _ (List.mem_append_right _ (List.mem_append_right _ (List.mem_append_right _ (List.mem_append_right _ (List.mem_append_left _ h))))))))))))))
theorem i_lw_privs_16 : ∀ w ∈ lw_privs_16, w ∈ lw_privs := fun _ h => List.mem_append_right _ (List.mem_append_right _ (List.mem_append_right _ (List.mem_append_right _ (List.mem_append_right _ (List.mem_append_right _ (List.mem_append_right _ (List.mem_append_right _ (List.mem_append_right _ (List.mem_append_right _ (List.mem_append_right _ (List.mem_append_right _ (List.mem_append_right _ (List.mem_append_right _ (List.mem_append_right _ (List.mem_append_left _ h)))))))))))))))
theorem i_lw_privs_17 : ∀ w ∈ lw_privs_17, w ∈ lw_privs := fun _ h => List.mem_append_right _ (List.mem_append_right _ (List.mem_append_right _ (List.mem_append_right _ (List.mem_append_right _ (List.mem_append_right _ (List.mem_append_right _ (List.mem_append_right _ (List.mem_append_right _ (List.mem_append_right _ (List.mem_append_right _ (List.mem_append_right _ (List.mem_append_right _ (List.mem_append_right _ (List.mem_append_right _ (List.mem_append_right _ (h))))))))))))))))
theorem k_0 : (Jvm.Cond.methodLink "MacroMill$Files" (3 : Nat) ({ cls := "java/lang/Object", name := "<init>", desc := "()V" } : Jvm.MethodName)) ∈ gt := List.mem_filter.mpr ⟨(i_tables_1_1 _ (List.mem_of_getElem? (i := 38) rfl)), rfl⟩
theorem k_1 : (Jvm.Cond.instanceMethod ({ cls := "java/lang/Object", name := "<init>", desc := "()V" } : Jvm.MethodName)) ∈ gt := List.mem_filter.mpr ⟨(i_tables_1_1 _ (List.mem_of_getElem? (i := 31) rfl)), rfl⟩
theorem k_2 : (Jvm.Cond.code ({ cls := "java/lang/Object", name := "<init>", desc := "()V" } : Jvm.MethodName) object_method_1_code (1 : Nat) (Option.none : Option Jvm.ClassFile.FieldType)) ∈ gt := List.mem_filter.mpr ⟨(i_tables_1_1 _ (List.mem_of_getElem? (i := 32) rfl)), rfl⟩
theorem k_3 : (Jvm.Cond.constant "MacroMill$Files" (11 : Nat) (32768 : Int32)) ∈ gt := List.mem_filter.mpr ⟨(i_tables_1_1 _ (List.mem_of_getElem? (i := 39) rfl)), rfl⟩
theorem k_4 : (Jvm.Cond.arrayClass Jvm.ClassFile.FieldType.byte) ∈ gt := List.mem_filter.mpr ⟨(i_tables_1_1 _ (List.mem_of_getElem? (i := 63) rfl)), rfl⟩
theorem k_5 : (Jvm.Cond.fieldLink "MacroMill$Files" (12 : Nat) "MacroMill$Files" "bytes" "[B") ∈ gt := List.mem_filter.mpr ⟨(i_tables_1_1 _ (List.mem_of_getElem? (i := 40) rfl)), rfl⟩
theorem k_6 : (Jvm.Cond.fieldLink "MacroMill$Files" (16 : Nat) "MacroMill$Files" "titles" "[B") ∈ gt := List.mem_filter.mpr ⟨(i_tables_1_1 _ (List.mem_of_getElem? (i := 43) rfl)), rfl⟩
theorem k_7 : (Jvm.Cond.arrayClass Jvm.ClassFile.FieldType.int) ∈ gt := List.mem_filter.mpr ⟨(i_tables_1_1 _ (List.mem_of_getElem? (i := 64) rfl)), rfl⟩
theorem k_8 : (Jvm.Cond.fieldLink "MacroMill$Files" (19 : Nat) "MacroMill$Files" "titleLength" "[I") ∈ gt := List.mem_filter.mpr ⟨(i_tables_1_1 _ (List.mem_of_getElem? (i := 45) rfl)), rfl⟩
theorem k_9 : (Jvm.Cond.fieldLink "MacroMill$Files" (23 : Nat) "MacroMill$Files" "start" "[I") ∈ gt := List.mem_filter.mpr ⟨(i_tables_1_1 _ (List.mem_of_getElem? (i := 47) rfl)), rfl⟩
theorem k_10 : (Jvm.Cond.methodLink "MacroMill$Outcome" (1 : Nat) ({ cls := "java/lang/Object", name := "<init>", desc := "()V" } : Jvm.MethodName)) ∈ gt := List.mem_filter.mpr ⟨(i_tables_1_1 _ (List.mem_of_getElem? (i := 70) rfl)), rfl⟩
theorem k_11 : (Jvm.Cond.constant "MacroMill$Outcome" (9 : Nat) (65536 : Int32)) ∈ gt := List.mem_filter.mpr ⟨(i_tables_1_1 _ (List.mem_of_getElem? (i := 71) rfl)), rfl⟩
theorem k_12 : (Jvm.Cond.fieldLink "MacroMill$Outcome" (10 : Nat) "MacroMill$Outcome" "out" "[B") ∈ gt := List.mem_filter.mpr ⟨(i_tables_1_1 _ (List.mem_of_getElem? (i := 72) rfl)), rfl⟩
theorem k_13 : (Jvm.Cond.methodLink "MacroMill$Reckoner" (1 : Nat) ({ cls := "java/lang/Object", name := "<init>", desc := "()V" } : Jvm.MethodName)) ∈ gt := List.mem_filter.mpr ⟨(i_tables_1_1 _ (List.mem_of_getElem? (i := 129) rfl)), rfl⟩
theorem k_14 : (Jvm.Cond.arrayClass Jvm.ClassFile.FieldType.long) ∈ gt := List.mem_filter.mpr ⟨(i_tables_1_1 _ (List.mem_of_getElem? (i := 170) rfl)), rfl⟩
theorem k_15 : (Jvm.Cond.fieldLink "MacroMill$Reckoner" (9 : Nat) "MacroMill$Reckoner" "values" "[J") ∈ gt := List.mem_filter.mpr ⟨(i_tables_1_1 _ (List.mem_of_getElem? (i := 130) rfl)), rfl⟩
theorem k_16 : (Jvm.Cond.arrayClass Jvm.ClassFile.FieldType.boolean) ∈ gt := List.mem_filter.mpr ⟨(i_tables_1_1 _ (List.mem_of_getElem? (i := 171) rfl)), rfl⟩
theorem k_17 : (Jvm.Cond.fieldLink "MacroMill$Reckoner" (13 : Nat) "MacroMill$Reckoner" "unsigned" "[Z") ∈ gt := List.mem_filter.mpr ⟨(i_tables_1_1 _ (List.mem_of_getElem? (i := 131) rfl)), rfl⟩
theorem k_18 : (Jvm.Cond.fieldLink "MacroMill$Reckoner" (17 : Nat) "MacroMill$Reckoner" "signs" "[I") ∈ gt := List.mem_filter.mpr ⟨(i_tables_1_1 _ (List.mem_of_getElem? (i := 133) rfl)), rfl⟩
theorem k_19 : (Jvm.Cond.fieldLink "MacroMill$Reckoner" (21 : Nat) "MacroMill$Reckoner" "ranks" "[I") ∈ gt := List.mem_filter.mpr ⟨(i_tables_1_1 _ (List.mem_of_getElem? (i := 134) rfl)), rfl⟩
theorem k_20 : (Jvm.Cond.fieldLink "MacroMill$Reckoner" (24 : Nat) "MacroMill$Reckoner" "idleBefore" "[Z") ∈ gt := List.mem_filter.mpr ⟨(i_tables_1_1 _ (List.mem_of_getElem? (i := 135) rfl)), rfl⟩
theorem k_21 : (Jvm.Cond.methodLink "MacroMill$Calls" (3 : Nat) ({ cls := "java/lang/Object", name := "<init>", desc := "()V" } : Jvm.MethodName)) ∈ gt := List.mem_filter.mpr ⟨(i_tables_1_1 _ (List.mem_of_getElem? (i := 183) rfl)), rfl⟩
theorem k_22 : (Jvm.Cond.fieldLink "MacroMill$Calls" (11 : Nat) "MacroMill$Calls" "bytes" "[B") ∈ gt := List.mem_filter.mpr ⟨(i_tables_1_1 _ (List.mem_of_getElem? (i := 184) rfl)), rfl⟩
theorem k_23 : (Jvm.Cond.fieldLink "MacroMill$Calls" (15 : Nat) "MacroMill$Calls" "argumentAt" "[I") ∈ gt := List.mem_filter.mpr ⟨(i_tables_1_1 _ (List.mem_of_getElem? (i := 187) rfl)), rfl⟩
theorem k_24 : (Jvm.Cond.fieldLink "MacroMill$Calls" (19 : Nat) "MacroMill$Calls" "nameAt" "[I") ∈ gt := List.mem_filter.mpr ⟨(i_tables_1_1 _ (List.mem_of_getElem? (i := 189) rfl)), rfl⟩
theorem k_25 : (Jvm.Cond.fieldLink "MacroMill$Calls" (22 : Nat) "MacroMill$Calls" "nameLength" "[I") ∈ gt := List.mem_filter.mpr ⟨(i_tables_1_1 _ (List.mem_of_getElem? (i := 190) rfl)), rfl⟩
theorem k_26 : (Jvm.Cond.fieldLink "MacroMill$Calls" (25 : Nat) "MacroMill$Calls" "firstArgument" "[I") ∈ gt := List.mem_filter.mpr ⟨(i_tables_1_1 _ (List.mem_of_getElem? (i := 191) rfl)), rfl⟩
theorem k_27 : (Jvm.Cond.fieldLink "MacroMill$Calls" (28 : Nat) "MacroMill$Calls" "nesting" "[I") ∈ gt := List.mem_filter.mpr ⟨(i_tables_1_1 _ (List.mem_of_getElem? (i := 192) rfl)), rfl⟩
theorem k_28 : (Jvm.Cond.fieldLink "MacroMill$Calls" (31 : Nat) "MacroMill$Calls" "begun" "[Z") ∈ gt := List.mem_filter.mpr ⟨(i_tables_1_1 _ (List.mem_of_getElem? (i := 193) rfl)), rfl⟩
theorem k_29 : (Jvm.Cond.methodLink "MacroMill$Meanings" (3 : Nat) ({ cls := "java/lang/Object", name := "<init>", desc := "()V" } : Jvm.MethodName)) ∈ gt := List.mem_filter.mpr ⟨(i_tables_1_1 _ (List.mem_of_getElem? (i := 222) rfl)), rfl⟩
theorem k_30 : (Jvm.Cond.constant "MacroMill$Meanings" (9 : Nat) (33280 : Int32)) ∈ gt := List.mem_filter.mpr ⟨(i_tables_1_1 _ (List.mem_of_getElem? (i := 223) rfl)), rfl⟩
theorem k_31 : (Jvm.Cond.fieldLink "MacroMill$Meanings" (10 : Nat) "MacroMill$Meanings" "pool" "[B") ∈ gt := List.mem_filter.mpr ⟨(i_tables_1_1 _ (List.mem_of_getElem? (i := 224) rfl)), rfl⟩
theorem k_32 : (Jvm.Cond.fieldLink "MacroMill$Meanings" (14 : Nat) "MacroMill$Meanings" "bucket" "[I") ∈ gt := List.mem_filter.mpr ⟨(i_tables_1_1 _ (List.mem_of_getElem? (i := 227) rfl)), rfl⟩
theorem k_33 : (Jvm.Cond.fieldLink "MacroMill$Meanings" (18 : Nat) "MacroMill$Meanings" "chain" "[I") ∈ gt := List.mem_filter.mpr ⟨(i_tables_1_1 _ (List.mem_of_getElem? (i := 228) rfl)), rfl⟩
theorem k_34 : (Jvm.Cond.fieldLink "MacroMill$Meanings" (21 : Nat) "MacroMill$Meanings" "nameAt" "[I") ∈ gt := List.mem_filter.mpr ⟨(i_tables_1_1 _ (List.mem_of_getElem? (i := 230) rfl)), rfl⟩
theorem k_35 : (Jvm.Cond.fieldLink "MacroMill$Meanings" (24 : Nat) "MacroMill$Meanings" "nameLength" "[I") ∈ gt := List.mem_filter.mpr ⟨(i_tables_1_1 _ (List.mem_of_getElem? (i := 231) rfl)), rfl⟩
theorem k_36 : (Jvm.Cond.fieldLink "MacroMill$Meanings" (27 : Nat) "MacroMill$Meanings" "textLength" "[I") ∈ gt := List.mem_filter.mpr ⟨(i_tables_1_1 _ (List.mem_of_getElem? (i := 232) rfl)), rfl⟩
theorem k_37 : (Jvm.Cond.fieldLink "MacroMill$Meanings" (30 : Nat) "MacroMill$Meanings" "kind" "[I") ∈ gt := List.mem_filter.mpr ⟨(i_tables_1_1 _ (List.mem_of_getElem? (i := 233) rfl)), rfl⟩
theorem k_38 : (Jvm.Cond.methodLink "MacroMill$Input" (3 : Nat) ({ cls := "java/lang/Object", name := "<init>", desc := "()V" } : Jvm.MethodName)) ∈ gt := List.mem_filter.mpr ⟨(i_tables_1_2 _ (List.mem_of_getElem? (i := 25) rfl)), rfl⟩
theorem k_39 : (Jvm.Cond.constant "MacroMill$Input" (11 : Nat) (32768 : Int32)) ∈ gt := List.mem_filter.mpr ⟨(i_tables_1_2 _ (List.mem_of_getElem? (i := 26) rfl)), rfl⟩
theorem k_40 : (Jvm.Cond.fieldLink "MacroMill$Input" (12 : Nat) "MacroMill$Input" "bytes" "[B") ∈ gt := List.mem_filter.mpr ⟨(i_tables_1_2 _ (List.mem_of_getElem? (i := 27) rfl)), rfl⟩
theorem k_41 : (Jvm.Cond.fieldLink "MacroMill$Input" (16 : Nat) "MacroMill$Input" "quotes" "[B") ∈ gt := List.mem_filter.mpr ⟨(i_tables_1_2 _ (List.mem_of_getElem? (i := 35) rfl)), rfl⟩
theorem k_42 : (Jvm.Cond.fieldLink "MacroMill$Input" (19 : Nat) "MacroMill$Input" "outcome" "LMacroMill$Outcome;") ∈ gt := List.mem_filter.mpr ⟨(i_tables_1_2 _ (List.mem_of_getElem? (i := 29) rfl)), rfl⟩
theorem k_43 : (Jvm.Cond.methodLink "MacroMill$First" (3 : Nat) ({ cls := "java/lang/Object", name := "<init>", desc := "()V" } : Jvm.MethodName)) ∈ gt := List.mem_filter.mpr ⟨(i_tables_1_1 _ (List.mem_of_getElem? (i := 177) rfl)), rfl⟩
theorem k_44 : (Jvm.Cond.classLink "MacroMill$First" (9 : Nat) "MacroMill$Calls") ∈ gt := List.mem_filter.mpr ⟨(i_tables_1_1 _ (List.mem_of_getElem? (i := 178) rfl)), rfl⟩
theorem k_45 : (Jvm.Cond.instantiable "MacroMill$Calls" (10 : Nat)) ∈ gt := List.mem_filter.mpr ⟨(i_tables_1_1 _ (List.mem_of_getElem? (i := 179) rfl)), rfl⟩
theorem k_46 : (Jvm.Cond.initialized "MacroMill$Calls") ∈ gt := List.mem_filter.mpr ⟨(i_tables_1_1 _ (List.mem_of_getElem? (i := 6) rfl)), rfl⟩
theorem k_47 : (Jvm.Cond.code ({ cls := "MacroMill$Calls", name := "<init>", desc := "()V" } : Jvm.MethodName) prog_2_method_1_code (1 : Nat) (Option.none : Option Jvm.ClassFile.FieldType)) ∈ gt := List.mem_filter.mpr ⟨(i_tables_1_1 _ (List.mem_of_getElem? (i := 182) rfl)), rfl⟩
theorem k_48 : (Jvm.Cond.instanceMethod ({ cls := "MacroMill$Calls", name := "<init>", desc := "()V" } : Jvm.MethodName)) ∈ gt := List.mem_filter.mpr ⟨(i_tables_1_1 _ (List.mem_of_getElem? (i := 181) rfl)), rfl⟩
theorem k_49 : (Jvm.Cond.fieldLink "MacroMill$First" (12 : Nat) "MacroMill$First" "calls" "LMacroMill$Calls;") ∈ gt := List.mem_filter.mpr ⟨(i_tables_1_2 _ (List.mem_of_getElem? (i := 72) rfl)), rfl⟩
theorem k_50 : (Jvm.Cond.classLink "MacroMill$First" (18 : Nat) "MacroMill$Meanings") ∈ gt := List.mem_filter.mpr ⟨(i_tables_1_1 _ (List.mem_of_getElem? (i := 217) rfl)), rfl⟩
theorem k_51 : (Jvm.Cond.instantiable "MacroMill$Meanings" (11 : Nat)) ∈ gt := List.mem_filter.mpr ⟨(i_tables_1_1 _ (List.mem_of_getElem? (i := 218) rfl)), rfl⟩
theorem k_52 : (Jvm.Cond.initialized "MacroMill$Meanings") ∈ gt := List.mem_filter.mpr ⟨(i_tables_1_1 _ (List.mem_of_getElem? (i := 7) rfl)), rfl⟩
theorem k_53 : (Jvm.Cond.code ({ cls := "MacroMill$Meanings", name := "<init>", desc := "()V" } : Jvm.MethodName) prog_8_method_1_code (1 : Nat) (Option.none : Option Jvm.ClassFile.FieldType)) ∈ gt := List.mem_filter.mpr ⟨(i_tables_1_1 _ (List.mem_of_getElem? (i := 221) rfl)), rfl⟩
theorem k_54 : (Jvm.Cond.instanceMethod ({ cls := "MacroMill$Meanings", name := "<init>", desc := "()V" } : Jvm.MethodName)) ∈ gt := List.mem_filter.mpr ⟨(i_tables_1_1 _ (List.mem_of_getElem? (i := 220) rfl)), rfl⟩
theorem k_55 : (Jvm.Cond.fieldLink "MacroMill$First" (21 : Nat) "MacroMill$First" "meanings" "LMacroMill$Meanings;") ∈ gt := List.mem_filter.mpr ⟨(i_tables_1_2 _ (List.mem_of_getElem? (i := 73) rfl)), rfl⟩
theorem k_56 : (Jvm.Cond.constant "MacroMill$First" (27 : Nat) (32768 : Int32)) ∈ gt := List.mem_filter.mpr ⟨(i_tables_1_2 _ (List.mem_of_getElem? (i := 19) rfl)), rfl⟩
theorem k_57 : (Jvm.Cond.fieldLink "MacroMill$First" (28 : Nat) "MacroMill$First" "result" "[B") ∈ gt := List.mem_filter.mpr ⟨(i_tables_1_2 _ (List.mem_of_getElem? (i := 74) rfl)), rfl⟩
theorem k_58 : (Jvm.Cond.fieldLink "MacroMill$First" (32 : Nat) "MacroMill$First" "diverted" "[B") ∈ gt := List.mem_filter.mpr ⟨(i_tables_1_2 _ (List.mem_of_getElem? (i := 76) rfl)), rfl⟩
theorem k_59 : (Jvm.Cond.fieldLink "MacroMill$First" (35 : Nat) "MacroMill$First" "chain" "[I") ∈ gt := List.mem_filter.mpr ⟨(i_tables_1_2 _ (List.mem_of_getElem? (i := 77) rfl)), rfl⟩
theorem k_60 : (Jvm.Cond.fieldLink "MacroMill$First" (39 : Nat) "MacroMill$First" "head" "[I") ∈ gt := List.mem_filter.mpr ⟨(i_tables_1_2 _ (List.mem_of_getElem? (i := 78) rfl)), rfl⟩
theorem k_61 : (Jvm.Cond.fieldLink "MacroMill$First" (42 : Nat) "MacroMill$First" "tail" "[I") ∈ gt := List.mem_filter.mpr ⟨(i_tables_1_2 _ (List.mem_of_getElem? (i := 79) rfl)), rfl⟩
theorem k_62 : (Jvm.Cond.fieldLink "MacroMill$First" (45 : Nat) "MacroMill$First" "outcome" "LMacroMill$Outcome;") ∈ gt := List.mem_filter.mpr ⟨(i_tables_1_2 _ (List.mem_of_getElem? (i := 69) rfl)), rfl⟩
theorem k_63 : (Jvm.Cond.fieldLink "MacroMill$First" (49 : Nat) "MacroMill$First" "reckoner" "LMacroMill$Reckoner;") ∈ gt := List.mem_filter.mpr ⟨(i_tables_1_2 _ (List.mem_of_getElem? (i := 70) rfl)), rfl⟩
theorem k_64 : (Jvm.Cond.classLink "MacroMill$First" (25 : Nat) "MacroMill$Input") ∈ gt := List.mem_filter.mpr ⟨(i_tables_1_2 _ (List.mem_of_getElem? (i := 20) rfl)), rfl⟩
theorem k_65 : (Jvm.Cond.instantiable "MacroMill$Input" (12 : Nat)) ∈ gt := List.mem_filter.mpr ⟨(i_tables_1_2 _ (List.mem_of_getElem? (i := 21) rfl)), rfl⟩
theorem k_66 : (Jvm.Cond.initialized "MacroMill$Input") ∈ gt := List.mem_filter.mpr ⟨(i_tables_1_1 _ (List.mem_of_getElem? (i := 8) rfl)), rfl⟩
theorem k_67 : (Jvm.Cond.code ({ cls := "MacroMill$Input", name := "<init>", desc := "(LMacroMill$Outcome;)V" } : Jvm.MethodName) prog_5_method_1_code (2 : Nat) (Option.none : Option Jvm.ClassFile.FieldType)) ∈ gt := List.mem_filter.mpr ⟨(i_tables_1_2 _ (List.mem_of_getElem? (i := 24) rfl)), rfl⟩
theorem k_68 : (Jvm.Cond.methodLink "MacroMill$First" (53 : Nat) ({ cls := "MacroMill$Input", name := "<init>", desc := "(LMacroMill$Outcome;)V" } : Jvm.MethodName)) ∈ gt := List.mem_filter.mpr ⟨(i_tables_1_2 _ (List.mem_of_getElem? (i := 22) rfl)), rfl⟩
theorem k_69 : (Jvm.Cond.instanceMethod ({ cls := "MacroMill$Input", name := "<init>", desc := "(LMacroMill$Outcome;)V" } : Jvm.MethodName)) ∈ gt := List.mem_filter.mpr ⟨(i_tables_1_2 _ (List.mem_of_getElem? (i := 23) rfl)), rfl⟩
theorem k_70 : (Jvm.Cond.fieldLink "MacroMill$First" (56 : Nat) "MacroMill$First" "input" "LMacroMill$Input;") ∈ gt := List.mem_filter.mpr ⟨(i_tables_1_2 _ (List.mem_of_getElem? (i := 71) rfl)), rfl⟩
theorem k_71 : (Jvm.Cond.methodLink "MacroMill$Tokens" (5 : Nat) ({ cls := "java/lang/Object", name := "<init>", desc := "()V" } : Jvm.MethodName)) ∈ gt := List.mem_filter.mpr ⟨(i_tables_1_2 _ (List.mem_of_getElem? (i := 126) rfl)), rfl⟩
theorem k_72 : (Jvm.Cond.constant "MacroMill$Tokens" (11 : Nat) (125538 : Int32)) ∈ gt := List.mem_filter.mpr ⟨(i_tables_1_2 _ (List.mem_of_getElem? (i := 127) rfl)), rfl⟩
theorem k_73 : (Jvm.Cond.fieldLink "MacroMill$Tokens" (12 : Nat) "MacroMill$Tokens" "bytes" "[B") ∈ gt := List.mem_filter.mpr ⟨(i_tables_1_2 _ (List.mem_of_getElem? (i := 132) rfl)), rfl⟩
theorem k_74 : (Jvm.Cond.constant "MacroMill$Tokens" (16 : Nat) (65536 : Int32)) ∈ gt := List.mem_filter.mpr ⟨(i_tables_1_2 _ (List.mem_of_getElem? (i := 128) rfl)), rfl⟩
theorem k_75 : (Jvm.Cond.arrayClass Jvm.ClassFile.FieldType.char) ∈ gt := List.mem_filter.mpr ⟨(i_tables_1_2 _ (List.mem_of_getElem? (i := 181) rfl)), rfl⟩
theorem k_76 : (Jvm.Cond.fieldLink "MacroMill$Tokens" (17 : Nat) "MacroMill$Tokens" "lines" "[C") ∈ gt := List.mem_filter.mpr ⟨(i_tables_1_2 _ (List.mem_of_getElem? (i := 137) rfl)), rfl⟩
theorem k_77 : (Jvm.Cond.constant "MacroMill$Tokens" (21 : Nat) (120784 : Int32)) ∈ gt := List.mem_filter.mpr ⟨(i_tables_1_2 _ (List.mem_of_getElem? (i := 129) rfl)), rfl⟩
theorem k_78 : (Jvm.Cond.fieldLink "MacroMill$Tokens" (22 : Nat) "MacroMill$Tokens" "spelling" "[J") ∈ gt := List.mem_filter.mpr ⟨(i_tables_1_2 _ (List.mem_of_getElem? (i := 144) rfl)), rfl⟩
theorem k_79 : (Jvm.Cond.fieldLink "MacroMill$Tokens" (26 : Nat) "MacroMill$Tokens" "look" "[I") ∈ gt := List.mem_filter.mpr ⟨(i_tables_1_2 _ (List.mem_of_getElem? (i := 148) rfl)), rfl⟩
theorem k_80 : (Jvm.Cond.fieldLink "MacroMill$Tokens" (30 : Nat) "MacroMill$Tokens" "next" "[I") ∈ gt := List.mem_filter.mpr ⟨(i_tables_1_2 _ (List.mem_of_getElem? (i := 152) rfl)), rfl⟩
theorem k_81 : (Jvm.Cond.constant "MacroMill$Tokens" (33 : Nat) (60000 : Int32)) ∈ gt := List.mem_filter.mpr ⟨(i_tables_1_2 _ (List.mem_of_getElem? (i := 130) rfl)), rfl⟩
theorem k_82 : (Jvm.Cond.constant "MacroMill$Tokens" (34 : Nat) (60001 : Int32)) ∈ gt := List.mem_filter.mpr ⟨(i_tables_1_2 _ (List.mem_of_getElem? (i := 131) rfl)), rfl⟩
theorem k_83 : (Jvm.Cond.methodLink "MacroMill$Macros" (1 : Nat) ({ cls := "java/lang/Object", name := "<init>", desc := "()V" } : Jvm.MethodName)) ∈ gt := List.mem_filter.mpr ⟨(i_tables_1_2 _ (List.mem_of_getElem? (i := 187) rfl)), rfl⟩
theorem k_84 : (Jvm.Cond.fieldLink "MacroMill$Macros" (9 : Nat) "MacroMill$Macros" "name" "[J") ∈ gt := List.mem_filter.mpr ⟨(i_tables_1_2 _ (List.mem_of_getElem? (i := 189) rfl)), rfl⟩
theorem k_85 : (Jvm.Cond.fieldLink "MacroMill$Macros" (13 : Nat) "MacroMill$Macros" "bucket" "[I") ∈ gt := List.mem_filter.mpr ⟨(i_tables_1_2 _ (List.mem_of_getElem? (i := 190) rfl)), rfl⟩
theorem k_86 : (Jvm.Cond.fieldLink "MacroMill$Macros" (17 : Nat) "MacroMill$Macros" "chain" "[I") ∈ gt := List.mem_filter.mpr ⟨(i_tables_1_2 _ (List.mem_of_getElem? (i := 191) rfl)), rfl⟩
theorem k_87 : (Jvm.Cond.fieldLink "MacroMill$Macros" (20 : Nat) "MacroMill$Macros" "parameters" "[I") ∈ gt := List.mem_filter.mpr ⟨(i_tables_1_2 _ (List.mem_of_getElem? (i := 195) rfl)), rfl⟩
theorem k_88 : (Jvm.Cond.fieldLink "MacroMill$Macros" (23 : Nat) "MacroMill$Macros" "takesMore" "[Z") ∈ gt := List.mem_filter.mpr ⟨(i_tables_1_2 _ (List.mem_of_getElem? (i := 198) rfl)), rfl⟩
theorem k_89 : (Jvm.Cond.fieldLink "MacroMill$Macros" (27 : Nat) "MacroMill$Macros" "start" "[I") ∈ gt := List.mem_filter.mpr ⟨(i_tables_1_2 _ (List.mem_of_getElem? (i := 200) rfl)), rfl⟩
theorem k_90 : (Jvm.Cond.fieldLink "MacroMill$Macros" (30 : Nat) "MacroMill$Macros" "end" "[I") ∈ gt := List.mem_filter.mpr ⟨(i_tables_1_2 _ (List.mem_of_getElem? (i := 201) rfl)), rfl⟩
theorem k_91 : (Jvm.Cond.fieldLink "MacroMill$Macros" (33 : Nat) "MacroMill$Macros" "spelling" "[J") ∈ gt := List.mem_filter.mpr ⟨(i_tables_1_2 _ (List.mem_of_getElem? (i := 202) rfl)), rfl⟩
theorem k_92 : (Jvm.Cond.fieldLink "MacroMill$Macros" (36 : Nat) "MacroMill$Macros" "look" "[I") ∈ gt := List.mem_filter.mpr ⟨(i_tables_1_2 _ (List.mem_of_getElem? (i := 204) rfl)), rfl⟩
theorem k_93 : (Jvm.Cond.fieldLink "MacroMill$Macros" (39 : Nat) "MacroMill$Macros" "bits" "[J") ∈ gt := List.mem_filter.mpr ⟨(i_tables_1_2 _ (List.mem_of_getElem? (i := 207) rfl)), rfl⟩
theorem k_94 : (Jvm.Cond.fieldLink "MacroMill$Macros" (42 : Nat) "MacroMill$Macros" "setBucket" "[I") ∈ gt := List.mem_filter.mpr ⟨(i_tables_1_2 _ (List.mem_of_getElem? (i := 208) rfl)), rfl⟩
theorem k_95 : (Jvm.Cond.fieldLink "MacroMill$Macros" (45 : Nat) "MacroMill$Macros" "setChain" "[I") ∈ gt := List.mem_filter.mpr ⟨(i_tables_1_2 _ (List.mem_of_getElem? (i := 209) rfl)), rfl⟩
theorem k_96 : (Jvm.Cond.fieldLink "MacroMill$Macros" (48 : Nat) "MacroMill$Macros" "common" "[J") ∈ gt := List.mem_filter.mpr ⟨(i_tables_1_2 _ (List.mem_of_getElem? (i := 211) rfl)), rfl⟩
theorem k_97 : (Jvm.Cond.fieldLink "MacroMill$Macros" (51 : Nat) "MacroMill$Macros" "wanted" "[J") ∈ gt := List.mem_filter.mpr ⟨(i_tables_1_2 _ (List.mem_of_getElem? (i := 212) rfl)), rfl⟩
theorem k_98 : (Jvm.Cond.fieldLink "MacroMill$Macros" (54 : Nat) "MacroMill$Macros" "tokens" "LMacroMill$Tokens;") ∈ gt := List.mem_filter.mpr ⟨(i_tables_1_2 _ (List.mem_of_getElem? (i := 188) rfl)), rfl⟩
theorem k_99 : (Jvm.Cond.methodLink "MacroMill$Lines" (3 : Nat) ({ cls := "java/lang/Object", name := "<init>", desc := "()V" } : Jvm.MethodName)) ∈ gt := List.mem_filter.mpr ⟨(i_tables_1_3 _ (List.mem_of_getElem? (i := 17) rfl)), rfl⟩
theorem k_100 : (Jvm.Cond.fieldLink "MacroMill$Lines" (9 : Nat) "MacroMill$Lines" "textFrom" "[I") ∈ gt := List.mem_filter.mpr ⟨(i_tables_1_3 _ (List.mem_of_getElem? (i := 21) rfl)), rfl⟩
theorem k_101 : (Jvm.Cond.fieldLink "MacroMill$Lines" (15 : Nat) "MacroMill$Lines" "textTo" "[I") ∈ gt := List.mem_filter.mpr ⟨(i_tables_1_3 _ (List.mem_of_getElem? (i := 22) rfl)), rfl⟩
theorem k_102 : (Jvm.Cond.fieldLink "MacroMill$Lines" (18 : Nat) "MacroMill$Lines" "rawLength" "[I") ∈ gt := List.mem_filter.mpr ⟨(i_tables_1_3 _ (List.mem_of_getElem? (i := 23) rfl)), rfl⟩
theorem k_103 : (Jvm.Cond.fieldLink "MacroMill$Lines" (21 : Nat) "MacroMill$Lines" "file" "[I") ∈ gt := List.mem_filter.mpr ⟨(i_tables_1_3 _ (List.mem_of_getElem? (i := 24) rfl)), rfl⟩
theorem k_104 : (Jvm.Cond.fieldLink "MacroMill$Lines" (24 : Nat) "MacroMill$Lines" "at" "[I") ∈ gt := List.mem_filter.mpr ⟨(i_tables_1_3 _ (List.mem_of_getElem? (i := 25) rfl)), rfl⟩
theorem k_105 : (Jvm.Cond.fieldLink "MacroMill$Lines" (27 : Nat) "MacroMill$Lines" "shift" "[I") ∈ gt := List.mem_filter.mpr ⟨(i_tables_1_3 _ (List.mem_of_getElem? (i := 26) rfl)), rfl⟩
theorem k_106 : (Jvm.Cond.fieldLink "MacroMill$Lines" (30 : Nat) "MacroMill$Lines" "titles" "[B") ∈ gt := List.mem_filter.mpr ⟨(i_tables_1_3 _ (List.mem_of_getElem? (i := 27) rfl)), rfl⟩
theorem k_107 : (Jvm.Cond.fieldLink "MacroMill$Lines" (34 : Nat) "MacroMill$Lines" "titleLength" "[I") ∈ gt := List.mem_filter.mpr ⟨(i_tables_1_3 _ (List.mem_of_getElem? (i := 28) rfl)), rfl⟩
theorem k_108 : (Jvm.Cond.fieldLink "MacroMill$Lines" (37 : Nat) "MacroMill$Lines" "files" "LMacroMill$Files;") ∈ gt := List.mem_filter.mpr ⟨(i_tables_1_3 _ (List.mem_of_getElem? (i := 18) rfl)), rfl⟩
theorem k_109 : (Jvm.Cond.fieldLink "MacroMill$Lines" (41 : Nat) "MacroMill$Lines" "tokens" "LMacroMill$Tokens;") ∈ gt := List.mem_filter.mpr ⟨(i_tables_1_3 _ (List.mem_of_getElem? (i := 19) rfl)), rfl⟩
theorem k_110 : (Jvm.Cond.fieldLink "MacroMill$Lines" (45 : Nat) "MacroMill$Lines" "outcome" "LMacroMill$Outcome;") ∈ gt := List.mem_filter.mpr ⟨(i_tables_1_3 _ (List.mem_of_getElem? (i := 20) rfl)), rfl⟩
theorem k_111 : (Jvm.Cond.methodLink "MacroMill$Replacer" (7 : Nat) ({ cls := "java/lang/Object", name := "<init>", desc := "()V" } : Jvm.MethodName)) ∈ gt := List.mem_filter.mpr ⟨(i_tables_1_3 _ (List.mem_of_getElem? (i := 84) rfl)), rfl⟩
theorem k_112 : (Jvm.Cond.fieldLink "MacroMill$Replacer" (13 : Nat) "MacroMill$Replacer" "argumentFirst" "[I") ∈ gt := List.mem_filter.mpr ⟨(i_tables_1_3 _ (List.mem_of_getElem? (i := 89) rfl)), rfl⟩
theorem k_113 : (Jvm.Cond.fieldLink "MacroMill$Replacer" (17 : Nat) "MacroMill$Replacer" "argumentStop" "[I") ∈ gt := List.mem_filter.mpr ⟨(i_tables_1_3 _ (List.mem_of_getElem? (i := 90) rfl)), rfl⟩
theorem k_114 : (Jvm.Cond.fieldLink "MacroMill$Replacer" (20 : Nat) "MacroMill$Replacer" "keptFirst" "[I") ∈ gt := List.mem_filter.mpr ⟨(i_tables_1_3 _ (List.mem_of_getElem? (i := 91) rfl)), rfl⟩
theorem k_115 : (Jvm.Cond.fieldLink "MacroMill$Replacer" (23 : Nat) "MacroMill$Replacer" "keptLast" "[I") ∈ gt := List.mem_filter.mpr ⟨(i_tables_1_3 _ (List.mem_of_getElem? (i := 92) rfl)), rfl⟩
theorem k_116 : (Jvm.Cond.fieldLink "MacroMill$Replacer" (26 : Nat) "MacroMill$Replacer" "keptCount" "[I") ∈ gt := List.mem_filter.mpr ⟨(i_tables_1_3 _ (List.mem_of_getElem? (i := 93) rfl)), rfl⟩
theorem k_117 : (Jvm.Cond.fieldLink "MacroMill$Replacer" (29 : Nat) "MacroMill$Replacer" "keptSubstituted" "[I") ∈ gt := List.mem_filter.mpr ⟨(i_tables_1_3 _ (List.mem_of_getElem? (i := 94) rfl)), rfl⟩
theorem k_118 : (Jvm.Cond.fieldLink "MacroMill$Replacer" (32 : Nat) "MacroMill$Replacer" "keptMade" "[I") ∈ gt := List.mem_filter.mpr ⟨(i_tables_1_3 _ (List.mem_of_getElem? (i := 95) rfl)), rfl⟩
theorem k_119 : (Jvm.Cond.fieldLink "MacroMill$Replacer" (35 : Nat) "MacroMill$Replacer" "head" "[I") ∈ gt := List.mem_filter.mpr ⟨(i_tables_1_3 _ (List.mem_of_getElem? (i := 96) rfl)), rfl⟩
theorem k_120 : (Jvm.Cond.fieldLink "MacroMill$Replacer" (38 : Nat) "MacroMill$Replacer" "tail" "[I") ∈ gt := List.mem_filter.mpr ⟨(i_tables_1_3 _ (List.mem_of_getElem? (i := 97) rfl)), rfl⟩
theorem k_121 : (Jvm.Cond.fieldLink "MacroMill$Replacer" (41 : Nat) "MacroMill$Replacer" "count" "[I") ∈ gt := List.mem_filter.mpr ⟨(i_tables_1_3 _ (List.mem_of_getElem? (i := 98) rfl)), rfl⟩
theorem k_122 : (Jvm.Cond.fieldLink "MacroMill$Replacer" (44 : Nat) "MacroMill$Replacer" "tokens" "LMacroMill$Tokens;") ∈ gt := List.mem_filter.mpr ⟨(i_tables_1_3 _ (List.mem_of_getElem? (i := 85) rfl)), rfl⟩
theorem k_123 : (Jvm.Cond.fieldLink "MacroMill$Replacer" (48 : Nat) "MacroMill$Replacer" "macros" "LMacroMill$Macros;") ∈ gt := List.mem_filter.mpr ⟨(i_tables_1_3 _ (List.mem_of_getElem? (i := 86) rfl)), rfl⟩
theorem k_124 : (Jvm.Cond.fieldLink "MacroMill$Replacer" (52 : Nat) "MacroMill$Replacer" "lines" "LMacroMill$Lines;") ∈ gt := List.mem_filter.mpr ⟨(i_tables_1_3 _ (List.mem_of_getElem? (i := 87) rfl)), rfl⟩
theorem k_125 : (Jvm.Cond.fieldLink "MacroMill$Replacer" (56 : Nat) "MacroMill$Replacer" "outcome" "LMacroMill$Outcome;") ∈ gt := List.mem_filter.mpr ⟨(i_tables_1_3 _ (List.mem_of_getElem? (i := 88) rfl)), rfl⟩
theorem k_126 : (Jvm.Cond.fieldLink "MacroMill$Tokens" (35 : Nat) "MacroMill$Tokens" "made" "I") ∈ gt := List.mem_filter.mpr ⟨(i_tables_1_2 _ (List.mem_of_getElem? (i := 138) rfl)), rfl⟩
theorem k_127 : (Jvm.Cond.fieldLink "MacroMill$Tokens" (39 : Nat) "MacroMill$Tokens" "overfull" "Z") ∈ gt := List.mem_filter.mpr ⟨(i_tables_1_2 _ (List.mem_of_getElem? (i := 141) rfl)), rfl⟩
theorem k_128 : (Jvm.Cond.constant "MacroMill$Tokens" (43 : Nat) (60002 : Int32)) ∈ gt := List.mem_filter.mpr ⟨(i_tables_1_3 _ (List.mem_of_getElem? (i := 142) rfl)), rfl⟩
theorem k_129 : (Jvm.Cond.fieldLink "MacroMill$Tokens" (44 : Nat) "MacroMill$Tokens" "textEnd" "I") ∈ gt := List.mem_filter.mpr ⟨(i_tables_1_2 _ (List.mem_of_getElem? (i := 142) rfl)), rfl⟩
theorem k_130 : (Jvm.Cond.fieldLink "MacroMill$Tokens" (47 : Nat) "MacroMill$Tokens" "used" "I") ∈ gt := List.mem_filter.mpr ⟨(i_tables_1_2 _ (List.mem_of_getElem? (i := 156) rfl)), rfl⟩
theorem k_131 : (Jvm.Cond.code ({ cls := "java/util/Arrays", name := "fill", desc := "([II)V" } : Jvm.MethodName) prog_23_method_103_code (4 : Nat) (Option.none : Option Jvm.ClassFile.FieldType)) ∈ gt := List.mem_filter.mpr ⟨(i_tables_1_3 _ (List.mem_of_getElem? (i := 149) rfl)), rfl⟩
theorem k_132 : (Jvm.Cond.initialized "java/util/Arrays") ∈ gt := List.mem_filter.mpr ⟨(i_tables_1_1 _ (List.mem_of_getElem? (i := 14) rfl)), rfl⟩
theorem k_133 : (Jvm.Cond.methodLink "MacroMill$Macros" (58 : Nat) ({ cls := "java/util/Arrays", name := "fill", desc := "([II)V" } : Jvm.MethodName)) ∈ gt := List.mem_filter.mpr ⟨(i_tables_1_3 _ (List.mem_of_getElem? (i := 147) rfl)), rfl⟩
theorem k_134 : (Jvm.Cond.static ({ cls := "java/util/Arrays", name := "fill", desc := "([II)V" } : Jvm.MethodName)) ∈ gt := List.mem_filter.mpr ⟨(i_tables_1_3 _ (List.mem_of_getElem? (i := 148) rfl)), rfl⟩
theorem k_135 : (Jvm.Cond.fieldLink "MacroMill$Macros" (64 : Nat) "MacroMill$Macros" "names" "I") ∈ gt := List.mem_filter.mpr ⟨(i_tables_1_2 _ (List.mem_of_getElem? (i := 192) rfl)), rfl⟩
theorem k_136 : (Jvm.Cond.fieldLink "MacroMill$Macros" (68 : Nat) "MacroMill$Macros" "there" "I") ∈ gt := List.mem_filter.mpr ⟨(i_tables_1_2 _ (List.mem_of_getElem? (i := 193) rfl)), rfl⟩
theorem k_137 : (Jvm.Cond.fieldLink "MacroMill$Macros" (71 : Nat) "MacroMill$Macros" "used" "I") ∈ gt := List.mem_filter.mpr ⟨(i_tables_1_2 _ (List.mem_of_getElem? (i := 206) rfl)), rfl⟩
theorem k_138 : (Jvm.Cond.fieldLink "MacroMill$Macros" (74 : Nat) "MacroMill$Macros" "sets" "I") ∈ gt := List.mem_filter.mpr ⟨(i_tables_1_2 _ (List.mem_of_getElem? (i := 210) rfl)), rfl⟩
theorem k_139 : (Jvm.Cond.methodLink "MacroMill$Lines" (49 : Nat) ({ cls := "java/util/Arrays", name := "fill", desc := "([II)V" } : Jvm.MethodName)) ∈ gt := List.mem_filter.mpr ⟨(i_tables_1_3 _ (List.mem_of_getElem? (i := 154) rfl)), rfl⟩
theorem k_140 : (Jvm.Cond.fieldLink "MacroMill$Lines" (55 : Nat) "MacroMill$Lines" "depth" "I") ∈ gt := List.mem_filter.mpr ⟨(i_tables_1_3 _ (List.mem_of_getElem? (i := 29) rfl)), rfl⟩
theorem k_141 : (Jvm.Cond.fieldLink "MacroMill$Lines" (59 : Nat) "MacroMill$Lines" "begun" "I") ∈ gt := List.mem_filter.mpr ⟨(i_tables_1_3 _ (List.mem_of_getElem? (i := 31) rfl)), rfl⟩
theorem k_142 : (Jvm.Cond.fieldLink "MacroMill$Lines" (62 : Nat) "MacroMill$Lines" "begunBytes" "I") ∈ gt := List.mem_filter.mpr ⟨(i_tables_1_3 _ (List.mem_of_getElem? (i := 32) rfl)), rfl⟩
theorem k_143 : (Jvm.Cond.fieldLink "MacroMill$Lines" (65 : Nat) "MacroMill$Lines" "lines" "I") ∈ gt := List.mem_filter.mpr ⟨(i_tables_1_3 _ (List.mem_of_getElem? (i := 33) rfl)), rfl⟩
theorem k_144 : (Jvm.Cond.fieldLink "MacroMill$Lines" (68 : Nat) "MacroMill$Lines" "loneQuotes" "I") ∈ gt := List.mem_filter.mpr ⟨(i_tables_1_3 _ (List.mem_of_getElem? (i := 34) rfl)), rfl⟩
theorem k_145 : (Jvm.Cond.fieldLink "MacroMill$Lines" (71 : Nat) "MacroMill$Lines" "row" "I") ∈ gt := List.mem_filter.mpr ⟨(i_tables_1_3 _ (List.mem_of_getElem? (i := 35) rfl)), rfl⟩
theorem k_146 : (Jvm.Cond.fieldLink "MacroMill$Lines" (74 : Nat) "MacroMill$Lines" "count" "I") ∈ gt := List.mem_filter.mpr ⟨(i_tables_1_3 _ (List.mem_of_getElem? (i := 37) rfl)), rfl⟩
theorem k_147 : (Jvm.Cond.fieldLink "MacroMill$Lines" (77 : Nat) "MacroMill$Lines" "lineBehind" "I") ∈ gt := List.mem_filter.mpr ⟨(i_tables_1_3 _ (List.mem_of_getElem? (i := 39) rfl)), rfl⟩
theorem k_148 : (Jvm.Cond.fieldLink "MacroMill$Second" (12 : Nat) "MacroMill$Second" "tokens" "LMacroMill$Tokens;") ∈ gt := List.mem_filter.mpr ⟨(i_tables_1_3 _ (List.mem_of_getElem? (i := 158) rfl)), rfl⟩
theorem k_149 : (Jvm.Cond.code ({ cls := "MacroMill$Tokens", name := "clearAll", desc := "()V" } : Jvm.MethodName) prog_13_method_2_code (1 : Nat) (Option.none : Option Jvm.ClassFile.FieldType)) ∈ gt := List.mem_filter.mpr ⟨(i_tables_1_3 _ (List.mem_of_getElem? (i := 141) rfl)), rfl⟩
theorem k_150 : (Jvm.Cond.initialized "MacroMill$Tokens") ∈ gt := List.mem_filter.mpr ⟨(i_tables_1_1 _ (List.mem_of_getElem? (i := 10) rfl)), rfl⟩
theorem k_151 : (Jvm.Cond.methodLink "MacroMill$Second" (77 : Nat) ({ cls := "MacroMill$Tokens", name := "clearAll", desc := "()V" } : Jvm.MethodName)) ∈ gt := List.mem_filter.mpr ⟨(i_tables_1_3 _ (List.mem_of_getElem? (i := 138) rfl)), rfl⟩
theorem k_152 : (Jvm.Cond.instanceMethod ({ cls := "MacroMill$Tokens", name := "clearAll", desc := "()V" } : Jvm.MethodName)) ∈ gt := List.mem_filter.mpr ⟨(i_tables_1_3 _ (List.mem_of_getElem? (i := 139) rfl)), rfl⟩
theorem k_153 : (Jvm.Cond.selects "MacroMill$Tokens" ({ cls := "MacroMill$Tokens", name := "clearAll", desc := "()V" } : Jvm.MethodName) ({ cls := "MacroMill$Tokens", name := "clearAll", desc := "()V" } : Jvm.MethodName)) ∈ gt := List.mem_filter.mpr ⟨(i_tables_1_3 _ (List.mem_of_getElem? (i := 140) rfl)), rfl⟩
theorem k_154 : (Jvm.Cond.fieldLink "MacroMill$Second" (23 : Nat) "MacroMill$Second" "macros" "LMacroMill$Macros;") ∈ gt := List.mem_filter.mpr ⟨(i_tables_1_3 _ (List.mem_of_getElem? (i := 159) rfl)), rfl⟩
theorem k_155 : (Jvm.Cond.code ({ cls := "MacroMill$Macros", name := "clearAll", desc := "()V" } : Jvm.MethodName) prog_7_method_2_code (1 : Nat) (Option.none : Option Jvm.ClassFile.FieldType)) ∈ gt := List.mem_filter.mpr ⟨(i_tables_1_3 _ (List.mem_of_getElem? (i := 146) rfl)), rfl⟩
theorem k_156 : (Jvm.Cond.initialized "MacroMill$Macros") ∈ gt := List.mem_filter.mpr ⟨(i_tables_1_1 _ (List.mem_of_getElem? (i := 11) rfl)), rfl⟩
theorem k_157 : (Jvm.Cond.methodLink "MacroMill$Second" (80 : Nat) ({ cls := "MacroMill$Macros", name := "clearAll", desc := "()V" } : Jvm.MethodName)) ∈ gt := List.mem_filter.mpr ⟨(i_tables_1_3 _ (List.mem_of_getElem? (i := 143) rfl)), rfl⟩
theorem k_158 : (Jvm.Cond.instanceMethod ({ cls := "MacroMill$Macros", name := "clearAll", desc := "()V" } : Jvm.MethodName)) ∈ gt := List.mem_filter.mpr ⟨(i_tables_1_3 _ (List.mem_of_getElem? (i := 144) rfl)), rfl⟩
theorem k_159 : (Jvm.Cond.selects "MacroMill$Macros" ({ cls := "MacroMill$Macros", name := "clearAll", desc := "()V" } : Jvm.MethodName) ({ cls := "MacroMill$Macros", name := "clearAll", desc := "()V" } : Jvm.MethodName)) ∈ gt := List.mem_filter.mpr ⟨(i_tables_1_3 _ (List.mem_of_getElem? (i := 145) rfl)), rfl⟩
theorem k_160 : (Jvm.Cond.fieldLink "MacroMill$Second" (61 : Nat) "MacroMill$Second" "lines" "LMacroMill$Lines;") ∈ gt := List.mem_filter.mpr ⟨(i_tables_1_3 _ (List.mem_of_getElem? (i := 161) rfl)), rfl⟩
theorem k_161 : (Jvm.Cond.code ({ cls := "MacroMill$Lines", name := "clearAll", desc := "()V" } : Jvm.MethodName) prog_6_method_2_code (1 : Nat) (Option.none : Option Jvm.ClassFile.FieldType)) ∈ gt := List.mem_filter.mpr ⟨(i_tables_1_3 _ (List.mem_of_getElem? (i := 153) rfl)), rfl⟩
theorem k_162 : (Jvm.Cond.initialized "MacroMill$Lines") ∈ gt := List.mem_filter.mpr ⟨(i_tables_1_1 _ (List.mem_of_getElem? (i := 12) rfl)), rfl⟩
theorem k_163 : (Jvm.Cond.methodLink "MacroMill$Second" (81 : Nat) ({ cls := "MacroMill$Lines", name := "clearAll", desc := "()V" } : Jvm.MethodName)) ∈ gt := List.mem_filter.mpr ⟨(i_tables_1_3 _ (List.mem_of_getElem? (i := 150) rfl)), rfl⟩
theorem k_164 : (Jvm.Cond.instanceMethod ({ cls := "MacroMill$Lines", name := "clearAll", desc := "()V" } : Jvm.MethodName)) ∈ gt := List.mem_filter.mpr ⟨(i_tables_1_3 _ (List.mem_of_getElem? (i := 151) rfl)), rfl⟩
theorem k_165 : (Jvm.Cond.selects "MacroMill$Lines" ({ cls := "MacroMill$Lines", name := "clearAll", desc := "()V" } : Jvm.MethodName) ({ cls := "MacroMill$Lines", name := "clearAll", desc := "()V" } : Jvm.MethodName)) ∈ gt := List.mem_filter.mpr ⟨(i_tables_1_3 _ (List.mem_of_getElem? (i := 152) rfl)), rfl⟩
theorem k_166 : (Jvm.Cond.fieldLink "MacroMill$Second" (82 : Nat) "MacroMill$Second" "conditions" "I") ∈ gt := List.mem_filter.mpr ⟨(i_tables_1_3 _ (List.mem_of_getElem? (i := 165) rfl)), rfl⟩
theorem k_167 : (Jvm.Cond.methodLink "MacroMill$Second" (3 : Nat) ({ cls := "java/lang/Object", name := "<init>", desc := "()V" } : Jvm.MethodName)) ∈ gt := List.mem_filter.mpr ⟨(i_tables_1_2 _ (List.mem_of_getElem? (i := 120) rfl)), rfl⟩
theorem k_168 : (Jvm.Cond.classLink "MacroMill$Second" (9 : Nat) "MacroMill$Tokens") ∈ gt := List.mem_filter.mpr ⟨(i_tables_1_2 _ (List.mem_of_getElem? (i := 121) rfl)), rfl⟩
theorem k_169 : (Jvm.Cond.instantiable "MacroMill$Tokens" (10 : Nat)) ∈ gt := List.mem_filter.mpr ⟨(i_tables_1_2 _ (List.mem_of_getElem? (i := 122) rfl)), rfl⟩
theorem k_170 : (Jvm.Cond.code ({ cls := "MacroMill$Tokens", name := "<init>", desc := "()V" } : Jvm.MethodName) prog_13_method_1_code (1 : Nat) (Option.none : Option Jvm.ClassFile.FieldType)) ∈ gt := List.mem_filter.mpr ⟨(i_tables_1_2 _ (List.mem_of_getElem? (i := 125) rfl)), rfl⟩
theorem k_171 : (Jvm.Cond.methodLink "MacroMill$Second" (11 : Nat) ({ cls := "MacroMill$Tokens", name := "<init>", desc := "()V" } : Jvm.MethodName)) ∈ gt := List.mem_filter.mpr ⟨(i_tables_1_2 _ (List.mem_of_getElem? (i := 123) rfl)), rfl⟩
theorem k_172 : (Jvm.Cond.instanceMethod ({ cls := "MacroMill$Tokens", name := "<init>", desc := "()V" } : Jvm.MethodName)) ∈ gt := List.mem_filter.mpr ⟨(i_tables_1_2 _ (List.mem_of_getElem? (i := 124) rfl)), rfl⟩
theorem k_173 : (Jvm.Cond.classLink "MacroMill$Second" (18 : Nat) "MacroMill$Macros") ∈ gt := List.mem_filter.mpr ⟨(i_tables_1_2 _ (List.mem_of_getElem? (i := 182) rfl)), rfl⟩
theorem k_174 : (Jvm.Cond.instantiable "MacroMill$Macros" (19 : Nat)) ∈ gt := List.mem_filter.mpr ⟨(i_tables_1_2 _ (List.mem_of_getElem? (i := 183) rfl)), rfl⟩
theorem k_175 : (Jvm.Cond.code ({ cls := "MacroMill$Macros", name := "<init>", desc := "(LMacroMill$Tokens;)V" } : Jvm.MethodName) prog_7_method_1_code (2 : Nat) (Option.none : Option Jvm.ClassFile.FieldType)) ∈ gt := List.mem_filter.mpr ⟨(i_tables_1_2 _ (List.mem_of_getElem? (i := 186) rfl)), rfl⟩
theorem k_176 : (Jvm.Cond.methodLink "MacroMill$Second" (20 : Nat) ({ cls := "MacroMill$Macros", name := "<init>", desc := "(LMacroMill$Tokens;)V" } : Jvm.MethodName)) ∈ gt := List.mem_filter.mpr ⟨(i_tables_1_2 _ (List.mem_of_getElem? (i := 184) rfl)), rfl⟩
theorem k_177 : (Jvm.Cond.instanceMethod ({ cls := "MacroMill$Macros", name := "<init>", desc := "(LMacroMill$Tokens;)V" } : Jvm.MethodName)) ∈ gt := List.mem_filter.mpr ⟨(i_tables_1_2 _ (List.mem_of_getElem? (i := 185) rfl)), rfl⟩
theorem k_178 : (Jvm.Cond.fieldLink "MacroMill$Second" (27 : Nat) "MacroMill$Second" "conditionLine" "[I") ∈ gt := List.mem_filter.mpr ⟨(i_tables_1_3 _ (List.mem_of_getElem? (i := 163) rfl)), rfl⟩
theorem k_179 : (Jvm.Cond.fieldLink "MacroMill$Second" (31 : Nat) "MacroMill$Second" "condition" "[I") ∈ gt := List.mem_filter.mpr ⟨(i_tables_1_3 _ (List.mem_of_getElem? (i := 164) rfl)), rfl⟩
theorem k_180 : (Jvm.Cond.fieldLink "MacroMill$Second" (34 : Nat) "MacroMill$Second" "conditionsBefore" "[I") ∈ gt := List.mem_filter.mpr ⟨(i_tables_1_3 _ (List.mem_of_getElem? (i := 166) rfl)), rfl⟩
theorem k_181 : (Jvm.Cond.fieldLink "MacroMill$Second" (37 : Nat) "MacroMill$Second" "parameterTokens" "[I") ∈ gt := List.mem_filter.mpr ⟨(i_tables_1_3 _ (List.mem_of_getElem? (i := 173) rfl)), rfl⟩
theorem k_182 : (Jvm.Cond.fieldLink "MacroMill$Second" (40 : Nat) "MacroMill$Second" "title" "[B") ∈ gt := List.mem_filter.mpr ⟨(i_tables_1_3 _ (List.mem_of_getElem? (i := 176) rfl)), rfl⟩
theorem k_183 : (Jvm.Cond.fieldLink "MacroMill$Second" (44 : Nat) "MacroMill$Second" "files" "LMacroMill$Files;") ∈ gt := List.mem_filter.mpr ⟨(i_tables_1_3 _ (List.mem_of_getElem? (i := 155) rfl)), rfl⟩
theorem k_184 : (Jvm.Cond.fieldLink "MacroMill$Second" (48 : Nat) "MacroMill$Second" "outcome" "LMacroMill$Outcome;") ∈ gt := List.mem_filter.mpr ⟨(i_tables_1_3 _ (List.mem_of_getElem? (i := 156) rfl)), rfl⟩
theorem k_185 : (Jvm.Cond.fieldLink "MacroMill$Second" (52 : Nat) "MacroMill$Second" "reckoner" "LMacroMill$Reckoner;") ∈ gt := List.mem_filter.mpr ⟨(i_tables_1_3 _ (List.mem_of_getElem? (i := 157) rfl)), rfl⟩
theorem k_186 : (Jvm.Cond.classLink "MacroMill$Second" (56 : Nat) "MacroMill$Lines") ∈ gt := List.mem_filter.mpr ⟨(i_tables_1_3 _ (List.mem_of_getElem? (i := 12) rfl)), rfl⟩
theorem k_187 : (Jvm.Cond.instantiable "MacroMill$Lines" (19 : Nat)) ∈ gt := List.mem_filter.mpr ⟨(i_tables_1_3 _ (List.mem_of_getElem? (i := 13) rfl)), rfl⟩
theorem k_188 : (Jvm.Cond.code ({ cls := "MacroMill$Lines", name := "<init>", desc := "(LMacroMill$Files;LMacroMill$Tokens;LMacroMill$Outcome;)V" } : Jvm.MethodName) prog_6_method_1_code (4 : Nat) (Option.none : Option Jvm.ClassFile.FieldType)) ∈ gt := List.mem_filter.mpr ⟨(i_tables_1_3 _ (List.mem_of_getElem? (i := 16) rfl)), rfl⟩
theorem k_189 : (Jvm.Cond.methodLink "MacroMill$Second" (58 : Nat) ({ cls := "MacroMill$Lines", name := "<init>", desc := "(LMacroMill$Files;LMacroMill$Tokens;LMacroMill$Outcome;)V" } : Jvm.MethodName)) ∈ gt := List.mem_filter.mpr ⟨(i_tables_1_3 _ (List.mem_of_getElem? (i := 14) rfl)), rfl⟩
theorem k_190 : (Jvm.Cond.instanceMethod ({ cls := "MacroMill$Lines", name := "<init>", desc := "(LMacroMill$Files;LMacroMill$Tokens;LMacroMill$Outcome;)V" } : Jvm.MethodName)) ∈ gt := List.mem_filter.mpr ⟨(i_tables_1_3 _ (List.mem_of_getElem? (i := 15) rfl)), rfl⟩
theorem k_191 : (Jvm.Cond.classLink "MacroMill$Second" (65 : Nat) "MacroMill$Replacer") ∈ gt := List.mem_filter.mpr ⟨(i_tables_1_3 _ (List.mem_of_getElem? (i := 79) rfl)), rfl⟩
theorem k_192 : (Jvm.Cond.instantiable "MacroMill$Replacer" (16 : Nat)) ∈ gt := List.mem_filter.mpr ⟨(i_tables_1_3 _ (List.mem_of_getElem? (i := 80) rfl)), rfl⟩
theorem k_193 : (Jvm.Cond.initialized "MacroMill$Replacer") ∈ gt := List.mem_filter.mpr ⟨(i_tables_1_1 _ (List.mem_of_getElem? (i := 13) rfl)), rfl⟩
theorem k_194 : (Jvm.Cond.code ({ cls := "MacroMill$Replacer", name := "<init>", desc := "(LMacroMill$Tokens;LMacroMill$Macros;LMacroMill$Lines;LMacroMill$Outcome;)V" } : Jvm.MethodName) prog_11_method_1_code (5 : Nat) (Option.none : Option Jvm.ClassFile.FieldType)) ∈ gt := List.mem_filter.mpr ⟨(i_tables_1_3 _ (List.mem_of_getElem? (i := 83) rfl)), rfl⟩
theorem k_195 : (Jvm.Cond.methodLink "MacroMill$Second" (67 : Nat) ({ cls := "MacroMill$Replacer", name := "<init>", desc := "(LMacroMill$Tokens;LMacroMill$Macros;LMacroMill$Lines;LMacroMill$Outcome;)V" } : Jvm.MethodName)) ∈ gt := List.mem_filter.mpr ⟨(i_tables_1_3 _ (List.mem_of_getElem? (i := 81) rfl)), rfl⟩
theorem k_196 : (Jvm.Cond.instanceMethod ({ cls := "MacroMill$Replacer", name := "<init>", desc := "(LMacroMill$Tokens;LMacroMill$Macros;LMacroMill$Lines;LMacroMill$Outcome;)V" } : Jvm.MethodName)) ∈ gt := List.mem_filter.mpr ⟨(i_tables_1_3 _ (List.mem_of_getElem? (i := 82) rfl)), rfl⟩
theorem k_197 : (Jvm.Cond.fieldLink "MacroMill$Second" (70 : Nat) "MacroMill$Second" "replacer" "LMacroMill$Replacer;") ∈ gt := List.mem_filter.mpr ⟨(i_tables_1_3 _ (List.mem_of_getElem? (i := 162) rfl)), rfl⟩
theorem k_198 : (Jvm.Cond.code ({ cls := "MacroMill$Second", name := "forget", desc := "()V" } : Jvm.MethodName) prog_12_method_2_code (1 : Nat) (Option.none : Option Jvm.ClassFile.FieldType)) ∈ gt := List.mem_filter.mpr ⟨(i_tables_1_3 _ (List.mem_of_getElem? (i := 137) rfl)), rfl⟩
theorem k_199 : (Jvm.Cond.initialized "MacroMill$Second") ∈ gt := List.mem_filter.mpr ⟨(i_tables_1_1 _ (List.mem_of_getElem? (i := 9) rfl)), rfl⟩
theorem k_200 : (Jvm.Cond.methodLink "MacroMill$Second" (74 : Nat) ({ cls := "MacroMill$Second", name := "forget", desc := "()V" } : Jvm.MethodName)) ∈ gt := List.mem_filter.mpr ⟨(i_tables_1_3 _ (List.mem_of_getElem? (i := 134) rfl)), rfl⟩
theorem k_201 : (Jvm.Cond.instanceMethod ({ cls := "MacroMill$Second", name := "forget", desc := "()V" } : Jvm.MethodName)) ∈ gt := List.mem_filter.mpr ⟨(i_tables_1_3 _ (List.mem_of_getElem? (i := 135) rfl)), rfl⟩
theorem k_202 : (Jvm.Cond.selects "MacroMill$Second" ({ cls := "MacroMill$Second", name := "forget", desc := "()V" } : Jvm.MethodName) ({ cls := "MacroMill$Second", name := "forget", desc := "()V" } : Jvm.MethodName)) ∈ gt := List.mem_filter.mpr ⟨(i_tables_1_3 _ (List.mem_of_getElem? (i := 136) rfl)), rfl⟩
theorem k_203 : (Jvm.Cond.methodLink "MacroMill" (1 : Nat) ({ cls := "java/lang/Object", name := "<init>", desc := "()V" } : Jvm.MethodName)) ∈ gt := List.mem_filter.mpr ⟨(i_tables_1_1 _ (List.mem_of_getElem? (i := 30) rfl)), rfl⟩
theorem k_204 : (Jvm.Cond.fieldLink "MacroMill" (9 : Nat) "MacroMill" "tape" "[B") ∈ gt := List.mem_filter.mpr ⟨(i_tables_1_3 _ (List.mem_of_getElem? (i := 223) rfl)), rfl⟩
theorem k_205 : (Jvm.Cond.classLink "MacroMill" (13 : Nat) "MacroMill$Files") ∈ gt := List.mem_filter.mpr ⟨(i_tables_1_1 _ (List.mem_of_getElem? (i := 33) rfl)), rfl⟩
theorem k_206 : (Jvm.Cond.instantiable "MacroMill$Files" (5 : Nat)) ∈ gt := List.mem_filter.mpr ⟨(i_tables_1_1 _ (List.mem_of_getElem? (i := 34) rfl)), rfl⟩
theorem k_207 : (Jvm.Cond.initialized "MacroMill$Files") ∈ gt := List.mem_filter.mpr ⟨(i_tables_1_1 _ (List.mem_of_getElem? (i := 2) rfl)), rfl⟩
theorem k_208 : (Jvm.Cond.code ({ cls := "MacroMill$Files", name := "<init>", desc := "()V" } : Jvm.MethodName) prog_3_method_1_code (1 : Nat) (Option.none : Option Jvm.ClassFile.FieldType)) ∈ gt := List.mem_filter.mpr ⟨(i_tables_1_1 _ (List.mem_of_getElem? (i := 37) rfl)), rfl⟩
theorem k_209 : (Jvm.Cond.instanceMethod ({ cls := "MacroMill$Files", name := "<init>", desc := "()V" } : Jvm.MethodName)) ∈ gt := List.mem_filter.mpr ⟨(i_tables_1_1 _ (List.mem_of_getElem? (i := 36) rfl)), rfl⟩
theorem k_210 : (Jvm.Cond.fieldLink "MacroMill" (16 : Nat) "MacroMill" "files" "LMacroMill$Files;") ∈ gt := List.mem_filter.mpr ⟨(i_tables_1_3 _ (List.mem_of_getElem? (i := 226) rfl)), rfl⟩
theorem k_211 : (Jvm.Cond.classLink "MacroMill" (20 : Nat) "MacroMill$Outcome") ∈ gt := List.mem_filter.mpr ⟨(i_tables_1_1 _ (List.mem_of_getElem? (i := 65) rfl)), rfl⟩
theorem k_212 : (Jvm.Cond.instantiable "MacroMill$Outcome" (10 : Nat)) ∈ gt := List.mem_filter.mpr ⟨(i_tables_1_1 _ (List.mem_of_getElem? (i := 66) rfl)), rfl⟩
theorem k_213 : (Jvm.Cond.initialized "MacroMill$Outcome") ∈ gt := List.mem_filter.mpr ⟨(i_tables_1_1 _ (List.mem_of_getElem? (i := 3) rfl)), rfl⟩
theorem k_214 : (Jvm.Cond.code ({ cls := "MacroMill$Outcome", name := "<init>", desc := "()V" } : Jvm.MethodName) prog_9_method_1_code (1 : Nat) (Option.none : Option Jvm.ClassFile.FieldType)) ∈ gt := List.mem_filter.mpr ⟨(i_tables_1_1 _ (List.mem_of_getElem? (i := 69) rfl)), rfl⟩
theorem k_215 : (Jvm.Cond.instanceMethod ({ cls := "MacroMill$Outcome", name := "<init>", desc := "()V" } : Jvm.MethodName)) ∈ gt := List.mem_filter.mpr ⟨(i_tables_1_1 _ (List.mem_of_getElem? (i := 68) rfl)), rfl⟩
theorem k_216 : (Jvm.Cond.fieldLink "MacroMill" (23 : Nat) "MacroMill" "outcome" "LMacroMill$Outcome;") ∈ gt := List.mem_filter.mpr ⟨(i_tables_1_3 _ (List.mem_of_getElem? (i := 227) rfl)), rfl⟩
theorem k_217 : (Jvm.Cond.classLink "MacroMill" (27 : Nat) "MacroMill$Reckoner") ∈ gt := List.mem_filter.mpr ⟨(i_tables_1_1 _ (List.mem_of_getElem? (i := 124) rfl)), rfl⟩
theorem k_218 : (Jvm.Cond.instantiable "MacroMill$Reckoner" (13 : Nat)) ∈ gt := List.mem_filter.mpr ⟨(i_tables_1_1 _ (List.mem_of_getElem? (i := 125) rfl)), rfl⟩
theorem k_219 : (Jvm.Cond.initialized "MacroMill$Reckoner") ∈ gt := List.mem_filter.mpr ⟨(i_tables_1_1 _ (List.mem_of_getElem? (i := 4) rfl)), rfl⟩
theorem k_220 : (Jvm.Cond.code ({ cls := "MacroMill$Reckoner", name := "<init>", desc := "()V" } : Jvm.MethodName) prog_10_method_1_code (1 : Nat) (Option.none : Option Jvm.ClassFile.FieldType)) ∈ gt := List.mem_filter.mpr ⟨(i_tables_1_1 _ (List.mem_of_getElem? (i := 128) rfl)), rfl⟩
theorem k_221 : (Jvm.Cond.instanceMethod ({ cls := "MacroMill$Reckoner", name := "<init>", desc := "()V" } : Jvm.MethodName)) ∈ gt := List.mem_filter.mpr ⟨(i_tables_1_1 _ (List.mem_of_getElem? (i := 127) rfl)), rfl⟩
theorem k_222 : (Jvm.Cond.classLink "MacroMill" (30 : Nat) "MacroMill$First") ∈ gt := List.mem_filter.mpr ⟨(i_tables_1_1 _ (List.mem_of_getElem? (i := 172) rfl)), rfl⟩
theorem k_223 : (Jvm.Cond.instantiable "MacroMill$First" (15 : Nat)) ∈ gt := List.mem_filter.mpr ⟨(i_tables_1_1 _ (List.mem_of_getElem? (i := 173) rfl)), rfl⟩
theorem k_224 : (Jvm.Cond.initialized "MacroMill$First") ∈ gt := List.mem_filter.mpr ⟨(i_tables_1_1 _ (List.mem_of_getElem? (i := 5) rfl)), rfl⟩
theorem k_225 : (Jvm.Cond.code ({ cls := "MacroMill$First", name := "<init>", desc := "(LMacroMill$Outcome;LMacroMill$Reckoner;)V" } : Jvm.MethodName) prog_4_method_1_code (3 : Nat) (Option.none : Option Jvm.ClassFile.FieldType)) ∈ gt := List.mem_filter.mpr ⟨(i_tables_1_1 _ (List.mem_of_getElem? (i := 176) rfl)), rfl⟩
theorem k_226 : (Jvm.Cond.methodLink "MacroMill" (32 : Nat) ({ cls := "MacroMill$First", name := "<init>", desc := "(LMacroMill$Outcome;LMacroMill$Reckoner;)V" } : Jvm.MethodName)) ∈ gt := List.mem_filter.mpr ⟨(i_tables_1_1 _ (List.mem_of_getElem? (i := 174) rfl)), rfl⟩
theorem k_227 : (Jvm.Cond.instanceMethod ({ cls := "MacroMill$First", name := "<init>", desc := "(LMacroMill$Outcome;LMacroMill$Reckoner;)V" } : Jvm.MethodName)) ∈ gt := List.mem_filter.mpr ⟨(i_tables_1_1 _ (List.mem_of_getElem? (i := 175) rfl)), rfl⟩
theorem k_228 : (Jvm.Cond.fieldLink "MacroMill" (35 : Nat) "MacroMill" "first" "LMacroMill$First;") ∈ gt := List.mem_filter.mpr ⟨(i_tables_1_3 _ (List.mem_of_getElem? (i := 228) rfl)), rfl⟩
theorem k_229 : (Jvm.Cond.classLink "MacroMill" (39 : Nat) "MacroMill$Second") ∈ gt := List.mem_filter.mpr ⟨(i_tables_1_2 _ (List.mem_of_getElem? (i := 115) rfl)), rfl⟩
theorem k_230 : (Jvm.Cond.instantiable "MacroMill$Second" (22 : Nat)) ∈ gt := List.mem_filter.mpr ⟨(i_tables_1_2 _ (List.mem_of_getElem? (i := 116) rfl)), rfl⟩
theorem k_231 : (Jvm.Cond.code ({ cls := "MacroMill$Second", name := "<init>", desc := "(LMacroMill$Files;LMacroMill$Outcome;LMacroMill$Reckoner;)V" } : Jvm.MethodName) prog_12_method_1_code (4 : Nat) (Option.none : Option Jvm.ClassFile.FieldType)) ∈ gt := List.mem_filter.mpr ⟨(i_tables_1_2 _ (List.mem_of_getElem? (i := 119) rfl)), rfl⟩
theorem k_232 : (Jvm.Cond.methodLink "MacroMill" (41 : Nat) ({ cls := "MacroMill$Second", name := "<init>", desc := "(LMacroMill$Files;LMacroMill$Outcome;LMacroMill$Reckoner;)V" } : Jvm.MethodName)) ∈ gt := List.mem_filter.mpr ⟨(i_tables_1_2 _ (List.mem_of_getElem? (i := 117) rfl)), rfl⟩
theorem k_233 : (Jvm.Cond.instanceMethod ({ cls := "MacroMill$Second", name := "<init>", desc := "(LMacroMill$Files;LMacroMill$Outcome;LMacroMill$Reckoner;)V" } : Jvm.MethodName)) ∈ gt := List.mem_filter.mpr ⟨(i_tables_1_2 _ (List.mem_of_getElem? (i := 118) rfl)), rfl⟩
theorem k_234 : (Jvm.Cond.fieldLink "MacroMill" (44 : Nat) "MacroMill" "second" "LMacroMill$Second;") ∈ gt := List.mem_filter.mpr ⟨(i_tables_1_3 _ (List.mem_of_getElem? (i := 229) rfl)), rfl⟩
theorem k_235 : (Jvm.Cond.methodLink "MacroMillModel" (1 : Nat) ({ cls := "java/lang/Object", name := "<init>", desc := "()V" } : Jvm.MethodName)) ∈ gt := List.mem_filter.mpr ⟨(i_tables_1_9 _ (List.mem_of_getElem? (i := 47) rfl)), rfl⟩
theorem k_236 : (Jvm.Cond.fieldLink "MacroMillModel" (9 : Nat) "MacroMillModel" "tape" "[B") ∈ gt := List.mem_filter.mpr ⟨(i_tables_1_9 _ (List.mem_of_getElem? (i := 55) rfl)), rfl⟩
theorem k_237 : (Jvm.Cond.fieldLink "MacroMillModel" (13 : Nat) "MacroMillModel" "titles" "[B") ∈ gt := List.mem_filter.mpr ⟨(i_tables_1_9 _ (List.mem_of_getElem? (i := 59) rfl)), rfl⟩
theorem k_238 : (Jvm.Cond.fieldLink "MacroMillModel" (16 : Nat) "MacroMillModel" "titleSize" "[I") ∈ gt := List.mem_filter.mpr ⟨(i_tables_1_9 _ (List.mem_of_getElem? (i := 60) rfl)), rfl⟩
theorem k_239 : (Jvm.Cond.constant "MacroMillModel" (20 : Nat) (32768 : Int32)) ∈ gt := List.mem_filter.mpr ⟨(i_tables_1_9 _ (List.mem_of_getElem? (i := 48) rfl)), rfl⟩
theorem k_240 : (Jvm.Cond.fieldLink "MacroMillModel" (21 : Nat) "MacroMillModel" "bytes" "[B") ∈ gt := List.mem_filter.mpr ⟨(i_tables_1_9 _ (List.mem_of_getElem? (i := 61) rfl)), rfl⟩
theorem k_241 : (Jvm.Cond.fieldLink "MacroMillModel" (24 : Nat) "MacroMillModel" "at" "[I") ∈ gt := List.mem_filter.mpr ⟨(i_tables_1_9 _ (List.mem_of_getElem? (i := 62) rfl)), rfl⟩
theorem k_242 : (Jvm.Cond.fieldLink "MacroMillModel" (27 : Nat) "MacroMillModel" "size" "[I") ∈ gt := List.mem_filter.mpr ⟨(i_tables_1_9 _ (List.mem_of_getElem? (i := 63) rfl)), rfl⟩
theorem k_243 : (Jvm.Cond.constant "MacroMillModel" (30 : Nat) (65537 : Int32)) ∈ gt := List.mem_filter.mpr ⟨(i_tables_1_9 _ (List.mem_of_getElem? (i := 49) rfl)), rfl⟩
theorem k_244 : (Jvm.Cond.fieldLink "MacroMillModel" (31 : Nat) "MacroMillModel" "out" "[B") ∈ gt := List.mem_filter.mpr ⟨(i_tables_1_9 _ (List.mem_of_getElem? (i := 72) rfl)), rfl⟩
theorem k_245 : (Jvm.Cond.fieldLink "MacroMillModel" (34 : Nat) "MacroMillModel" "input" "[B") ∈ gt := List.mem_filter.mpr ⟨(i_tables_1_9 _ (List.mem_of_getElem? (i := 74) rfl)), rfl⟩
theorem k_246 : (Jvm.Cond.fieldLink "MacroMillModel" (37 : Nat) "MacroMillModel" "open" "[I") ∈ gt := List.mem_filter.mpr ⟨(i_tables_1_9 _ (List.mem_of_getElem? (i := 80) rfl)), rfl⟩
theorem k_247 : (Jvm.Cond.fieldLink "MacroMillModel" (40 : Nat) "MacroMillModel" "close" "[I") ∈ gt := List.mem_filter.mpr ⟨(i_tables_1_9 _ (List.mem_of_getElem? (i := 82) rfl)), rfl⟩
theorem k_248 : (Jvm.Cond.fieldLink "MacroMillModel" (43 : Nat) "MacroMillModel" "token" "[B") ∈ gt := List.mem_filter.mpr ⟨(i_tables_1_9 _ (List.mem_of_getElem? (i := 85) rfl)), rfl⟩
theorem k_249 : (Jvm.Cond.constant "MacroMillModel" (46 : Nat) (32769 : Int32)) ∈ gt := List.mem_filter.mpr ⟨(i_tables_1_9 _ (List.mem_of_getElem? (i := 50) rfl)), rfl⟩
theorem k_250 : (Jvm.Cond.fieldLink "MacroMillModel" (47 : Nat) "MacroMillModel" "given" "[B") ∈ gt := List.mem_filter.mpr ⟨(i_tables_1_9 _ (List.mem_of_getElem? (i := 87) rfl)), rfl⟩
theorem k_251 : (Jvm.Cond.fieldLink "MacroMillModel" (50 : Nat) "MacroMillModel" "meaningAt" "[I") ∈ gt := List.mem_filter.mpr ⟨(i_tables_1_9 _ (List.mem_of_getElem? (i := 90) rfl)), rfl⟩
theorem k_252 : (Jvm.Cond.fieldLink "MacroMillModel" (53 : Nat) "MacroMillModel" "meaningName" "[I") ∈ gt := List.mem_filter.mpr ⟨(i_tables_1_9 _ (List.mem_of_getElem? (i := 91) rfl)), rfl⟩
theorem k_253 : (Jvm.Cond.fieldLink "MacroMillModel" (56 : Nat) "MacroMillModel" "meaningText" "[I") ∈ gt := List.mem_filter.mpr ⟨(i_tables_1_9 _ (List.mem_of_getElem? (i := 92) rfl)), rfl⟩
theorem k_254 : (Jvm.Cond.fieldLink "MacroMillModel" (59 : Nat) "MacroMillModel" "builtIn" "[I") ∈ gt := List.mem_filter.mpr ⟨(i_tables_1_9 _ (List.mem_of_getElem? (i := 93) rfl)), rfl⟩
theorem k_255 : (Jvm.Cond.fieldLink "MacroMillModel" (62 : Nat) "MacroMillModel" "texts" "[B") ∈ gt := List.mem_filter.mpr ⟨(i_tables_1_9 _ (List.mem_of_getElem? (i := 94) rfl)), rfl⟩
theorem k_256 : (Jvm.Cond.constant "MacroMillModel" (65 : Nat) (327680 : Int32)) ∈ gt := List.mem_filter.mpr ⟨(i_tables_1_9 _ (List.mem_of_getElem? (i := 51) rfl)), rfl⟩
theorem k_257 : (Jvm.Cond.fieldLink "MacroMillModel" (66 : Nat) "MacroMillModel" "diverted" "[B") ∈ gt := List.mem_filter.mpr ⟨(i_tables_1_9 _ (List.mem_of_getElem? (i := 98) rfl)), rfl⟩
theorem k_258 : (Jvm.Cond.fieldLink "MacroMillModel" (69 : Nat) "MacroMillModel" "divertedSize" "[I") ∈ gt := List.mem_filter.mpr ⟨(i_tables_1_9 _ (List.mem_of_getElem? (i := 99) rfl)), rfl⟩
theorem k_259 : (Jvm.Cond.fieldLink "MacroMillModel" (72 : Nat) "MacroMillModel" "arguments" "[B") ∈ gt := List.mem_filter.mpr ⟨(i_tables_1_9 _ (List.mem_of_getElem? (i := 103) rfl)), rfl⟩
theorem k_260 : (Jvm.Cond.fieldLink "MacroMillModel" (75 : Nat) "MacroMillModel" "start" "[I") ∈ gt := List.mem_filter.mpr ⟨(i_tables_1_9 _ (List.mem_of_getElem? (i := 106) rfl)), rfl⟩
theorem k_261 : (Jvm.Cond.fieldLink "MacroMillModel" (78 : Nat) "MacroMillModel" "waitingSign" "[I") ∈ gt := List.mem_filter.mpr ⟨(i_tables_1_9 _ (List.mem_of_getElem? (i := 113) rfl)), rfl⟩
theorem k_262 : (Jvm.Cond.fieldLink "MacroMillModel" (81 : Nat) "MacroMillModel" "waitingValue" "[I") ∈ gt := List.mem_filter.mpr ⟨(i_tables_1_9 _ (List.mem_of_getElem? (i := 114) rfl)), rfl⟩
theorem k_263 : (Jvm.Cond.constant "MacroMillModel" (84 : Nat) (125552 : Int32)) ∈ gt := List.mem_filter.mpr ⟨(i_tables_1_9 _ (List.mem_of_getElem? (i := 52) rfl)), rfl⟩
theorem k_264 : (Jvm.Cond.fieldLink "MacroMillModel" (85 : Nat) "MacroMillModel" "store" "[B") ∈ gt := List.mem_filter.mpr ⟨(i_tables_1_9 _ (List.mem_of_getElem? (i := 115) rfl)), rfl⟩
theorem k_265 : (Jvm.Cond.constant "MacroMillModel" (88 : Nat) (65570 : Int32)) ∈ gt := List.mem_filter.mpr ⟨(i_tables_1_9 _ (List.mem_of_getElem? (i := 53) rfl)), rfl⟩
theorem k_266 : (Jvm.Cond.fieldLink "MacroMillModel" (89 : Nat) "MacroMillModel" "lineOf" "[I") ∈ gt := List.mem_filter.mpr ⟨(i_tables_1_9 _ (List.mem_of_getElem? (i := 116) rfl)), rfl⟩
theorem k_267 : (Jvm.Cond.fieldLink "MacroMillModel" (92 : Nat) "MacroMillModel" "sourceAt" "[I") ∈ gt := List.mem_filter.mpr ⟨(i_tables_1_9 _ (List.mem_of_getElem? (i := 117) rfl)), rfl⟩
theorem k_268 : (Jvm.Cond.fieldLink "MacroMillModel" (95 : Nat) "MacroMillModel" "sourceSize" "[I") ∈ gt := List.mem_filter.mpr ⟨(i_tables_1_9 _ (List.mem_of_getElem? (i := 118) rfl)), rfl⟩
theorem k_269 : (Jvm.Cond.constant "MacroMillModel" (98 : Nat) (260000 : Int32)) ∈ gt := List.mem_filter.mpr ⟨(i_tables_1_9 _ (List.mem_of_getElem? (i := 54) rfl)), rfl⟩
theorem k_270 : (Jvm.Cond.fieldLink "MacroMillModel" (99 : Nat) "MacroMillModel" "cellAt" "[I") ∈ gt := List.mem_filter.mpr ⟨(i_tables_1_9 _ (List.mem_of_getElem? (i := 123) rfl)), rfl⟩
theorem k_271 : (Jvm.Cond.fieldLink "MacroMillModel" (102 : Nat) "MacroMillModel" "cellSize" "[I") ∈ gt := List.mem_filter.mpr ⟨(i_tables_1_9 _ (List.mem_of_getElem? (i := 124) rfl)), rfl⟩
theorem k_272 : (Jvm.Cond.fieldLink "MacroMillModel" (105 : Nat) "MacroMillModel" "cellLine" "[I") ∈ gt := List.mem_filter.mpr ⟨(i_tables_1_9 _ (List.mem_of_getElem? (i := 125) rfl)), rfl⟩
theorem k_273 : (Jvm.Cond.fieldLink "MacroMillModel" (108 : Nat) "MacroMillModel" "cellSet" "[I") ∈ gt := List.mem_filter.mpr ⟨(i_tables_1_9 _ (List.mem_of_getElem? (i := 126) rfl)), rfl⟩
theorem k_274 : (Jvm.Cond.fieldLink "MacroMillModel" (111 : Nat) "MacroMillModel" "cellNext" "[I") ∈ gt := List.mem_filter.mpr ⟨(i_tables_1_9 _ (List.mem_of_getElem? (i := 127) rfl)), rfl⟩
theorem k_275 : (Jvm.Cond.fieldLink "MacroMillModel" (114 : Nat) "MacroMillModel" "isBefore" "[Z") ∈ gt := List.mem_filter.mpr ⟨(i_tables_1_9 _ (List.mem_of_getElem? (i := 128) rfl)), rfl⟩
theorem k_276 : (Jvm.Cond.fieldLink "MacroMillModel" (118 : Nat) "MacroMillModel" "isFirst" "[Z") ∈ gt := List.mem_filter.mpr ⟨(i_tables_1_9 _ (List.mem_of_getElem? (i := 129) rfl)), rfl⟩
theorem k_277 : (Jvm.Cond.fieldLink "MacroMillModel" (121 : Nat) "MacroMillModel" "nameAt" "[I") ∈ gt := List.mem_filter.mpr ⟨(i_tables_1_9 _ (List.mem_of_getElem? (i := 131) rfl)), rfl⟩
theorem k_278 : (Jvm.Cond.fieldLink "MacroMillModel" (124 : Nat) "MacroMillModel" "nameLength" "[I") ∈ gt := List.mem_filter.mpr ⟨(i_tables_1_9 _ (List.mem_of_getElem? (i := 132) rfl)), rfl⟩
theorem k_279 : (Jvm.Cond.fieldLink "MacroMillModel" (127 : Nat) "MacroMillModel" "isMacro" "[Z") ∈ gt := List.mem_filter.mpr ⟨(i_tables_1_9 _ (List.mem_of_getElem? (i := 133) rfl)), rfl⟩
theorem k_280 : (Jvm.Cond.fieldLink "MacroMillModel" (130 : Nat) "MacroMillModel" "parameterCount" "[I") ∈ gt := List.mem_filter.mpr ⟨(i_tables_1_9 _ (List.mem_of_getElem? (i := 134) rfl)), rfl⟩
theorem k_281 : (Jvm.Cond.fieldLink "MacroMillModel" (133 : Nat) "MacroMillModel" "takesRest" "[Z") ∈ gt := List.mem_filter.mpr ⟨(i_tables_1_9 _ (List.mem_of_getElem? (i := 135) rfl)), rfl⟩
theorem k_282 : (Jvm.Cond.fieldLink "MacroMillModel" (136 : Nat) "MacroMillModel" "parameterAt" "[I") ∈ gt := List.mem_filter.mpr ⟨(i_tables_1_9 _ (List.mem_of_getElem? (i := 136) rfl)), rfl⟩
theorem k_283 : (Jvm.Cond.fieldLink "MacroMillModel" (139 : Nat) "MacroMillModel" "parameterSize" "[I") ∈ gt := List.mem_filter.mpr ⟨(i_tables_1_9 _ (List.mem_of_getElem? (i := 137) rfl)), rfl⟩
theorem k_284 : (Jvm.Cond.fieldLink "MacroMillModel" (142 : Nat) "MacroMillModel" "bodyAt" "[I") ∈ gt := List.mem_filter.mpr ⟨(i_tables_1_9 _ (List.mem_of_getElem? (i := 139) rfl)), rfl⟩
theorem k_285 : (Jvm.Cond.fieldLink "MacroMillModel" (145 : Nat) "MacroMillModel" "bodySize" "[I") ∈ gt := List.mem_filter.mpr ⟨(i_tables_1_9 _ (List.mem_of_getElem? (i := 140) rfl)), rfl⟩
theorem k_286 : (Jvm.Cond.fieldLink "MacroMillModel" (148 : Nat) "MacroMillModel" "bodyBefore" "[Z") ∈ gt := List.mem_filter.mpr ⟨(i_tables_1_9 _ (List.mem_of_getElem? (i := 141) rfl)), rfl⟩
theorem k_287 : (Jvm.Cond.fieldLink "MacroMillModel" (151 : Nat) "MacroMillModel" "bodyFrom" "[I") ∈ gt := List.mem_filter.mpr ⟨(i_tables_1_9 _ (List.mem_of_getElem? (i := 142) rfl)), rfl⟩
theorem k_288 : (Jvm.Cond.fieldLink "MacroMillModel" (154 : Nat) "MacroMillModel" "bodyCount" "[I") ∈ gt := List.mem_filter.mpr ⟨(i_tables_1_9 _ (List.mem_of_getElem? (i := 143) rfl)), rfl⟩
theorem k_289 : (Jvm.Cond.fieldLink "MacroMillModel" (157 : Nat) "MacroMillModel" "members" "[J") ∈ gt := List.mem_filter.mpr ⟨(i_tables_1_9 _ (List.mem_of_getElem? (i := 145) rfl)), rfl⟩
theorem k_290 : (Jvm.Cond.fieldLink "MacroMillModel" (161 : Nat) "MacroMillModel" "some" "[J") ∈ gt := List.mem_filter.mpr ⟨(i_tables_1_9 _ (List.mem_of_getElem? (i := 146) rfl)), rfl⟩
theorem k_291 : (Jvm.Cond.fieldLink "MacroMillModel" (164 : Nat) "MacroMillModel" "fileOf" "[I") ∈ gt := List.mem_filter.mpr ⟨(i_tables_1_9 _ (List.mem_of_getElem? (i := 149) rfl)), rfl⟩
theorem k_292 : (Jvm.Cond.fieldLink "MacroMillModel" (167 : Nat) "MacroMillModel" "shiftOf" "[I") ∈ gt := List.mem_filter.mpr ⟨(i_tables_1_9 _ (List.mem_of_getElem? (i := 150) rfl)), rfl⟩
theorem k_293 : (Jvm.Cond.fieldLink "MacroMillModel" (170 : Nat) "MacroMillModel" "titleAt" "[I") ∈ gt := List.mem_filter.mpr ⟨(i_tables_1_9 _ (List.mem_of_getElem? (i := 151) rfl)), rfl⟩
theorem k_294 : (Jvm.Cond.fieldLink "MacroMillModel" (173 : Nat) "MacroMillModel" "titleLength" "[I") ∈ gt := List.mem_filter.mpr ⟨(i_tables_1_9 _ (List.mem_of_getElem? (i := 152) rfl)), rfl⟩
theorem k_295 : (Jvm.Cond.fieldLink "MacroMillModel" (176 : Nat) "MacroMillModel" "hide" "[J") ∈ gt := List.mem_filter.mpr ⟨(i_tables_1_9 _ (List.mem_of_getElem? (i := 154) rfl)), rfl⟩
theorem k_296 : (Jvm.Cond.fieldLink "MacroMillModel" (179 : Nat) "MacroMillModel" "argumentFrom" "[I") ∈ gt := List.mem_filter.mpr ⟨(i_tables_1_9 _ (List.mem_of_getElem? (i := 155) rfl)), rfl⟩
theorem k_297 : (Jvm.Cond.fieldLink "MacroMillModel" (182 : Nat) "MacroMillModel" "argumentEnd" "[I") ∈ gt := List.mem_filter.mpr ⟨(i_tables_1_9 _ (List.mem_of_getElem? (i := 156) rfl)), rfl⟩
theorem k_298 : (Jvm.Cond.fieldLink "MacroMillModel" (185 : Nat) "MacroMillModel" "headOf" "[I") ∈ gt := List.mem_filter.mpr ⟨(i_tables_1_9 _ (List.mem_of_getElem? (i := 158) rfl)), rfl⟩
theorem k_299 : (Jvm.Cond.fieldLink "MacroMillModel" (188 : Nat) "MacroMillModel" "tailOf" "[I") ∈ gt := List.mem_filter.mpr ⟨(i_tables_1_9 _ (List.mem_of_getElem? (i := 159) rfl)), rfl⟩
theorem k_300 : (Jvm.Cond.fieldLink "MacroMillModel" (191 : Nat) "MacroMillModel" "madeHead" "[I") ∈ gt := List.mem_filter.mpr ⟨(i_tables_1_9 _ (List.mem_of_getElem? (i := 160) rfl)), rfl⟩
theorem k_301 : (Jvm.Cond.fieldLink "MacroMillModel" (194 : Nat) "MacroMillModel" "madeTail" "[I") ∈ gt := List.mem_filter.mpr ⟨(i_tables_1_9 _ (List.mem_of_getElem? (i := 161) rfl)), rfl⟩
theorem k_302 : (Jvm.Cond.fieldLink "MacroMillModel" (197 : Nat) "MacroMillModel" "placeOf" "[I") ∈ gt := List.mem_filter.mpr ⟨(i_tables_1_9 _ (List.mem_of_getElem? (i := 162) rfl)), rfl⟩
theorem k_303 : (Jvm.Cond.fieldLink "MacroMillModel" (200 : Nat) "MacroMillModel" "ifLine" "[I") ∈ gt := List.mem_filter.mpr ⟨(i_tables_1_9 _ (List.mem_of_getElem? (i := 171) rfl)), rfl⟩
theorem k_304 : (Jvm.Cond.fieldLink "MacroMillModel" (203 : Nat) "MacroMillModel" "outside" "[Z") ∈ gt := List.mem_filter.mpr ⟨(i_tables_1_9 _ (List.mem_of_getElem? (i := 172) rfl)), rfl⟩
theorem k_305 : (Jvm.Cond.fieldLink "MacroMillModel" (206 : Nat) "MacroMillModel" "done" "[Z") ∈ gt := List.mem_filter.mpr ⟨(i_tables_1_9 _ (List.mem_of_getElem? (i := 173) rfl)), rfl⟩
theorem k_306 : (Jvm.Cond.fieldLink "MacroMillModel" (209 : Nat) "MacroMillModel" "counts" "[Z") ∈ gt := List.mem_filter.mpr ⟨(i_tables_1_9 _ (List.mem_of_getElem? (i := 174) rfl)), rfl⟩
theorem k_307 : (Jvm.Cond.fieldLink "MacroMillModel" (212 : Nat) "MacroMillModel" "hasElse" "[Z") ∈ gt := List.mem_filter.mpr ⟨(i_tables_1_9 _ (List.mem_of_getElem? (i := 175) rfl)), rfl⟩
theorem k_308 : (Jvm.Cond.fieldLink "MacroMillModel" (215 : Nat) "MacroMillModel" "newAt" "[I") ∈ gt := List.mem_filter.mpr ⟨(i_tables_1_9 _ (List.mem_of_getElem? (i := 179) rfl)), rfl⟩
theorem k_309 : (Jvm.Cond.fieldLink "MacroMillModel" (218 : Nat) "MacroMillModel" "newSize" "[I") ∈ gt := List.mem_filter.mpr ⟨(i_tables_1_9 _ (List.mem_of_getElem? (i := 180) rfl)), rfl⟩
theorem k_310 : (Jvm.Cond.fieldLink "MacroMillModel" (221 : Nat) "MacroMillModel" "wanted" "[B") ∈ gt := List.mem_filter.mpr ⟨(i_tables_1_9 _ (List.mem_of_getElem? (i := 183) rfl)), rfl⟩
theorem k_311 : (Jvm.Cond.fieldLink "MacroMillModel" (224 : Nat) "MacroMillModel" "heldSign" "[I") ∈ gt := List.mem_filter.mpr ⟨(i_tables_1_9 _ (List.mem_of_getElem? (i := 195) rfl)), rfl⟩
theorem k_312 : (Jvm.Cond.fieldLink "MacroMillModel" (227 : Nat) "MacroMillModel" "heldValue" "[J") ∈ gt := List.mem_filter.mpr ⟨(i_tables_1_9 _ (List.mem_of_getElem? (i := 196) rfl)), rfl⟩
theorem k_313 : (Jvm.Cond.fieldLink "MacroMillModel" (230 : Nat) "MacroMillModel" "heldPlain" "[Z") ∈ gt := List.mem_filter.mpr ⟨(i_tables_1_9 _ (List.mem_of_getElem? (i := 197) rfl)), rfl⟩
theorem k_314 : (Jvm.Cond.fieldLink "MacroMillModel" (233 : Nat) "MacroMillModel" "first" "[B") ∈ gt := List.mem_filter.mpr ⟨(i_tables_1_9 _ (List.mem_of_getElem? (i := 198) rfl)), rfl⟩
theorem k_315 : (Jvm.Cond.fieldLink "MacroMill" (48 : Nat) "MacroMill" "tapeSize" "I") ∈ gt := List.mem_filter.mpr ⟨(i_tables_1_3 _ (List.mem_of_getElem? (i := 224) rfl)), rfl⟩
theorem k_316 : (Jvm.Cond.code ({ cls := "MacroMill", name := "layNumber", desc := "(I)V" } : Jvm.MethodName) prog_1_method_13_code (3 : Nat) (Option.none : Option Jvm.ClassFile.FieldType)) ∈ gt := List.mem_filter.mpr ⟨(i_tables_1_4 _ (List.mem_of_getElem? (i := 12) rfl)), rfl⟩
theorem k_317 : (Jvm.Cond.initialized "MacroMill") ∈ gt := List.mem_filter.mpr ⟨(i_tables_1_1 _ (List.mem_of_getElem? (i := 1) rfl)), rfl⟩
theorem k_318 : (Jvm.Cond.methodLink "MacroMill" (52 : Nat) ({ cls := "MacroMill", name := "layNumber", desc := "(I)V" } : Jvm.MethodName)) ∈ gt := List.mem_filter.mpr ⟨(i_tables_1_4 _ (List.mem_of_getElem? (i := 9) rfl)), rfl⟩
theorem k_319 : (Jvm.Cond.instanceMethod ({ cls := "MacroMill", name := "layNumber", desc := "(I)V" } : Jvm.MethodName)) ∈ gt := List.mem_filter.mpr ⟨(i_tables_1_4 _ (List.mem_of_getElem? (i := 11) rfl)), rfl⟩
theorem k_320 : (Cond.selects "MacroMill" ⟨"MacroMill", "layNumber", "(I)V"⟩ ⟨"MacroMill", "layNumber", "(I)V"⟩) ∈ gt := List.mem_filter.mpr ⟨(List.mem_append_left _ (List.mem_map.mpr ⟨(⟨"MacroMill", "layNumber", "(I)V"⟩, 7), i_lw_privs_1 _ (List.mem_of_getElem? (i := 0) rfl), rfl⟩)), rfl⟩
theorem k_321 : (Jvm.Cond.fieldLink "MacroMill" (56 : Nat) "MacroMill" "canBeCut" "Z") ∈ gt := List.mem_filter.mpr ⟨(i_tables_1_3 _ (List.mem_of_getElem? (i := 225) rfl)), rfl⟩
theorem k_322 : (Jvm.Cond.code ({ cls := "MacroMill", name := "useTape", desc := "()I" } : Jvm.MethodName) prog_1_method_14_code (2 : Nat) (Option.some Jvm.ClassFile.FieldType.int)) ∈ gt := List.mem_filter.mpr ⟨(i_tables_1_4 _ (List.mem_of_getElem? (i := 24) rfl)), rfl⟩
theorem k_323 : (Jvm.Cond.methodLink "MacroMill" (60 : Nat) ({ cls := "MacroMill", name := "useTape", desc := "()I" } : Jvm.MethodName)) ∈ gt := List.mem_filter.mpr ⟨(i_tables_1_4 _ (List.mem_of_getElem? (i := 21) rfl)), rfl⟩
theorem k_324 : (Jvm.Cond.instanceMethod ({ cls := "MacroMill", name := "useTape", desc := "()I" } : Jvm.MethodName)) ∈ gt := List.mem_filter.mpr ⟨(i_tables_1_4 _ (List.mem_of_getElem? (i := 23) rfl)), rfl⟩
theorem k_325 : (Cond.selects "MacroMill" ⟨"MacroMill", "useTape", "()I"⟩ ⟨"MacroMill", "useTape", "()I"⟩) ∈ gt := List.mem_filter.mpr ⟨(List.mem_append_left _ (List.mem_map.mpr ⟨(⟨"MacroMill", "useTape", "()I"⟩, 7), i_lw_privs_1 _ (List.mem_of_getElem? (i := 1) rfl), rfl⟩)), rfl⟩
theorem k_326 : (Jvm.Cond.fieldLink "MacroMill" (72 : Nat) "MacroMill$Files" "count" "I") ∈ gt := List.mem_filter.mpr ⟨(i_tables_1_1 _ (List.mem_of_getElem? (i := 51) rfl)), rfl⟩
theorem k_327 : (Jvm.Cond.fieldLink "MacroMill" (110 : Nat) "MacroMill$Outcome" "file" "I") ∈ gt := List.mem_filter.mpr ⟨(i_tables_1_1 _ (List.mem_of_getElem? (i := 85) rfl)), rfl⟩
theorem k_328 : (Jvm.Cond.fieldLink "MacroMill" (113 : Nat) "MacroMill$Outcome" "line" "I") ∈ gt := List.mem_filter.mpr ⟨(i_tables_1_1 _ (List.mem_of_getElem? (i := 87) rfl)), rfl⟩
theorem k_329 : (Jvm.Cond.fieldLink "MacroMill" (116 : Nat) "MacroMill$Outcome" "taken" "I") ∈ gt := List.mem_filter.mpr ⟨(i_tables_1_1 _ (List.mem_of_getElem? (i := 92) rfl)), rfl⟩
theorem k_330 : (Jvm.Cond.fieldLink "MacroMill" (119 : Nat) "MacroMill$Outcome" "putOut" "I") ∈ gt := List.mem_filter.mpr ⟨(i_tables_1_1 _ (List.mem_of_getElem? (i := 95) rfl)), rfl⟩
theorem k_331 : (Jvm.Cond.fieldLink "MacroMill" (122 : Nat) "MacroMill$Outcome" "substituted" "I") ∈ gt := List.mem_filter.mpr ⟨(i_tables_1_1 _ (List.mem_of_getElem? (i := 98) rfl)), rfl⟩
theorem k_332 : (Jvm.Cond.fieldLink "MacroMill" (125 : Nat) "MacroMill$Second" "macros" "LMacroMill$Macros;") ∈ gt := List.mem_filter.mpr ⟨(i_tables_1_3 _ (List.mem_of_getElem? (i := 160) rfl)), rfl⟩
theorem k_333 : (Jvm.Cond.fieldLink "MacroMill" (129 : Nat) "MacroMill$Macros" "there" "I") ∈ gt := List.mem_filter.mpr ⟨(i_tables_1_2 _ (List.mem_of_getElem? (i := 194) rfl)), rfl⟩
theorem k_334 : (Jvm.Cond.fieldLink "MacroMill" (101 : Nat) "MacroMill$Outcome" "size" "I") ∈ gt := List.mem_filter.mpr ⟨(i_tables_1_1 _ (List.mem_of_getElem? (i := 80) rfl)), rfl⟩
theorem k_335 : (Jvm.Cond.fieldLink "MacroMill" (104 : Nat) "MacroMill$Outcome" "astray" "I") ∈ gt := List.mem_filter.mpr ⟨(i_tables_1_1 _ (List.mem_of_getElem? (i := 102) rfl)), rfl⟩
theorem k_336 : (Jvm.Cond.code ({ cls := "MacroMill", name := "hashOf", desc := "([BII)I" } : Jvm.MethodName) prog_1_method_19_code (5 : Nat) (Option.some Jvm.ClassFile.FieldType.int)) ∈ gt := List.mem_filter.mpr ⟨(i_tables_1_4 _ (List.mem_of_getElem? (i := 143) rfl)), rfl⟩
theorem k_337 : (Jvm.Cond.static ({ cls := "MacroMill", name := "hashOf", desc := "([BII)I" } : Jvm.MethodName)) ∈ gt := List.mem_filter.mpr ⟨(i_tables_1_4 _ (List.mem_of_getElem? (i := 142) rfl)), rfl⟩
theorem k_338 : (Jvm.Cond.code ({ cls := "MacroMill$Macros", name := "find", desc := "([BII)I" } : Jvm.MethodName) prog_7_method_3_code (7 : Nat) (Option.some Jvm.ClassFile.FieldType.int)) ∈ gt := List.mem_filter.mpr ⟨(i_tables_1_7 _ (List.mem_of_getElem? (i := 38) rfl)), rfl⟩
theorem k_339 : (Jvm.Cond.methodLink "MacroMill" (137 : Nat) ({ cls := "MacroMill$Macros", name := "find", desc := "([BII)I" } : Jvm.MethodName)) ∈ gt := List.mem_filter.mpr ⟨(i_tables_1_9 _ (List.mem_of_getElem? (i := 35) rfl)), rfl⟩
theorem k_340 : (Jvm.Cond.instanceMethod ({ cls := "MacroMill$Macros", name := "find", desc := "([BII)I" } : Jvm.MethodName)) ∈ gt := List.mem_filter.mpr ⟨(i_tables_1_7 _ (List.mem_of_getElem? (i := 36) rfl)), rfl⟩
theorem k_341 : (Jvm.Cond.selects "MacroMill$Macros" ({ cls := "MacroMill$Macros", name := "find", desc := "([BII)I" } : Jvm.MethodName) ({ cls := "MacroMill$Macros", name := "find", desc := "([BII)I" } : Jvm.MethodName)) ∈ gt := List.mem_filter.mpr ⟨(i_tables_1_7 _ (List.mem_of_getElem? (i := 37) rfl)), rfl⟩
theorem k_342 : (Jvm.Cond.fieldLink "MacroMillModel" (236 : Nat) "MacroMillModel" "tapeSize" "I") ∈ gt := List.mem_filter.mpr ⟨(i_tables_1_9 _ (List.mem_of_getElem? (i := 56) rfl)), rfl⟩
theorem k_343 : (Jvm.Cond.code ({ cls := "MacroMillModel", name := "feedInt", desc := "(I)V" } : Jvm.MethodName) prog_15_method_2_code (3 : Nat) (Option.none : Option Jvm.ClassFile.FieldType)) ∈ gt := List.mem_filter.mpr ⟨(i_tables_1_11 _ (List.mem_of_getElem? (i := 15) rfl)), rfl⟩
theorem k_344 : (Jvm.Cond.initialized "MacroMillModel") ∈ gt := List.mem_filter.mpr ⟨(i_tables_1_1 _ (List.mem_of_getElem? (i := 15) rfl)), rfl⟩
theorem k_345 : (Jvm.Cond.methodLink "MacroMillModel" (240 : Nat) ({ cls := "MacroMillModel", name := "feedInt", desc := "(I)V" } : Jvm.MethodName)) ∈ gt := List.mem_filter.mpr ⟨(i_tables_1_11 _ (List.mem_of_getElem? (i := 12) rfl)), rfl⟩
theorem k_346 : (Jvm.Cond.instanceMethod ({ cls := "MacroMillModel", name := "feedInt", desc := "(I)V" } : Jvm.MethodName)) ∈ gt := List.mem_filter.mpr ⟨(i_tables_1_11 _ (List.mem_of_getElem? (i := 14) rfl)), rfl⟩
theorem k_347 : (Cond.selects "MacroMillModel" ⟨"MacroMillModel", "feedInt", "(I)V"⟩ ⟨"MacroMillModel", "feedInt", "(I)V"⟩) ∈ gt := List.mem_filter.mpr ⟨(List.mem_append_left _ (List.mem_map.mpr ⟨(⟨"MacroMillModel", "feedInt", "(I)V"⟩, 144), i_lw_privs_8 _ (List.mem_of_getElem? (i := 14) rfl), rfl⟩)), rfl⟩
theorem k_348 : (Jvm.Cond.fieldLink "MacroMillModel" (244 : Nat) "MacroMillModel" "fed" "Z") ∈ gt := List.mem_filter.mpr ⟨(i_tables_1_9 _ (List.mem_of_getElem? (i := 57) rfl)), rfl⟩
theorem k_349 : (Jvm.Cond.code ({ cls := "MacroMillModel", name := "use", desc := "()I" } : Jvm.MethodName) prog_15_method_5_code (2 : Nat) (Option.some Jvm.ClassFile.FieldType.int)) ∈ gt := List.mem_filter.mpr ⟨(i_tables_1_11 _ (List.mem_of_getElem? (i := 27) rfl)), rfl⟩
theorem k_350 : (Jvm.Cond.methodLink "MacroMillModel" (248 : Nat) ({ cls := "MacroMillModel", name := "use", desc := "()I" } : Jvm.MethodName)) ∈ gt := List.mem_filter.mpr ⟨(i_tables_1_11 _ (List.mem_of_getElem? (i := 24) rfl)), rfl⟩
theorem k_351 : (Jvm.Cond.instanceMethod ({ cls := "MacroMillModel", name := "use", desc := "()I" } : Jvm.MethodName)) ∈ gt := List.mem_filter.mpr ⟨(i_tables_1_11 _ (List.mem_of_getElem? (i := 26) rfl)), rfl⟩
theorem k_352 : (Cond.selects "MacroMillModel" ⟨"MacroMillModel", "use", "()I"⟩ ⟨"MacroMillModel", "use", "()I"⟩) ∈ gt := List.mem_filter.mpr ⟨(List.mem_append_left _ (List.mem_map.mpr ⟨(⟨"MacroMillModel", "use", "()I"⟩, 144), i_lw_privs_8 _ (List.mem_of_getElem? (i := 15) rfl), rfl⟩)), rfl⟩
theorem k_353 : (Jvm.Cond.fieldLink "MacroMillModel" (252 : Nat) "MacroMillModel" "files" "I") ∈ gt := List.mem_filter.mpr ⟨(i_tables_1_9 _ (List.mem_of_getElem? (i := 58) rfl)), rfl⟩
theorem k_354 : (Jvm.Cond.fieldLink "MacroMillModel" (259 : Nat) "MacroMillModel" "allBytes" "I") ∈ gt := List.mem_filter.mpr ⟨(i_tables_1_9 _ (List.mem_of_getElem? (i := 64) rfl)), rfl⟩
theorem k_355 : (Jvm.Cond.fieldLink "MacroMillModel" (613 : Nat) "MacroMillModel" "names" "I") ∈ gt := List.mem_filter.mpr ⟨(i_tables_1_9 _ (List.mem_of_getElem? (i := 130) rfl)), rfl⟩
theorem k_356 : (Jvm.Cond.fieldLink "MacroMillModel" (265 : Nat) "MacroMillModel" "errorFile" "I") ∈ gt := List.mem_filter.mpr ⟨(i_tables_1_9 _ (List.mem_of_getElem? (i := 66) rfl)), rfl⟩
theorem k_357 : (Jvm.Cond.fieldLink "MacroMillModel" (268 : Nat) "MacroMillModel" "errorLine" "I") ∈ gt := List.mem_filter.mpr ⟨(i_tables_1_9 _ (List.mem_of_getElem? (i := 67) rfl)), rfl⟩
theorem k_358 : (Jvm.Cond.fieldLink "MacroMillModel" (280 : Nat) "MacroMillModel" "tokensRead" "I") ∈ gt := List.mem_filter.mpr ⟨(i_tables_1_9 _ (List.mem_of_getElem? (i := 68) rfl)), rfl⟩
theorem k_359 : (Jvm.Cond.fieldLink "MacroMillModel" (703 : Nat) "MacroMillModel" "tokensOut" "I") ∈ gt := List.mem_filter.mpr ⟨(i_tables_1_9 _ (List.mem_of_getElem? (i := 69) rfl)), rfl⟩
theorem k_360 : (Jvm.Cond.fieldLink "MacroMillModel" (710 : Nat) "MacroMillModel" "substituted" "I") ∈ gt := List.mem_filter.mpr ⟨(i_tables_1_9 _ (List.mem_of_getElem? (i := 70) rfl)), rfl⟩
theorem k_361 : (Jvm.Cond.fieldLink "MacroMillModel" (700 : Nat) "MacroMillModel" "outSize" "I") ∈ gt := List.mem_filter.mpr ⟨(i_tables_1_9 _ (List.mem_of_getElem? (i := 73) rfl)), rfl⟩
theorem k_362 : (Jvm.Cond.fieldLink "MacroMillModel" (697 : Nat) "MacroMillModel" "astray" "I") ∈ gt := List.mem_filter.mpr ⟨(i_tables_1_9 _ (List.mem_of_getElem? (i := 71) rfl)), rfl⟩
theorem k_363 : (Jvm.Cond.classLink "MacroMillLaw" (7 : Nat) "MacroMill") ∈ gt := List.mem_filter.mpr ⟨(i_tables_1_1 _ (List.mem_of_getElem? (i := 25) rfl)), rfl⟩
theorem k_364 : (Jvm.Cond.instantiable "MacroMill" (7 : Nat)) ∈ gt := List.mem_filter.mpr ⟨(i_tables_1_1 _ (List.mem_of_getElem? (i := 26) rfl)), rfl⟩
theorem k_365 : (Jvm.Cond.code ({ cls := "MacroMill", name := "<init>", desc := "()V" } : Jvm.MethodName) prog_1_method_1_code (2 : Nat) (Option.none : Option Jvm.ClassFile.FieldType)) ∈ gt := List.mem_filter.mpr ⟨(i_tables_1_1 _ (List.mem_of_getElem? (i := 29) rfl)), rfl⟩
theorem k_366 : (Jvm.Cond.methodLink "MacroMillLaw" (9 : Nat) ({ cls := "MacroMill", name := "<init>", desc := "()V" } : Jvm.MethodName)) ∈ gt := List.mem_filter.mpr ⟨(i_tables_1_1 _ (List.mem_of_getElem? (i := 27) rfl)), rfl⟩
theorem k_367 : (Jvm.Cond.instanceMethod ({ cls := "MacroMill", name := "<init>", desc := "()V" } : Jvm.MethodName)) ∈ gt := List.mem_filter.mpr ⟨(i_tables_1_1 _ (List.mem_of_getElem? (i := 28) rfl)), rfl⟩
theorem k_368 : (Jvm.Cond.classLink "MacroMillLaw" (10 : Nat) "MacroMillModel") ∈ gt := List.mem_filter.mpr ⟨(i_tables_1_9 _ (List.mem_of_getElem? (i := 42) rfl)), rfl⟩
theorem k_369 : (Jvm.Cond.instantiable "MacroMillModel" (144 : Nat)) ∈ gt := List.mem_filter.mpr ⟨(i_tables_1_9 _ (List.mem_of_getElem? (i := 43) rfl)), rfl⟩
theorem k_370 : (Jvm.Cond.code ({ cls := "MacroMillModel", name := "<init>", desc := "()V" } : Jvm.MethodName) prog_15_method_1_code (1 : Nat) (Option.none : Option Jvm.ClassFile.FieldType)) ∈ gt := List.mem_filter.mpr ⟨(i_tables_1_9 _ (List.mem_of_getElem? (i := 46) rfl)), rfl⟩
theorem k_371 : (Jvm.Cond.methodLink "MacroMillLaw" (12 : Nat) ({ cls := "MacroMillModel", name := "<init>", desc := "()V" } : Jvm.MethodName)) ∈ gt := List.mem_filter.mpr ⟨(i_tables_1_9 _ (List.mem_of_getElem? (i := 44) rfl)), rfl⟩
theorem k_372 : (Jvm.Cond.instanceMethod ({ cls := "MacroMillModel", name := "<init>", desc := "()V" } : Jvm.MethodName)) ∈ gt := List.mem_filter.mpr ⟨(i_tables_1_9 _ (List.mem_of_getElem? (i := 45) rfl)), rfl⟩
theorem k_373 : (Jvm.Cond.code ({ cls := "MacroMill", name := "feed", desc := "(IIIII)I" } : Jvm.MethodName) prog_1_method_2_code (6 : Nat) (Option.some Jvm.ClassFile.FieldType.int)) ∈ gt := List.mem_filter.mpr ⟨(i_tables_1_4 _ (List.mem_of_getElem? (i := 8) rfl)), rfl⟩
theorem k_374 : (Jvm.Cond.methodLink "MacroMillLaw" (13 : Nat) ({ cls := "MacroMill", name := "feed", desc := "(IIIII)I" } : Jvm.MethodName)) ∈ gt := List.mem_filter.mpr ⟨(i_tables_1_4 _ (List.mem_of_getElem? (i := 5) rfl)), rfl⟩
theorem k_375 : (Jvm.Cond.instanceMethod ({ cls := "MacroMill", name := "feed", desc := "(IIIII)I" } : Jvm.MethodName)) ∈ gt := List.mem_filter.mpr ⟨(i_tables_1_4 _ (List.mem_of_getElem? (i := 6) rfl)), rfl⟩
theorem k_376 : (Jvm.Cond.selects "MacroMill" ({ cls := "MacroMill", name := "feed", desc := "(IIIII)I" } : Jvm.MethodName) ({ cls := "MacroMill", name := "feed", desc := "(IIIII)I" } : Jvm.MethodName)) ∈ gt := List.mem_filter.mpr ⟨(i_tables_1_4 _ (List.mem_of_getElem? (i := 7) rfl)), rfl⟩
theorem k_377 : (Jvm.Cond.code ({ cls := "MacroMillModel", name := "feed", desc := "(IIIII)I" } : Jvm.MethodName) prog_15_method_3_code (6 : Nat) (Option.some Jvm.ClassFile.FieldType.int)) ∈ gt := List.mem_filter.mpr ⟨(i_tables_1_11 _ (List.mem_of_getElem? (i := 11) rfl)), rfl⟩
theorem k_378 : (Jvm.Cond.methodLink "MacroMillLaw" (17 : Nat) ({ cls := "MacroMillModel", name := "feed", desc := "(IIIII)I" } : Jvm.MethodName)) ∈ gt := List.mem_filter.mpr ⟨(i_tables_1_11 _ (List.mem_of_getElem? (i := 8) rfl)), rfl⟩
theorem k_379 : (Jvm.Cond.instanceMethod ({ cls := "MacroMillModel", name := "feed", desc := "(IIIII)I" } : Jvm.MethodName)) ∈ gt := List.mem_filter.mpr ⟨(i_tables_1_11 _ (List.mem_of_getElem? (i := 9) rfl)), rfl⟩
theorem k_380 : (Jvm.Cond.selects "MacroMillModel" ({ cls := "MacroMillModel", name := "feed", desc := "(IIIII)I" } : Jvm.MethodName) ({ cls := "MacroMillModel", name := "feed", desc := "(IIIII)I" } : Jvm.MethodName)) ∈ gt := List.mem_filter.mpr ⟨(i_tables_1_11 _ (List.mem_of_getElem? (i := 10) rfl)), rfl⟩
theorem k_381 : (Jvm.Cond.code ({ cls := "MacroMill", name := "end", desc := "(I)I" } : Jvm.MethodName) prog_1_method_3_code (2 : Nat) (Option.some Jvm.ClassFile.FieldType.int)) ∈ gt := List.mem_filter.mpr ⟨(i_tables_1_4 _ (List.mem_of_getElem? (i := 16) rfl)), rfl⟩
theorem k_382 : (Jvm.Cond.methodLink "MacroMillLaw" (18 : Nat) ({ cls := "MacroMill", name := "end", desc := "(I)I" } : Jvm.MethodName)) ∈ gt := List.mem_filter.mpr ⟨(i_tables_1_4 _ (List.mem_of_getElem? (i := 13) rfl)), rfl⟩
theorem k_383 : (Jvm.Cond.instanceMethod ({ cls := "MacroMill", name := "end", desc := "(I)I" } : Jvm.MethodName)) ∈ gt := List.mem_filter.mpr ⟨(i_tables_1_4 _ (List.mem_of_getElem? (i := 14) rfl)), rfl⟩
theorem k_384 : (Jvm.Cond.selects "MacroMill" ({ cls := "MacroMill", name := "end", desc := "(I)I" } : Jvm.MethodName) ({ cls := "MacroMill", name := "end", desc := "(I)I" } : Jvm.MethodName)) ∈ gt := List.mem_filter.mpr ⟨(i_tables_1_4 _ (List.mem_of_getElem? (i := 15) rfl)), rfl⟩
theorem k_385 : (Jvm.Cond.code ({ cls := "MacroMillModel", name := "end", desc := "(I)I" } : Jvm.MethodName) prog_15_method_4_code (2 : Nat) (Option.some Jvm.ClassFile.FieldType.int)) ∈ gt := List.mem_filter.mpr ⟨(i_tables_1_11 _ (List.mem_of_getElem? (i := 19) rfl)), rfl⟩
theorem k_386 : (Jvm.Cond.methodLink "MacroMillLaw" (22 : Nat) ({ cls := "MacroMillModel", name := "end", desc := "(I)I" } : Jvm.MethodName)) ∈ gt := List.mem_filter.mpr ⟨(i_tables_1_11 _ (List.mem_of_getElem? (i := 16) rfl)), rfl⟩
theorem k_387 : (Jvm.Cond.instanceMethod ({ cls := "MacroMillModel", name := "end", desc := "(I)I" } : Jvm.MethodName)) ∈ gt := List.mem_filter.mpr ⟨(i_tables_1_11 _ (List.mem_of_getElem? (i := 17) rfl)), rfl⟩
theorem k_388 : (Jvm.Cond.selects "MacroMillModel" ({ cls := "MacroMillModel", name := "end", desc := "(I)I" } : Jvm.MethodName) ({ cls := "MacroMillModel", name := "end", desc := "(I)I" } : Jvm.MethodName)) ∈ gt := List.mem_filter.mpr ⟨(i_tables_1_11 _ (List.mem_of_getElem? (i := 18) rfl)), rfl⟩
theorem k_389 : (Jvm.Cond.code ({ cls := "MacroMill", name := "file", desc := "(I)I" } : Jvm.MethodName) prog_1_method_4_code (3 : Nat) (Option.some Jvm.ClassFile.FieldType.int)) ∈ gt := List.mem_filter.mpr ⟨(i_tables_1_4 _ (List.mem_of_getElem? (i := 20) rfl)), rfl⟩
theorem k_390 : (Jvm.Cond.methodLink "MacroMillLaw" (23 : Nat) ({ cls := "MacroMill", name := "file", desc := "(I)I" } : Jvm.MethodName)) ∈ gt := List.mem_filter.mpr ⟨(i_tables_1_4 _ (List.mem_of_getElem? (i := 17) rfl)), rfl⟩
theorem k_391 : (Jvm.Cond.instanceMethod ({ cls := "MacroMill", name := "file", desc := "(I)I" } : Jvm.MethodName)) ∈ gt := List.mem_filter.mpr ⟨(i_tables_1_4 _ (List.mem_of_getElem? (i := 18) rfl)), rfl⟩
theorem k_392 : (Jvm.Cond.selects "MacroMill" ({ cls := "MacroMill", name := "file", desc := "(I)I" } : Jvm.MethodName) ({ cls := "MacroMill", name := "file", desc := "(I)I" } : Jvm.MethodName)) ∈ gt := List.mem_filter.mpr ⟨(i_tables_1_4 _ (List.mem_of_getElem? (i := 19) rfl)), rfl⟩
theorem k_393 : (Jvm.Cond.code ({ cls := "MacroMillModel", name := "file", desc := "(I)I" } : Jvm.MethodName) prog_15_method_7_code (4 : Nat) (Option.some Jvm.ClassFile.FieldType.int)) ∈ gt := List.mem_filter.mpr ⟨(i_tables_1_11 _ (List.mem_of_getElem? (i := 23) rfl)), rfl⟩
theorem k_394 : (Jvm.Cond.methodLink "MacroMillLaw" (26 : Nat) ({ cls := "MacroMillModel", name := "file", desc := "(I)I" } : Jvm.MethodName)) ∈ gt := List.mem_filter.mpr ⟨(i_tables_1_11 _ (List.mem_of_getElem? (i := 20) rfl)), rfl⟩
theorem k_395 : (Jvm.Cond.instanceMethod ({ cls := "MacroMillModel", name := "file", desc := "(I)I" } : Jvm.MethodName)) ∈ gt := List.mem_filter.mpr ⟨(i_tables_1_11 _ (List.mem_of_getElem? (i := 21) rfl)), rfl⟩
theorem k_396 : (Jvm.Cond.selects "MacroMillModel" ({ cls := "MacroMillModel", name := "file", desc := "(I)I" } : Jvm.MethodName) ({ cls := "MacroMillModel", name := "file", desc := "(I)I" } : Jvm.MethodName)) ∈ gt := List.mem_filter.mpr ⟨(i_tables_1_11 _ (List.mem_of_getElem? (i := 22) rfl)), rfl⟩
theorem k_397 : (Jvm.Cond.code ({ cls := "MacroMill", name := "write", desc := "(I)I" } : Jvm.MethodName) prog_1_method_5_code (3 : Nat) (Option.some Jvm.ClassFile.FieldType.int)) ∈ gt := List.mem_filter.mpr ⟨(i_tables_1_4 _ (List.mem_of_getElem? (i := 42) rfl)), rfl⟩
theorem k_398 : (Jvm.Cond.methodLink "MacroMillLaw" (27 : Nat) ({ cls := "MacroMill", name := "write", desc := "(I)I" } : Jvm.MethodName)) ∈ gt := List.mem_filter.mpr ⟨(i_tables_1_4 _ (List.mem_of_getElem? (i := 39) rfl)), rfl⟩
theorem k_399 : (Jvm.Cond.instanceMethod ({ cls := "MacroMill", name := "write", desc := "(I)I" } : Jvm.MethodName)) ∈ gt := List.mem_filter.mpr ⟨(i_tables_1_4 _ (List.mem_of_getElem? (i := 40) rfl)), rfl⟩
theorem k_400 : (Jvm.Cond.selects "MacroMill" ({ cls := "MacroMill", name := "write", desc := "(I)I" } : Jvm.MethodName) ({ cls := "MacroMill", name := "write", desc := "(I)I" } : Jvm.MethodName)) ∈ gt := List.mem_filter.mpr ⟨(i_tables_1_4 _ (List.mem_of_getElem? (i := 41) rfl)), rfl⟩
theorem k_401 : (Jvm.Cond.code ({ cls := "MacroMillModel", name := "write", desc := "(I)I" } : Jvm.MethodName) prog_15_method_8_code (5 : Nat) (Option.some Jvm.ClassFile.FieldType.int)) ∈ gt := List.mem_filter.mpr ⟨(i_tables_1_11 _ (List.mem_of_getElem? (i := 35) rfl)), rfl⟩
theorem k_402 : (Jvm.Cond.methodLink "MacroMillLaw" (30 : Nat) ({ cls := "MacroMillModel", name := "write", desc := "(I)I" } : Jvm.MethodName)) ∈ gt := List.mem_filter.mpr ⟨(i_tables_1_11 _ (List.mem_of_getElem? (i := 32) rfl)), rfl⟩
theorem k_403 : (Jvm.Cond.instanceMethod ({ cls := "MacroMillModel", name := "write", desc := "(I)I" } : Jvm.MethodName)) ∈ gt := List.mem_filter.mpr ⟨(i_tables_1_11 _ (List.mem_of_getElem? (i := 33) rfl)), rfl⟩
theorem k_404 : (Jvm.Cond.selects "MacroMillModel" ({ cls := "MacroMillModel", name := "write", desc := "(I)I" } : Jvm.MethodName) ({ cls := "MacroMillModel", name := "write", desc := "(I)I" } : Jvm.MethodName)) ∈ gt := List.mem_filter.mpr ⟨(i_tables_1_11 _ (List.mem_of_getElem? (i := 34) rfl)), rfl⟩
theorem k_405 : (Jvm.Cond.code ({ cls := "MacroMill", name := "clear", desc := "()I" } : Jvm.MethodName) prog_1_method_6_code (2 : Nat) (Option.some Jvm.ClassFile.FieldType.int)) ∈ gt := List.mem_filter.mpr ⟨(i_tables_1_4 _ (List.mem_of_getElem? (i := 54) rfl)), rfl⟩
theorem k_406 : (Jvm.Cond.methodLink "MacroMillLaw" (31 : Nat) ({ cls := "MacroMill", name := "clear", desc := "()I" } : Jvm.MethodName)) ∈ gt := List.mem_filter.mpr ⟨(i_tables_1_4 _ (List.mem_of_getElem? (i := 51) rfl)), rfl⟩
theorem k_407 : (Jvm.Cond.instanceMethod ({ cls := "MacroMill", name := "clear", desc := "()I" } : Jvm.MethodName)) ∈ gt := List.mem_filter.mpr ⟨(i_tables_1_4 _ (List.mem_of_getElem? (i := 52) rfl)), rfl⟩
theorem k_408 : (Jvm.Cond.selects "MacroMill" ({ cls := "MacroMill", name := "clear", desc := "()I" } : Jvm.MethodName) ({ cls := "MacroMill", name := "clear", desc := "()I" } : Jvm.MethodName)) ∈ gt := List.mem_filter.mpr ⟨(i_tables_1_4 _ (List.mem_of_getElem? (i := 53) rfl)), rfl⟩
theorem k_409 : (Jvm.Cond.code ({ cls := "MacroMillModel", name := "clear", desc := "()I" } : Jvm.MethodName) prog_15_method_9_code (2 : Nat) (Option.some Jvm.ClassFile.FieldType.int)) ∈ gt := List.mem_filter.mpr ⟨(i_tables_1_11 _ (List.mem_of_getElem? (i := 39) rfl)), rfl⟩
theorem k_410 : (Jvm.Cond.methodLink "MacroMillLaw" (35 : Nat) ({ cls := "MacroMillModel", name := "clear", desc := "()I" } : Jvm.MethodName)) ∈ gt := List.mem_filter.mpr ⟨(i_tables_1_11 _ (List.mem_of_getElem? (i := 36) rfl)), rfl⟩
theorem k_411 : (Jvm.Cond.instanceMethod ({ cls := "MacroMillModel", name := "clear", desc := "()I" } : Jvm.MethodName)) ∈ gt := List.mem_filter.mpr ⟨(i_tables_1_11 _ (List.mem_of_getElem? (i := 37) rfl)), rfl⟩
theorem k_412 : (Jvm.Cond.selects "MacroMillModel" ({ cls := "MacroMillModel", name := "clear", desc := "()I" } : Jvm.MethodName) ({ cls := "MacroMillModel", name := "clear", desc := "()I" } : Jvm.MethodName)) ∈ gt := List.mem_filter.mpr ⟨(i_tables_1_11 _ (List.mem_of_getElem? (i := 38) rfl)), rfl⟩
theorem k_413 : (Jvm.Cond.code ({ cls := "MacroMill", name := "run", desc := "(IIII)I" } : Jvm.MethodName) prog_1_method_7_code (5 : Nat) (Option.some Jvm.ClassFile.FieldType.int)) ∈ gt := List.mem_filter.mpr ⟨(i_tables_1_4 _ (List.mem_of_getElem? (i := 58) rfl)), rfl⟩
theorem k_414 : (Jvm.Cond.methodLink "MacroMillLaw" (36 : Nat) ({ cls := "MacroMill", name := "run", desc := "(IIII)I" } : Jvm.MethodName)) ∈ gt := List.mem_filter.mpr ⟨(i_tables_1_4 _ (List.mem_of_getElem? (i := 55) rfl)), rfl⟩
theorem k_415 : (Jvm.Cond.instanceMethod ({ cls := "MacroMill", name := "run", desc := "(IIII)I" } : Jvm.MethodName)) ∈ gt := List.mem_filter.mpr ⟨(i_tables_1_4 _ (List.mem_of_getElem? (i := 56) rfl)), rfl⟩
theorem k_416 : (Jvm.Cond.selects "MacroMill" ({ cls := "MacroMill", name := "run", desc := "(IIII)I" } : Jvm.MethodName) ({ cls := "MacroMill", name := "run", desc := "(IIII)I" } : Jvm.MethodName)) ∈ gt := List.mem_filter.mpr ⟨(i_tables_1_4 _ (List.mem_of_getElem? (i := 57) rfl)), rfl⟩
theorem k_417 : (Jvm.Cond.code ({ cls := "MacroMillModel", name := "run", desc := "(IIII)I" } : Jvm.MethodName) prog_15_method_151_code (7 : Nat) (Option.some Jvm.ClassFile.FieldType.int)) ∈ gt := List.mem_filter.mpr ⟨(i_tables_1_11 _ (List.mem_of_getElem? (i := 43) rfl)), rfl⟩
theorem k_418 : (Jvm.Cond.methodLink "MacroMillLaw" (40 : Nat) ({ cls := "MacroMillModel", name := "run", desc := "(IIII)I" } : Jvm.MethodName)) ∈ gt := List.mem_filter.mpr ⟨(i_tables_1_11 _ (List.mem_of_getElem? (i := 40) rfl)), rfl⟩
theorem k_419 : (Jvm.Cond.instanceMethod ({ cls := "MacroMillModel", name := "run", desc := "(IIII)I" } : Jvm.MethodName)) ∈ gt := List.mem_filter.mpr ⟨(i_tables_1_11 _ (List.mem_of_getElem? (i := 41) rfl)), rfl⟩
theorem k_420 : (Jvm.Cond.selects "MacroMillModel" ({ cls := "MacroMillModel", name := "run", desc := "(IIII)I" } : Jvm.MethodName) ({ cls := "MacroMillModel", name := "run", desc := "(IIII)I" } : Jvm.MethodName)) ∈ gt := List.mem_filter.mpr ⟨(i_tables_1_11 _ (List.mem_of_getElem? (i := 42) rfl)), rfl⟩
theorem k_421 : (Jvm.Cond.code ({ cls := "MacroMill", name := "told", desc := "(I)I" } : Jvm.MethodName) prog_1_method_8_code (2 : Nat) (Option.some Jvm.ClassFile.FieldType.int)) ∈ gt := List.mem_filter.mpr ⟨(i_tables_1_9 _ (List.mem_of_getElem? (i := 22) rfl)), rfl⟩
theorem k_422 : (Jvm.Cond.methodLink "MacroMillLaw" (41 : Nat) ({ cls := "MacroMill", name := "told", desc := "(I)I" } : Jvm.MethodName)) ∈ gt := List.mem_filter.mpr ⟨(i_tables_1_9 _ (List.mem_of_getElem? (i := 19) rfl)), rfl⟩
theorem k_423 : (Jvm.Cond.instanceMethod ({ cls := "MacroMill", name := "told", desc := "(I)I" } : Jvm.MethodName)) ∈ gt := List.mem_filter.mpr ⟨(i_tables_1_9 _ (List.mem_of_getElem? (i := 20) rfl)), rfl⟩
theorem k_424 : (Jvm.Cond.selects "MacroMill" ({ cls := "MacroMill", name := "told", desc := "(I)I" } : Jvm.MethodName) ({ cls := "MacroMill", name := "told", desc := "(I)I" } : Jvm.MethodName)) ∈ gt := List.mem_filter.mpr ⟨(i_tables_1_9 _ (List.mem_of_getElem? (i := 21) rfl)), rfl⟩
theorem k_425 : (Jvm.Cond.code ({ cls := "MacroMillModel", name := "told", desc := "(I)I" } : Jvm.MethodName) prog_15_method_154_code (4 : Nat) (Option.some Jvm.ClassFile.FieldType.int)) ∈ gt := List.mem_filter.mpr ⟨(i_tables_1_14 _ (List.mem_of_getElem? (i := 18) rfl)), rfl⟩
theorem k_426 : (Jvm.Cond.methodLink "MacroMillLaw" (44 : Nat) ({ cls := "MacroMillModel", name := "told", desc := "(I)I" } : Jvm.MethodName)) ∈ gt := List.mem_filter.mpr ⟨(i_tables_1_14 _ (List.mem_of_getElem? (i := 15) rfl)), rfl⟩
theorem k_427 : (Jvm.Cond.instanceMethod ({ cls := "MacroMillModel", name := "told", desc := "(I)I" } : Jvm.MethodName)) ∈ gt := List.mem_filter.mpr ⟨(i_tables_1_14 _ (List.mem_of_getElem? (i := 16) rfl)), rfl⟩
theorem k_428 : (Jvm.Cond.selects "MacroMillModel" ({ cls := "MacroMillModel", name := "told", desc := "(I)I" } : Jvm.MethodName) ({ cls := "MacroMillModel", name := "told", desc := "(I)I" } : Jvm.MethodName)) ∈ gt := List.mem_filter.mpr ⟨(i_tables_1_14 _ (List.mem_of_getElem? (i := 17) rfl)), rfl⟩
theorem k_429 : (Jvm.Cond.code ({ cls := "MacroMill", name := "size", desc := "()I" } : Jvm.MethodName) prog_1_method_9_code (1 : Nat) (Option.some Jvm.ClassFile.FieldType.int)) ∈ gt := List.mem_filter.mpr ⟨(i_tables_1_9 _ (List.mem_of_getElem? (i := 26) rfl)), rfl⟩
theorem k_430 : (Jvm.Cond.methodLink "MacroMillLaw" (45 : Nat) ({ cls := "MacroMill", name := "size", desc := "()I" } : Jvm.MethodName)) ∈ gt := List.mem_filter.mpr ⟨(i_tables_1_9 _ (List.mem_of_getElem? (i := 23) rfl)), rfl⟩
theorem k_431 : (Jvm.Cond.instanceMethod ({ cls := "MacroMill", name := "size", desc := "()I" } : Jvm.MethodName)) ∈ gt := List.mem_filter.mpr ⟨(i_tables_1_9 _ (List.mem_of_getElem? (i := 24) rfl)), rfl⟩
theorem k_432 : (Jvm.Cond.selects "MacroMill" ({ cls := "MacroMill", name := "size", desc := "()I" } : Jvm.MethodName) ({ cls := "MacroMill", name := "size", desc := "()I" } : Jvm.MethodName)) ∈ gt := List.mem_filter.mpr ⟨(i_tables_1_9 _ (List.mem_of_getElem? (i := 25) rfl)), rfl⟩
theorem k_433 : (Jvm.Cond.code ({ cls := "MacroMillModel", name := "size", desc := "()I" } : Jvm.MethodName) prog_15_method_155_code (1 : Nat) (Option.some Jvm.ClassFile.FieldType.int)) ∈ gt := List.mem_filter.mpr ⟨(i_tables_1_14 _ (List.mem_of_getElem? (i := 22) rfl)), rfl⟩
theorem k_434 : (Jvm.Cond.methodLink "MacroMillLaw" (48 : Nat) ({ cls := "MacroMillModel", name := "size", desc := "()I" } : Jvm.MethodName)) ∈ gt := List.mem_filter.mpr ⟨(i_tables_1_14 _ (List.mem_of_getElem? (i := 19) rfl)), rfl⟩
theorem k_435 : (Jvm.Cond.instanceMethod ({ cls := "MacroMillModel", name := "size", desc := "()I" } : Jvm.MethodName)) ∈ gt := List.mem_filter.mpr ⟨(i_tables_1_14 _ (List.mem_of_getElem? (i := 20) rfl)), rfl⟩
theorem k_436 : (Jvm.Cond.selects "MacroMillModel" ({ cls := "MacroMillModel", name := "size", desc := "()I" } : Jvm.MethodName) ({ cls := "MacroMillModel", name := "size", desc := "()I" } : Jvm.MethodName)) ∈ gt := List.mem_filter.mpr ⟨(i_tables_1_14 _ (List.mem_of_getElem? (i := 21) rfl)), rfl⟩
theorem k_437 : (Jvm.Cond.code ({ cls := "MacroMill", name := "word", desc := "(I)J" } : Jvm.MethodName) prog_1_method_10_code (6 : Nat) (Option.some Jvm.ClassFile.FieldType.long)) ∈ gt := List.mem_filter.mpr ⟨(i_tables_1_9 _ (List.mem_of_getElem? (i := 30) rfl)), rfl⟩
theorem k_438 : (Jvm.Cond.methodLink "MacroMillLaw" (49 : Nat) ({ cls := "MacroMill", name := "word", desc := "(I)J" } : Jvm.MethodName)) ∈ gt := List.mem_filter.mpr ⟨(i_tables_1_9 _ (List.mem_of_getElem? (i := 27) rfl)), rfl⟩
theorem k_439 : (Jvm.Cond.instanceMethod ({ cls := "MacroMill", name := "word", desc := "(I)J" } : Jvm.MethodName)) ∈ gt := List.mem_filter.mpr ⟨(i_tables_1_9 _ (List.mem_of_getElem? (i := 28) rfl)), rfl⟩
theorem k_440 : (Jvm.Cond.selects "MacroMill" ({ cls := "MacroMill", name := "word", desc := "(I)J" } : Jvm.MethodName) ({ cls := "MacroMill", name := "word", desc := "(I)J" } : Jvm.MethodName)) ∈ gt := List.mem_filter.mpr ⟨(i_tables_1_9 _ (List.mem_of_getElem? (i := 29) rfl)), rfl⟩
theorem k_441 : (Jvm.Cond.code ({ cls := "MacroMillModel", name := "word", desc := "(I)J" } : Jvm.MethodName) prog_15_method_156_code (5 : Nat) (Option.some Jvm.ClassFile.FieldType.long)) ∈ gt := List.mem_filter.mpr ⟨(i_tables_1_14 _ (List.mem_of_getElem? (i := 26) rfl)), rfl⟩
theorem k_442 : (Jvm.Cond.methodLink "MacroMillLaw" (53 : Nat) ({ cls := "MacroMillModel", name := "word", desc := "(I)J" } : Jvm.MethodName)) ∈ gt := List.mem_filter.mpr ⟨(i_tables_1_14 _ (List.mem_of_getElem? (i := 23) rfl)), rfl⟩
theorem k_443 : (Jvm.Cond.instanceMethod ({ cls := "MacroMillModel", name := "word", desc := "(I)J" } : Jvm.MethodName)) ∈ gt := List.mem_filter.mpr ⟨(i_tables_1_14 _ (List.mem_of_getElem? (i := 24) rfl)), rfl⟩
theorem k_444 : (Jvm.Cond.selects "MacroMillModel" ({ cls := "MacroMillModel", name := "word", desc := "(I)J" } : Jvm.MethodName) ({ cls := "MacroMillModel", name := "word", desc := "(I)J" } : Jvm.MethodName)) ∈ gt := List.mem_filter.mpr ⟨(i_tables_1_14 _ (List.mem_of_getElem? (i := 25) rfl)), rfl⟩
theorem k_445 : (Jvm.Cond.code ({ cls := "MacroMill", name := "parameters", desc := "()I" } : Jvm.MethodName) prog_1_method_11_code (3 : Nat) (Option.some Jvm.ClassFile.FieldType.int)) ∈ gt := List.mem_filter.mpr ⟨(i_tables_1_9 _ (List.mem_of_getElem? (i := 34) rfl)), rfl⟩
theorem k_446 : (Jvm.Cond.methodLink "MacroMillLaw" (54 : Nat) ({ cls := "MacroMill", name := "parameters", desc := "()I" } : Jvm.MethodName)) ∈ gt := List.mem_filter.mpr ⟨(i_tables_1_9 _ (List.mem_of_getElem? (i := 31) rfl)), rfl⟩
theorem k_447 : (Jvm.Cond.instanceMethod ({ cls := "MacroMill", name := "parameters", desc := "()I" } : Jvm.MethodName)) ∈ gt := List.mem_filter.mpr ⟨(i_tables_1_9 _ (List.mem_of_getElem? (i := 32) rfl)), rfl⟩
theorem k_448 : (Jvm.Cond.selects "MacroMill" ({ cls := "MacroMill", name := "parameters", desc := "()I" } : Jvm.MethodName) ({ cls := "MacroMill", name := "parameters", desc := "()I" } : Jvm.MethodName)) ∈ gt := List.mem_filter.mpr ⟨(i_tables_1_9 _ (List.mem_of_getElem? (i := 33) rfl)), rfl⟩
theorem k_449 : (Jvm.Cond.code ({ cls := "MacroMillModel", name := "parameters", desc := "()I" } : Jvm.MethodName) prog_15_method_157_code (5 : Nat) (Option.some Jvm.ClassFile.FieldType.int)) ∈ gt := List.mem_filter.mpr ⟨(i_tables_1_14 _ (List.mem_of_getElem? (i := 30) rfl)), rfl⟩
theorem k_450 : (Jvm.Cond.methodLink "MacroMillLaw" (57 : Nat) ({ cls := "MacroMillModel", name := "parameters", desc := "()I" } : Jvm.MethodName)) ∈ gt := List.mem_filter.mpr ⟨(i_tables_1_14 _ (List.mem_of_getElem? (i := 27) rfl)), rfl⟩
theorem k_451 : (Jvm.Cond.instanceMethod ({ cls := "MacroMillModel", name := "parameters", desc := "()I" } : Jvm.MethodName)) ∈ gt := List.mem_filter.mpr ⟨(i_tables_1_14 _ (List.mem_of_getElem? (i := 28) rfl)), rfl⟩
theorem k_452 : (Jvm.Cond.selects "MacroMillModel" ({ cls := "MacroMillModel", name := "parameters", desc := "()I" } : Jvm.MethodName) ({ cls := "MacroMillModel", name := "parameters", desc := "()I" } : Jvm.MethodName)) ∈ gt := List.mem_filter.mpr ⟨(i_tables_1_14 _ (List.mem_of_getElem? (i := 29) rfl)), rfl⟩
theorem k_453 : (Jvm.Cond.code ({ cls := "MacroMill", name := "astray", desc := "()I" } : Jvm.MethodName) prog_1_method_12_code (1 : Nat) (Option.some Jvm.ClassFile.FieldType.int)) ∈ gt := List.mem_filter.mpr ⟨(i_tables_1_9 _ (List.mem_of_getElem? (i := 41) rfl)), rfl⟩
theorem k_454 : (Jvm.Cond.methodLink "MacroMillLaw" (58 : Nat) ({ cls := "MacroMill", name := "astray", desc := "()I" } : Jvm.MethodName)) ∈ gt := List.mem_filter.mpr ⟨(i_tables_1_9 _ (List.mem_of_getElem? (i := 38) rfl)), rfl⟩
theorem k_455 : (Jvm.Cond.instanceMethod ({ cls := "MacroMill", name := "astray", desc := "()I" } : Jvm.MethodName)) ∈ gt := List.mem_filter.mpr ⟨(i_tables_1_9 _ (List.mem_of_getElem? (i := 39) rfl)), rfl⟩
theorem k_456 : (Jvm.Cond.selects "MacroMill" ({ cls := "MacroMill", name := "astray", desc := "()I" } : Jvm.MethodName) ({ cls := "MacroMill", name := "astray", desc := "()I" } : Jvm.MethodName)) ∈ gt := List.mem_filter.mpr ⟨(i_tables_1_9 _ (List.mem_of_getElem? (i := 40) rfl)), rfl⟩
theorem k_457 : (Jvm.Cond.code ({ cls := "MacroMillModel", name := "astray", desc := "()I" } : Jvm.MethodName) prog_15_method_158_code (1 : Nat) (Option.some Jvm.ClassFile.FieldType.int)) ∈ gt := List.mem_filter.mpr ⟨(i_tables_1_14 _ (List.mem_of_getElem? (i := 34) rfl)), rfl⟩
theorem k_458 : (Jvm.Cond.methodLink "MacroMillLaw" (61 : Nat) ({ cls := "MacroMillModel", name := "astray", desc := "()I" } : Jvm.MethodName)) ∈ gt := List.mem_filter.mpr ⟨(i_tables_1_14 _ (List.mem_of_getElem? (i := 31) rfl)), rfl⟩
theorem k_459 : (Jvm.Cond.instanceMethod ({ cls := "MacroMillModel", name := "astray", desc := "()I" } : Jvm.MethodName)) ∈ gt := List.mem_filter.mpr ⟨(i_tables_1_14 _ (List.mem_of_getElem? (i := 32) rfl)), rfl⟩
theorem k_460 : (Jvm.Cond.selects "MacroMillModel" ({ cls := "MacroMillModel", name := "astray", desc := "()I" } : Jvm.MethodName) ({ cls := "MacroMillModel", name := "astray", desc := "()I" } : Jvm.MethodName)) ∈ gt := List.mem_filter.mpr ⟨(i_tables_1_14 _ (List.mem_of_getElem? (i := 33) rfl)), rfl⟩
theorem k_461 : (Jvm.Cond.laysFinal "MacroMill" "MacroMill" "tape" "[B") ∈ gt := List.mem_filter.mpr ⟨(i_tables_1_3 _ (List.mem_of_getElem? (i := 230) rfl)), rfl⟩
theorem k_462 : (Jvm.Cond.lays "MacroMill" "MacroMill" "tapeSize" "I") ∈ gt := List.mem_filter.mpr ⟨(i_tables_1_3 _ (List.mem_of_getElem? (i := 232) rfl)), rfl⟩
theorem k_463 : (Jvm.Cond.lays "MacroMill" "MacroMill" "canBeCut" "Z") ∈ gt := List.mem_filter.mpr ⟨(i_tables_1_3 _ (List.mem_of_getElem? (i := 234) rfl)), rfl⟩
theorem k_464 : (Jvm.Cond.laysFinal "MacroMill" "MacroMill" "files" "LMacroMill$Files;") ∈ gt := List.mem_filter.mpr ⟨(i_tables_1_3 _ (List.mem_of_getElem? (i := 236) rfl)), rfl⟩
theorem k_465 : (Jvm.Cond.laysFinal "MacroMill" "MacroMill" "outcome" "LMacroMill$Outcome;") ∈ gt := List.mem_filter.mpr ⟨(i_tables_1_3 _ (List.mem_of_getElem? (i := 238) rfl)), rfl⟩
theorem k_466 : (Jvm.Cond.laysFinal "MacroMill" "MacroMill" "first" "LMacroMill$First;") ∈ gt := List.mem_filter.mpr ⟨(i_tables_1_4 _ (List.mem_of_getElem? (i := 0) rfl)), rfl⟩
theorem k_467 : (Jvm.Cond.laysFinal "MacroMill" "MacroMill" "second" "LMacroMill$Second;") ∈ gt := List.mem_filter.mpr ⟨(i_tables_1_4 _ (List.mem_of_getElem? (i := 2) rfl)), rfl⟩
theorem k_468 : (Jvm.Cond.laysFinal "MacroMill$Files" "MacroMill$Files" "bytes" "[B") ∈ gt := List.mem_filter.mpr ⟨(i_tables_1_1 _ (List.mem_of_getElem? (i := 52) rfl)), rfl⟩
theorem k_469 : (Jvm.Cond.laysFinal "MacroMill$Files" "MacroMill$Files" "titles" "[B") ∈ gt := List.mem_filter.mpr ⟨(i_tables_1_1 _ (List.mem_of_getElem? (i := 54) rfl)), rfl⟩
theorem k_470 : (Jvm.Cond.laysFinal "MacroMill$Files" "MacroMill$Files" "titleLength" "[I") ∈ gt := List.mem_filter.mpr ⟨(i_tables_1_1 _ (List.mem_of_getElem? (i := 56) rfl)), rfl⟩
theorem k_471 : (Jvm.Cond.laysFinal "MacroMill$Files" "MacroMill$Files" "start" "[I") ∈ gt := List.mem_filter.mpr ⟨(i_tables_1_1 _ (List.mem_of_getElem? (i := 58) rfl)), rfl⟩
theorem k_472 : (Jvm.Cond.lays "MacroMill$Files" "MacroMill$Files" "count" "I") ∈ gt := List.mem_filter.mpr ⟨(i_tables_1_1 _ (List.mem_of_getElem? (i := 60) rfl)), rfl⟩
theorem k_473 : (Jvm.Cond.laysFinal "MacroMill$Outcome" "MacroMill$Outcome" "out" "[B") ∈ gt := List.mem_filter.mpr ⟨(i_tables_1_1 _ (List.mem_of_getElem? (i := 103) rfl)), rfl⟩
theorem k_474 : (Jvm.Cond.lays "MacroMill$Outcome" "MacroMill$Outcome" "size" "I") ∈ gt := List.mem_filter.mpr ⟨(i_tables_1_1 _ (List.mem_of_getElem? (i := 105) rfl)), rfl⟩
theorem k_475 : (Jvm.Cond.lays "MacroMill$Outcome" "MacroMill$Outcome" "error" "I") ∈ gt := List.mem_filter.mpr ⟨(i_tables_1_1 _ (List.mem_of_getElem? (i := 107) rfl)), rfl⟩
theorem k_476 : (Jvm.Cond.lays "MacroMill$Outcome" "MacroMill$Outcome" "file" "I") ∈ gt := List.mem_filter.mpr ⟨(i_tables_1_1 _ (List.mem_of_getElem? (i := 109) rfl)), rfl⟩
theorem k_477 : (Jvm.Cond.lays "MacroMill$Outcome" "MacroMill$Outcome" "line" "I") ∈ gt := List.mem_filter.mpr ⟨(i_tables_1_1 _ (List.mem_of_getElem? (i := 111) rfl)), rfl⟩
theorem k_478 : (Jvm.Cond.lays "MacroMill$Outcome" "MacroMill$Outcome" "fileAtHand" "I") ∈ gt := List.mem_filter.mpr ⟨(i_tables_1_1 _ (List.mem_of_getElem? (i := 113) rfl)), rfl⟩
theorem k_479 : (Jvm.Cond.lays "MacroMill$Outcome" "MacroMill$Outcome" "taken" "I") ∈ gt := List.mem_filter.mpr ⟨(i_tables_1_1 _ (List.mem_of_getElem? (i := 115) rfl)), rfl⟩
theorem k_480 : (Jvm.Cond.lays "MacroMill$Outcome" "MacroMill$Outcome" "putOut" "I") ∈ gt := List.mem_filter.mpr ⟨(i_tables_1_1 _ (List.mem_of_getElem? (i := 117) rfl)), rfl⟩
theorem k_481 : (Jvm.Cond.lays "MacroMill$Outcome" "MacroMill$Outcome" "substituted" "I") ∈ gt := List.mem_filter.mpr ⟨(i_tables_1_1 _ (List.mem_of_getElem? (i := 119) rfl)), rfl⟩
theorem k_482 : (Jvm.Cond.lays "MacroMill$Outcome" "MacroMill$Outcome" "astray" "I") ∈ gt := List.mem_filter.mpr ⟨(i_tables_1_1 _ (List.mem_of_getElem? (i := 121) rfl)), rfl⟩
theorem k_483 : (Jvm.Cond.laysFinal "MacroMill$Reckoner" "MacroMill$Reckoner" "values" "[J") ∈ gt := List.mem_filter.mpr ⟨(i_tables_1_1 _ (List.mem_of_getElem? (i := 143) rfl)), rfl⟩
theorem k_484 : (Jvm.Cond.laysFinal "MacroMill$Reckoner" "MacroMill$Reckoner" "unsigned" "[Z") ∈ gt := List.mem_filter.mpr ⟨(i_tables_1_1 _ (List.mem_of_getElem? (i := 145) rfl)), rfl⟩
theorem k_485 : (Jvm.Cond.lays "MacroMill$Reckoner" "MacroMill$Reckoner" "valueCount" "I") ∈ gt := List.mem_filter.mpr ⟨(i_tables_1_1 _ (List.mem_of_getElem? (i := 147) rfl)), rfl⟩
theorem k_486 : (Jvm.Cond.laysFinal "MacroMill$Reckoner" "MacroMill$Reckoner" "signs" "[I") ∈ gt := List.mem_filter.mpr ⟨(i_tables_1_1 _ (List.mem_of_getElem? (i := 149) rfl)), rfl⟩
theorem k_487 : (Jvm.Cond.laysFinal "MacroMill$Reckoner" "MacroMill$Reckoner" "ranks" "[I") ∈ gt := List.mem_filter.mpr ⟨(i_tables_1_1 _ (List.mem_of_getElem? (i := 151) rfl)), rfl⟩
theorem k_488 : (Jvm.Cond.laysFinal "MacroMill$Reckoner" "MacroMill$Reckoner" "idleBefore" "[Z") ∈ gt := List.mem_filter.mpr ⟨(i_tables_1_1 _ (List.mem_of_getElem? (i := 153) rfl)), rfl⟩
theorem k_489 : (Jvm.Cond.lays "MacroMill$Reckoner" "MacroMill$Reckoner" "signCount" "I") ∈ gt := List.mem_filter.mpr ⟨(i_tables_1_1 _ (List.mem_of_getElem? (i := 155) rfl)), rfl⟩
theorem k_490 : (Jvm.Cond.lays "MacroMill$Reckoner" "MacroMill$Reckoner" "nesting" "I") ∈ gt := List.mem_filter.mpr ⟨(i_tables_1_1 _ (List.mem_of_getElem? (i := 157) rfl)), rfl⟩
theorem k_491 : (Jvm.Cond.lays "MacroMill$Reckoner" "MacroMill$Reckoner" "wide" "Z") ∈ gt := List.mem_filter.mpr ⟨(i_tables_1_1 _ (List.mem_of_getElem? (i := 159) rfl)), rfl⟩
theorem k_492 : (Jvm.Cond.lays "MacroMill$Reckoner" "MacroMill$Reckoner" "wantsValue" "Z") ∈ gt := List.mem_filter.mpr ⟨(i_tables_1_1 _ (List.mem_of_getElem? (i := 161) rfl)), rfl⟩
theorem k_493 : (Jvm.Cond.lays "MacroMill$Reckoner" "MacroMill$Reckoner" "idle" "Z") ∈ gt := List.mem_filter.mpr ⟨(i_tables_1_1 _ (List.mem_of_getElem? (i := 163) rfl)), rfl⟩
theorem k_494 : (Jvm.Cond.lays "MacroMill$Reckoner" "MacroMill$Reckoner" "malformed" "Z") ∈ gt := List.mem_filter.mpr ⟨(i_tables_1_1 _ (List.mem_of_getElem? (i := 165) rfl)), rfl⟩
theorem k_495 : (Jvm.Cond.lays "MacroMill$Reckoner" "MacroMill$Reckoner" "dividedByZero" "Z") ∈ gt := List.mem_filter.mpr ⟨(i_tables_1_1 _ (List.mem_of_getElem? (i := 167) rfl)), rfl⟩
theorem k_496 : (Jvm.Cond.laysFinal "MacroMill$First" "MacroMill$First" "outcome" "LMacroMill$Outcome;") ∈ gt := List.mem_filter.mpr ⟨(i_tables_1_2 _ (List.mem_of_getElem? (i := 84) rfl)), rfl⟩
theorem k_497 : (Jvm.Cond.laysFinal "MacroMill$First" "MacroMill$First" "reckoner" "LMacroMill$Reckoner;") ∈ gt := List.mem_filter.mpr ⟨(i_tables_1_2 _ (List.mem_of_getElem? (i := 86) rfl)), rfl⟩
theorem k_498 : (Jvm.Cond.laysFinal "MacroMill$First" "MacroMill$First" "input" "LMacroMill$Input;") ∈ gt := List.mem_filter.mpr ⟨(i_tables_1_2 _ (List.mem_of_getElem? (i := 88) rfl)), rfl⟩
theorem k_499 : (Jvm.Cond.laysFinal "MacroMill$First" "MacroMill$First" "calls" "LMacroMill$Calls;") ∈ gt := List.mem_filter.mpr ⟨(i_tables_1_2 _ (List.mem_of_getElem? (i := 90) rfl)), rfl⟩
theorem k_500 : (Jvm.Cond.laysFinal "MacroMill$First" "MacroMill$First" "meanings" "LMacroMill$Meanings;") ∈ gt := List.mem_filter.mpr ⟨(i_tables_1_2 _ (List.mem_of_getElem? (i := 92) rfl)), rfl⟩
theorem k_501 : (Jvm.Cond.laysFinal "MacroMill$First" "MacroMill$First" "result" "[B") ∈ gt := List.mem_filter.mpr ⟨(i_tables_1_2 _ (List.mem_of_getElem? (i := 94) rfl)), rfl⟩
theorem k_502 : (Jvm.Cond.lays "MacroMill$First" "MacroMill$First" "resultSize" "I") ∈ gt := List.mem_filter.mpr ⟨(i_tables_1_2 _ (List.mem_of_getElem? (i := 96) rfl)), rfl⟩
theorem k_503 : (Jvm.Cond.laysFinal "MacroMill$First" "MacroMill$First" "diverted" "[B") ∈ gt := List.mem_filter.mpr ⟨(i_tables_1_2 _ (List.mem_of_getElem? (i := 98) rfl)), rfl⟩
theorem k_504 : (Jvm.Cond.laysFinal "MacroMill$First" "MacroMill$First" "chain" "[I") ∈ gt := List.mem_filter.mpr ⟨(i_tables_1_2 _ (List.mem_of_getElem? (i := 100) rfl)), rfl⟩
theorem k_505 : (Jvm.Cond.laysFinal "MacroMill$First" "MacroMill$First" "head" "[I") ∈ gt := List.mem_filter.mpr ⟨(i_tables_1_2 _ (List.mem_of_getElem? (i := 102) rfl)), rfl⟩
theorem k_506 : (Jvm.Cond.laysFinal "MacroMill$First" "MacroMill$First" "tail" "[I") ∈ gt := List.mem_filter.mpr ⟨(i_tables_1_2 _ (List.mem_of_getElem? (i := 104) rfl)), rfl⟩
theorem k_507 : (Jvm.Cond.lays "MacroMill$First" "MacroMill$First" "free" "I") ∈ gt := List.mem_filter.mpr ⟨(i_tables_1_2 _ (List.mem_of_getElem? (i := 106) rfl)), rfl⟩
theorem k_508 : (Jvm.Cond.lays "MacroMill$First" "MacroMill$First" "fresh" "I") ∈ gt := List.mem_filter.mpr ⟨(i_tables_1_2 _ (List.mem_of_getElem? (i := 108) rfl)), rfl⟩
theorem k_509 : (Jvm.Cond.lays "MacroMill$First" "MacroMill$First" "divertedCount" "I") ∈ gt := List.mem_filter.mpr ⟨(i_tables_1_2 _ (List.mem_of_getElem? (i := 110) rfl)), rfl⟩
theorem k_510 : (Jvm.Cond.lays "MacroMill$First" "MacroMill$First" "current" "I") ∈ gt := List.mem_filter.mpr ⟨(i_tables_1_2 _ (List.mem_of_getElem? (i := 112) rfl)), rfl⟩
theorem k_511 : (Jvm.Cond.laysFinal "MacroMill$Input" "MacroMill$Input" "bytes" "[B") ∈ gt := List.mem_filter.mpr ⟨(i_tables_1_2 _ (List.mem_of_getElem? (i := 44) rfl)), rfl⟩
theorem k_512 : (Jvm.Cond.laysFinal "MacroMill$Input" "MacroMill$Input" "outcome" "LMacroMill$Outcome;") ∈ gt := List.mem_filter.mpr ⟨(i_tables_1_2 _ (List.mem_of_getElem? (i := 46) rfl)), rfl⟩
theorem k_513 : (Jvm.Cond.lays "MacroMill$Input" "MacroMill$Input" "at" "I") ∈ gt := List.mem_filter.mpr ⟨(i_tables_1_2 _ (List.mem_of_getElem? (i := 48) rfl)), rfl⟩
theorem k_514 : (Jvm.Cond.lays "MacroMill$Input" "MacroMill$Input" "mainAt" "I") ∈ gt := List.mem_filter.mpr ⟨(i_tables_1_2 _ (List.mem_of_getElem? (i := 50) rfl)), rfl⟩
theorem k_515 : (Jvm.Cond.lays "MacroMill$Input" "MacroMill$Input" "line" "I") ∈ gt := List.mem_filter.mpr ⟨(i_tables_1_2 _ (List.mem_of_getElem? (i := 52) rfl)), rfl⟩
theorem k_516 : (Jvm.Cond.lays "MacroMill$Input" "MacroMill$Input" "fuel" "I") ∈ gt := List.mem_filter.mpr ⟨(i_tables_1_2 _ (List.mem_of_getElem? (i := 54) rfl)), rfl⟩
theorem k_517 : (Jvm.Cond.laysFinal "MacroMill$Input" "MacroMill$Input" "quotes" "[B") ∈ gt := List.mem_filter.mpr ⟨(i_tables_1_2 _ (List.mem_of_getElem? (i := 56) rfl)), rfl⟩
theorem k_518 : (Jvm.Cond.lays "MacroMill$Input" "MacroMill$Input" "openingLength" "I") ∈ gt := List.mem_filter.mpr ⟨(i_tables_1_2 _ (List.mem_of_getElem? (i := 58) rfl)), rfl⟩
theorem k_519 : (Jvm.Cond.lays "MacroMill$Input" "MacroMill$Input" "closingLength" "I") ∈ gt := List.mem_filter.mpr ⟨(i_tables_1_2 _ (List.mem_of_getElem? (i := 60) rfl)), rfl⟩
theorem k_520 : (Jvm.Cond.lays "MacroMill$Input" "MacroMill$Input" "kind" "I") ∈ gt := List.mem_filter.mpr ⟨(i_tables_1_2 _ (List.mem_of_getElem? (i := 62) rfl)), rfl⟩
theorem k_521 : (Jvm.Cond.lays "MacroMill$Input" "MacroMill$Input" "from" "I") ∈ gt := List.mem_filter.mpr ⟨(i_tables_1_2 _ (List.mem_of_getElem? (i := 64) rfl)), rfl⟩
theorem k_522 : (Jvm.Cond.lays "MacroMill$Input" "MacroMill$Input" "to" "I") ∈ gt := List.mem_filter.mpr ⟨(i_tables_1_2 _ (List.mem_of_getElem? (i := 66) rfl)), rfl⟩
theorem k_523 : (Jvm.Cond.laysFinal "MacroMill$Calls" "MacroMill$Calls" "bytes" "[B") ∈ gt := List.mem_filter.mpr ⟨(i_tables_1_1 _ (List.mem_of_getElem? (i := 196) rfl)), rfl⟩
theorem k_524 : (Jvm.Cond.lays "MacroMill$Calls" "MacroMill$Calls" "used" "I") ∈ gt := List.mem_filter.mpr ⟨(i_tables_1_1 _ (List.mem_of_getElem? (i := 198) rfl)), rfl⟩
theorem k_525 : (Jvm.Cond.laysFinal "MacroMill$Calls" "MacroMill$Calls" "argumentAt" "[I") ∈ gt := List.mem_filter.mpr ⟨(i_tables_1_1 _ (List.mem_of_getElem? (i := 200) rfl)), rfl⟩
theorem k_526 : (Jvm.Cond.lays "MacroMill$Calls" "MacroMill$Calls" "argumentCount" "I") ∈ gt := List.mem_filter.mpr ⟨(i_tables_1_1 _ (List.mem_of_getElem? (i := 202) rfl)), rfl⟩
theorem k_527 : (Jvm.Cond.laysFinal "MacroMill$Calls" "MacroMill$Calls" "nameAt" "[I") ∈ gt := List.mem_filter.mpr ⟨(i_tables_1_1 _ (List.mem_of_getElem? (i := 204) rfl)), rfl⟩
theorem k_528 : (Jvm.Cond.laysFinal "MacroMill$Calls" "MacroMill$Calls" "nameLength" "[I") ∈ gt := List.mem_filter.mpr ⟨(i_tables_1_1 _ (List.mem_of_getElem? (i := 206) rfl)), rfl⟩
theorem k_529 : (Jvm.Cond.laysFinal "MacroMill$Calls" "MacroMill$Calls" "firstArgument" "[I") ∈ gt := List.mem_filter.mpr ⟨(i_tables_1_1 _ (List.mem_of_getElem? (i := 208) rfl)), rfl⟩
theorem k_530 : (Jvm.Cond.laysFinal "MacroMill$Calls" "MacroMill$Calls" "nesting" "[I") ∈ gt := List.mem_filter.mpr ⟨(i_tables_1_1 _ (List.mem_of_getElem? (i := 210) rfl)), rfl⟩
theorem k_531 : (Jvm.Cond.laysFinal "MacroMill$Calls" "MacroMill$Calls" "begun" "[Z") ∈ gt := List.mem_filter.mpr ⟨(i_tables_1_1 _ (List.mem_of_getElem? (i := 212) rfl)), rfl⟩
theorem k_532 : (Jvm.Cond.lays "MacroMill$Calls" "MacroMill$Calls" "open" "I") ∈ gt := List.mem_filter.mpr ⟨(i_tables_1_1 _ (List.mem_of_getElem? (i := 214) rfl)), rfl⟩
theorem k_533 : (Jvm.Cond.laysFinal "MacroMill$Meanings" "MacroMill$Meanings" "pool" "[B") ∈ gt := List.mem_filter.mpr ⟨(i_tables_1_1 _ (List.mem_of_getElem? (i := 236) rfl)), rfl⟩
theorem k_534 : (Jvm.Cond.lays "MacroMill$Meanings" "MacroMill$Meanings" "poolUsed" "I") ∈ gt := List.mem_filter.mpr ⟨(i_tables_1_1 _ (List.mem_of_getElem? (i := 238) rfl)), rfl⟩
theorem k_535 : (Jvm.Cond.laysFinal "MacroMill$Meanings" "MacroMill$Meanings" "bucket" "[I") ∈ gt := List.mem_filter.mpr ⟨(i_tables_1_2 _ (List.mem_of_getElem? (i := 0) rfl)), rfl⟩
theorem k_536 : (Jvm.Cond.laysFinal "MacroMill$Meanings" "MacroMill$Meanings" "chain" "[I") ∈ gt := List.mem_filter.mpr ⟨(i_tables_1_2 _ (List.mem_of_getElem? (i := 2) rfl)), rfl⟩
theorem k_537 : (Jvm.Cond.lays "MacroMill$Meanings" "MacroMill$Meanings" "free" "I") ∈ gt := List.mem_filter.mpr ⟨(i_tables_1_2 _ (List.mem_of_getElem? (i := 4) rfl)), rfl⟩
theorem k_538 : (Jvm.Cond.laysFinal "MacroMill$Meanings" "MacroMill$Meanings" "nameAt" "[I") ∈ gt := List.mem_filter.mpr ⟨(i_tables_1_2 _ (List.mem_of_getElem? (i := 6) rfl)), rfl⟩
theorem k_539 : (Jvm.Cond.laysFinal "MacroMill$Meanings" "MacroMill$Meanings" "nameLength" "[I") ∈ gt := List.mem_filter.mpr ⟨(i_tables_1_2 _ (List.mem_of_getElem? (i := 8) rfl)), rfl⟩
theorem k_540 : (Jvm.Cond.laysFinal "MacroMill$Meanings" "MacroMill$Meanings" "textLength" "[I") ∈ gt := List.mem_filter.mpr ⟨(i_tables_1_2 _ (List.mem_of_getElem? (i := 10) rfl)), rfl⟩
theorem k_541 : (Jvm.Cond.laysFinal "MacroMill$Meanings" "MacroMill$Meanings" "kind" "[I") ∈ gt := List.mem_filter.mpr ⟨(i_tables_1_2 _ (List.mem_of_getElem? (i := 12) rfl)), rfl⟩
theorem k_542 : (Jvm.Cond.lays "MacroMill$Meanings" "MacroMill$Meanings" "defined" "I") ∈ gt := List.mem_filter.mpr ⟨(i_tables_1_2 _ (List.mem_of_getElem? (i := 14) rfl)), rfl⟩
theorem k_543 : (Jvm.Cond.lays "MacroMill$Meanings" "MacroMill$Meanings" "definedBytes" "I") ∈ gt := List.mem_filter.mpr ⟨(i_tables_1_2 _ (List.mem_of_getElem? (i := 16) rfl)), rfl⟩
theorem k_544 : (Jvm.Cond.laysFinal "MacroMill$Second" "MacroMill$Second" "files" "LMacroMill$Files;") ∈ gt := List.mem_filter.mpr ⟨(i_tables_1_3 _ (List.mem_of_getElem? (i := 178) rfl)), rfl⟩
theorem k_545 : (Jvm.Cond.laysFinal "MacroMill$Second" "MacroMill$Second" "outcome" "LMacroMill$Outcome;") ∈ gt := List.mem_filter.mpr ⟨(i_tables_1_3 _ (List.mem_of_getElem? (i := 180) rfl)), rfl⟩
theorem k_546 : (Jvm.Cond.laysFinal "MacroMill$Second" "MacroMill$Second" "reckoner" "LMacroMill$Reckoner;") ∈ gt := List.mem_filter.mpr ⟨(i_tables_1_3 _ (List.mem_of_getElem? (i := 182) rfl)), rfl⟩
theorem k_547 : (Jvm.Cond.laysFinal "MacroMill$Second" "MacroMill$Second" "tokens" "LMacroMill$Tokens;") ∈ gt := List.mem_filter.mpr ⟨(i_tables_1_3 _ (List.mem_of_getElem? (i := 184) rfl)), rfl⟩
theorem k_548 : (Jvm.Cond.laysFinal "MacroMill$Second" "MacroMill$Second" "macros" "LMacroMill$Macros;") ∈ gt := List.mem_filter.mpr ⟨(i_tables_1_3 _ (List.mem_of_getElem? (i := 186) rfl)), rfl⟩
theorem k_549 : (Jvm.Cond.laysFinal "MacroMill$Second" "MacroMill$Second" "lines" "LMacroMill$Lines;") ∈ gt := List.mem_filter.mpr ⟨(i_tables_1_3 _ (List.mem_of_getElem? (i := 188) rfl)), rfl⟩
theorem k_550 : (Jvm.Cond.laysFinal "MacroMill$Second" "MacroMill$Second" "replacer" "LMacroMill$Replacer;") ∈ gt := List.mem_filter.mpr ⟨(i_tables_1_3 _ (List.mem_of_getElem? (i := 190) rfl)), rfl⟩
theorem k_551 : (Jvm.Cond.laysFinal "MacroMill$Second" "MacroMill$Second" "conditionLine" "[I") ∈ gt := List.mem_filter.mpr ⟨(i_tables_1_3 _ (List.mem_of_getElem? (i := 192) rfl)), rfl⟩
theorem k_552 : (Jvm.Cond.laysFinal "MacroMill$Second" "MacroMill$Second" "condition" "[I") ∈ gt := List.mem_filter.mpr ⟨(i_tables_1_3 _ (List.mem_of_getElem? (i := 194) rfl)), rfl⟩
theorem k_553 : (Jvm.Cond.lays "MacroMill$Second" "MacroMill$Second" "conditions" "I") ∈ gt := List.mem_filter.mpr ⟨(i_tables_1_3 _ (List.mem_of_getElem? (i := 196) rfl)), rfl⟩
theorem k_554 : (Jvm.Cond.laysFinal "MacroMill$Second" "MacroMill$Second" "conditionsBefore" "[I") ∈ gt := List.mem_filter.mpr ⟨(i_tables_1_3 _ (List.mem_of_getElem? (i := 198) rfl)), rfl⟩
theorem k_555 : (Jvm.Cond.lays "MacroMill$Second" "MacroMill$Second" "depthLimit" "I") ∈ gt := List.mem_filter.mpr ⟨(i_tables_1_3 _ (List.mem_of_getElem? (i := 200) rfl)), rfl⟩
theorem k_556 : (Jvm.Cond.lays "MacroMill$Second" "MacroMill$Second" "from" "I") ∈ gt := List.mem_filter.mpr ⟨(i_tables_1_3 _ (List.mem_of_getElem? (i := 202) rfl)), rfl⟩
theorem k_557 : (Jvm.Cond.lays "MacroMill$Second" "MacroMill$Second" "to" "I") ∈ gt := List.mem_filter.mpr ⟨(i_tables_1_3 _ (List.mem_of_getElem? (i := 204) rfl)), rfl⟩
theorem k_558 : (Jvm.Cond.lays "MacroMill$Second" "MacroMill$Second" "line" "I") ∈ gt := List.mem_filter.mpr ⟨(i_tables_1_3 _ (List.mem_of_getElem? (i := 206) rfl)), rfl⟩
theorem k_559 : (Jvm.Cond.lays "MacroMill$Second" "MacroMill$Second" "waiting" "I") ∈ gt := List.mem_filter.mpr ⟨(i_tables_1_3 _ (List.mem_of_getElem? (i := 208) rfl)), rfl⟩
theorem k_560 : (Jvm.Cond.lays "MacroMill$Second" "MacroMill$Second" "waitingFirst" "I") ∈ gt := List.mem_filter.mpr ⟨(i_tables_1_3 _ (List.mem_of_getElem? (i := 210) rfl)), rfl⟩
theorem k_561 : (Jvm.Cond.laysFinal "MacroMill$Second" "MacroMill$Second" "parameterTokens" "[I") ∈ gt := List.mem_filter.mpr ⟨(i_tables_1_3 _ (List.mem_of_getElem? (i := 212) rfl)), rfl⟩
theorem k_562 : (Jvm.Cond.lays "MacroMill$Second" "MacroMill$Second" "parameterCount" "I") ∈ gt := List.mem_filter.mpr ⟨(i_tables_1_3 _ (List.mem_of_getElem? (i := 214) rfl)), rfl⟩
theorem k_563 : (Jvm.Cond.lays "MacroMill$Second" "MacroMill$Second" "takesMore" "Z") ∈ gt := List.mem_filter.mpr ⟨(i_tables_1_3 _ (List.mem_of_getElem? (i := 216) rfl)), rfl⟩
theorem k_564 : (Jvm.Cond.laysFinal "MacroMill$Second" "MacroMill$Second" "title" "[B") ∈ gt := List.mem_filter.mpr ⟨(i_tables_1_3 _ (List.mem_of_getElem? (i := 218) rfl)), rfl⟩
theorem k_565 : (Jvm.Cond.lays "MacroMill$Second" "MacroMill$Second" "titleLength" "I") ∈ gt := List.mem_filter.mpr ⟨(i_tables_1_3 _ (List.mem_of_getElem? (i := 220) rfl)), rfl⟩
theorem k_566 : (Jvm.Cond.laysFinal "MacroMill$Tokens" "MacroMill$Tokens" "bytes" "[B") ∈ gt := List.mem_filter.mpr ⟨(i_tables_1_2 _ (List.mem_of_getElem? (i := 160) rfl)), rfl⟩
theorem k_567 : (Jvm.Cond.laysFinal "MacroMill$Tokens" "MacroMill$Tokens" "lines" "[C") ∈ gt := List.mem_filter.mpr ⟨(i_tables_1_2 _ (List.mem_of_getElem? (i := 162) rfl)), rfl⟩
theorem k_568 : (Jvm.Cond.lays "MacroMill$Tokens" "MacroMill$Tokens" "made" "I") ∈ gt := List.mem_filter.mpr ⟨(i_tables_1_2 _ (List.mem_of_getElem? (i := 164) rfl)), rfl⟩
theorem k_569 : (Jvm.Cond.lays "MacroMill$Tokens" "MacroMill$Tokens" "overfull" "Z") ∈ gt := List.mem_filter.mpr ⟨(i_tables_1_2 _ (List.mem_of_getElem? (i := 166) rfl)), rfl⟩
theorem k_570 : (Jvm.Cond.lays "MacroMill$Tokens" "MacroMill$Tokens" "textEnd" "I") ∈ gt := List.mem_filter.mpr ⟨(i_tables_1_2 _ (List.mem_of_getElem? (i := 168) rfl)), rfl⟩
theorem k_571 : (Jvm.Cond.laysFinal "MacroMill$Tokens" "MacroMill$Tokens" "spelling" "[J") ∈ gt := List.mem_filter.mpr ⟨(i_tables_1_2 _ (List.mem_of_getElem? (i := 170) rfl)), rfl⟩
theorem k_572 : (Jvm.Cond.laysFinal "MacroMill$Tokens" "MacroMill$Tokens" "look" "[I") ∈ gt := List.mem_filter.mpr ⟨(i_tables_1_2 _ (List.mem_of_getElem? (i := 172) rfl)), rfl⟩
theorem k_573 : (Jvm.Cond.laysFinal "MacroMill$Tokens" "MacroMill$Tokens" "next" "[I") ∈ gt := List.mem_filter.mpr ⟨(i_tables_1_2 _ (List.mem_of_getElem? (i := 174) rfl)), rfl⟩
theorem k_574 : (Jvm.Cond.lays "MacroMill$Tokens" "MacroMill$Tokens" "used" "I") ∈ gt := List.mem_filter.mpr ⟨(i_tables_1_2 _ (List.mem_of_getElem? (i := 176) rfl)), rfl⟩
theorem k_575 : (Jvm.Cond.lays "MacroMill$Tokens" "MacroMill$Tokens" "scanned" "I") ∈ gt := List.mem_filter.mpr ⟨(i_tables_1_2 _ (List.mem_of_getElem? (i := 178) rfl)), rfl⟩
theorem k_576 : (Jvm.Cond.laysFinal "MacroMill$Macros" "MacroMill$Macros" "tokens" "LMacroMill$Tokens;") ∈ gt := List.mem_filter.mpr ⟨(i_tables_1_2 _ (List.mem_of_getElem? (i := 213) rfl)), rfl⟩
theorem k_577 : (Jvm.Cond.laysFinal "MacroMill$Macros" "MacroMill$Macros" "name" "[J") ∈ gt := List.mem_filter.mpr ⟨(i_tables_1_2 _ (List.mem_of_getElem? (i := 215) rfl)), rfl⟩
theorem k_578 : (Jvm.Cond.laysFinal "MacroMill$Macros" "MacroMill$Macros" "bucket" "[I") ∈ gt := List.mem_filter.mpr ⟨(i_tables_1_2 _ (List.mem_of_getElem? (i := 217) rfl)), rfl⟩
theorem k_579 : (Jvm.Cond.laysFinal "MacroMill$Macros" "MacroMill$Macros" "chain" "[I") ∈ gt := List.mem_filter.mpr ⟨(i_tables_1_2 _ (List.mem_of_getElem? (i := 219) rfl)), rfl⟩
theorem k_580 : (Jvm.Cond.lays "MacroMill$Macros" "MacroMill$Macros" "names" "I") ∈ gt := List.mem_filter.mpr ⟨(i_tables_1_2 _ (List.mem_of_getElem? (i := 221) rfl)), rfl⟩
theorem k_581 : (Jvm.Cond.lays "MacroMill$Macros" "MacroMill$Macros" "there" "I") ∈ gt := List.mem_filter.mpr ⟨(i_tables_1_2 _ (List.mem_of_getElem? (i := 223) rfl)), rfl⟩
theorem k_582 : (Jvm.Cond.laysFinal "MacroMill$Macros" "MacroMill$Macros" "parameters" "[I") ∈ gt := List.mem_filter.mpr ⟨(i_tables_1_2 _ (List.mem_of_getElem? (i := 225) rfl)), rfl⟩
theorem k_583 : (Jvm.Cond.laysFinal "MacroMill$Macros" "MacroMill$Macros" "takesMore" "[Z") ∈ gt := List.mem_filter.mpr ⟨(i_tables_1_2 _ (List.mem_of_getElem? (i := 227) rfl)), rfl⟩
theorem k_584 : (Jvm.Cond.laysFinal "MacroMill$Macros" "MacroMill$Macros" "start" "[I") ∈ gt := List.mem_filter.mpr ⟨(i_tables_1_2 _ (List.mem_of_getElem? (i := 229) rfl)), rfl⟩
theorem k_585 : (Jvm.Cond.laysFinal "MacroMill$Macros" "MacroMill$Macros" "end" "[I") ∈ gt := List.mem_filter.mpr ⟨(i_tables_1_2 _ (List.mem_of_getElem? (i := 231) rfl)), rfl⟩
theorem k_586 : (Jvm.Cond.laysFinal "MacroMill$Macros" "MacroMill$Macros" "spelling" "[J") ∈ gt := List.mem_filter.mpr ⟨(i_tables_1_2 _ (List.mem_of_getElem? (i := 233) rfl)), rfl⟩
theorem k_587 : (Jvm.Cond.laysFinal "MacroMill$Macros" "MacroMill$Macros" "look" "[I") ∈ gt := List.mem_filter.mpr ⟨(i_tables_1_2 _ (List.mem_of_getElem? (i := 235) rfl)), rfl⟩
theorem k_588 : (Jvm.Cond.lays "MacroMill$Macros" "MacroMill$Macros" "used" "I") ∈ gt := List.mem_filter.mpr ⟨(i_tables_1_2 _ (List.mem_of_getElem? (i := 237) rfl)), rfl⟩
theorem k_589 : (Jvm.Cond.laysFinal "MacroMill$Macros" "MacroMill$Macros" "bits" "[J") ∈ gt := List.mem_filter.mpr ⟨(i_tables_1_2 _ (List.mem_of_getElem? (i := 239) rfl)), rfl⟩
theorem k_590 : (Jvm.Cond.laysFinal "MacroMill$Macros" "MacroMill$Macros" "setBucket" "[I") ∈ gt := List.mem_filter.mpr ⟨(i_tables_1_3 _ (List.mem_of_getElem? (i := 1) rfl)), rfl⟩
theorem k_591 : (Jvm.Cond.laysFinal "MacroMill$Macros" "MacroMill$Macros" "setChain" "[I") ∈ gt := List.mem_filter.mpr ⟨(i_tables_1_3 _ (List.mem_of_getElem? (i := 3) rfl)), rfl⟩
theorem k_592 : (Jvm.Cond.lays "MacroMill$Macros" "MacroMill$Macros" "sets" "I") ∈ gt := List.mem_filter.mpr ⟨(i_tables_1_3 _ (List.mem_of_getElem? (i := 5) rfl)), rfl⟩
theorem k_593 : (Jvm.Cond.laysFinal "MacroMill$Macros" "MacroMill$Macros" "common" "[J") ∈ gt := List.mem_filter.mpr ⟨(i_tables_1_3 _ (List.mem_of_getElem? (i := 7) rfl)), rfl⟩
theorem k_594 : (Jvm.Cond.laysFinal "MacroMill$Macros" "MacroMill$Macros" "wanted" "[J") ∈ gt := List.mem_filter.mpr ⟨(i_tables_1_3 _ (List.mem_of_getElem? (i := 9) rfl)), rfl⟩
theorem k_595 : (Jvm.Cond.laysFinal "MacroMill$Lines" "MacroMill$Lines" "files" "LMacroMill$Files;") ∈ gt := List.mem_filter.mpr ⟨(i_tables_1_3 _ (List.mem_of_getElem? (i := 40) rfl)), rfl⟩
theorem k_596 : (Jvm.Cond.laysFinal "MacroMill$Lines" "MacroMill$Lines" "tokens" "LMacroMill$Tokens;") ∈ gt := List.mem_filter.mpr ⟨(i_tables_1_3 _ (List.mem_of_getElem? (i := 42) rfl)), rfl⟩
theorem k_597 : (Jvm.Cond.laysFinal "MacroMill$Lines" "MacroMill$Lines" "outcome" "LMacroMill$Outcome;") ∈ gt := List.mem_filter.mpr ⟨(i_tables_1_3 _ (List.mem_of_getElem? (i := 44) rfl)), rfl⟩
theorem k_598 : (Jvm.Cond.laysFinal "MacroMill$Lines" "MacroMill$Lines" "textFrom" "[I") ∈ gt := List.mem_filter.mpr ⟨(i_tables_1_3 _ (List.mem_of_getElem? (i := 46) rfl)), rfl⟩
theorem k_599 : (Jvm.Cond.laysFinal "MacroMill$Lines" "MacroMill$Lines" "textTo" "[I") ∈ gt := List.mem_filter.mpr ⟨(i_tables_1_3 _ (List.mem_of_getElem? (i := 48) rfl)), rfl⟩
theorem k_600 : (Jvm.Cond.laysFinal "MacroMill$Lines" "MacroMill$Lines" "rawLength" "[I") ∈ gt := List.mem_filter.mpr ⟨(i_tables_1_3 _ (List.mem_of_getElem? (i := 50) rfl)), rfl⟩
theorem k_601 : (Jvm.Cond.laysFinal "MacroMill$Lines" "MacroMill$Lines" "file" "[I") ∈ gt := List.mem_filter.mpr ⟨(i_tables_1_3 _ (List.mem_of_getElem? (i := 52) rfl)), rfl⟩
theorem k_602 : (Jvm.Cond.laysFinal "MacroMill$Lines" "MacroMill$Lines" "at" "[I") ∈ gt := List.mem_filter.mpr ⟨(i_tables_1_3 _ (List.mem_of_getElem? (i := 54) rfl)), rfl⟩
theorem k_603 : (Jvm.Cond.laysFinal "MacroMill$Lines" "MacroMill$Lines" "shift" "[I") ∈ gt := List.mem_filter.mpr ⟨(i_tables_1_3 _ (List.mem_of_getElem? (i := 56) rfl)), rfl⟩
theorem k_604 : (Jvm.Cond.laysFinal "MacroMill$Lines" "MacroMill$Lines" "titles" "[B") ∈ gt := List.mem_filter.mpr ⟨(i_tables_1_3 _ (List.mem_of_getElem? (i := 58) rfl)), rfl⟩
theorem k_605 : (Jvm.Cond.laysFinal "MacroMill$Lines" "MacroMill$Lines" "titleLength" "[I") ∈ gt := List.mem_filter.mpr ⟨(i_tables_1_3 _ (List.mem_of_getElem? (i := 60) rfl)), rfl⟩
theorem k_606 : (Jvm.Cond.lays "MacroMill$Lines" "MacroMill$Lines" "depth" "I") ∈ gt := List.mem_filter.mpr ⟨(i_tables_1_3 _ (List.mem_of_getElem? (i := 62) rfl)), rfl⟩
theorem k_607 : (Jvm.Cond.lays "MacroMill$Lines" "MacroMill$Lines" "begun" "I") ∈ gt := List.mem_filter.mpr ⟨(i_tables_1_3 _ (List.mem_of_getElem? (i := 64) rfl)), rfl⟩
theorem k_608 : (Jvm.Cond.lays "MacroMill$Lines" "MacroMill$Lines" "begunBytes" "I") ∈ gt := List.mem_filter.mpr ⟨(i_tables_1_3 _ (List.mem_of_getElem? (i := 66) rfl)), rfl⟩
theorem k_609 : (Jvm.Cond.lays "MacroMill$Lines" "MacroMill$Lines" "lines" "I") ∈ gt := List.mem_filter.mpr ⟨(i_tables_1_3 _ (List.mem_of_getElem? (i := 68) rfl)), rfl⟩
theorem k_610 : (Jvm.Cond.lays "MacroMill$Lines" "MacroMill$Lines" "loneQuotes" "I") ∈ gt := List.mem_filter.mpr ⟨(i_tables_1_3 _ (List.mem_of_getElem? (i := 70) rfl)), rfl⟩
theorem k_611 : (Jvm.Cond.lays "MacroMill$Lines" "MacroMill$Lines" "row" "I") ∈ gt := List.mem_filter.mpr ⟨(i_tables_1_3 _ (List.mem_of_getElem? (i := 72) rfl)), rfl⟩
theorem k_612 : (Jvm.Cond.lays "MacroMill$Lines" "MacroMill$Lines" "count" "I") ∈ gt := List.mem_filter.mpr ⟨(i_tables_1_3 _ (List.mem_of_getElem? (i := 74) rfl)), rfl⟩
theorem k_613 : (Jvm.Cond.lays "MacroMill$Lines" "MacroMill$Lines" "lineBehind" "I") ∈ gt := List.mem_filter.mpr ⟨(i_tables_1_3 _ (List.mem_of_getElem? (i := 76) rfl)), rfl⟩
theorem k_614 : (Jvm.Cond.laysFinal "MacroMill$Replacer" "MacroMill$Replacer" "tokens" "LMacroMill$Tokens;") ∈ gt := List.mem_filter.mpr ⟨(i_tables_1_3 _ (List.mem_of_getElem? (i := 101) rfl)), rfl⟩
theorem k_615 : (Jvm.Cond.laysFinal "MacroMill$Replacer" "MacroMill$Replacer" "macros" "LMacroMill$Macros;") ∈ gt := List.mem_filter.mpr ⟨(i_tables_1_3 _ (List.mem_of_getElem? (i := 103) rfl)), rfl⟩
theorem k_616 : (Jvm.Cond.laysFinal "MacroMill$Replacer" "MacroMill$Replacer" "lines" "LMacroMill$Lines;") ∈ gt := List.mem_filter.mpr ⟨(i_tables_1_3 _ (List.mem_of_getElem? (i := 105) rfl)), rfl⟩
theorem k_617 : (Jvm.Cond.laysFinal "MacroMill$Replacer" "MacroMill$Replacer" "outcome" "LMacroMill$Outcome;") ∈ gt := List.mem_filter.mpr ⟨(i_tables_1_3 _ (List.mem_of_getElem? (i := 107) rfl)), rfl⟩
theorem k_618 : (Jvm.Cond.laysFinal "MacroMill$Replacer" "MacroMill$Replacer" "argumentFirst" "[I") ∈ gt := List.mem_filter.mpr ⟨(i_tables_1_3 _ (List.mem_of_getElem? (i := 109) rfl)), rfl⟩
theorem k_619 : (Jvm.Cond.laysFinal "MacroMill$Replacer" "MacroMill$Replacer" "argumentStop" "[I") ∈ gt := List.mem_filter.mpr ⟨(i_tables_1_3 _ (List.mem_of_getElem? (i := 111) rfl)), rfl⟩
theorem k_620 : (Jvm.Cond.laysFinal "MacroMill$Replacer" "MacroMill$Replacer" "keptFirst" "[I") ∈ gt := List.mem_filter.mpr ⟨(i_tables_1_3 _ (List.mem_of_getElem? (i := 113) rfl)), rfl⟩
theorem k_621 : (Jvm.Cond.laysFinal "MacroMill$Replacer" "MacroMill$Replacer" "keptLast" "[I") ∈ gt := List.mem_filter.mpr ⟨(i_tables_1_3 _ (List.mem_of_getElem? (i := 115) rfl)), rfl⟩
theorem k_622 : (Jvm.Cond.laysFinal "MacroMill$Replacer" "MacroMill$Replacer" "keptCount" "[I") ∈ gt := List.mem_filter.mpr ⟨(i_tables_1_3 _ (List.mem_of_getElem? (i := 117) rfl)), rfl⟩
theorem k_623 : (Jvm.Cond.laysFinal "MacroMill$Replacer" "MacroMill$Replacer" "keptSubstituted" "[I") ∈ gt := List.mem_filter.mpr ⟨(i_tables_1_3 _ (List.mem_of_getElem? (i := 119) rfl)), rfl⟩
theorem k_624 : (Jvm.Cond.laysFinal "MacroMill$Replacer" "MacroMill$Replacer" "keptMade" "[I") ∈ gt := List.mem_filter.mpr ⟨(i_tables_1_3 _ (List.mem_of_getElem? (i := 121) rfl)), rfl⟩
theorem k_625 : (Jvm.Cond.laysFinal "MacroMill$Replacer" "MacroMill$Replacer" "head" "[I") ∈ gt := List.mem_filter.mpr ⟨(i_tables_1_3 _ (List.mem_of_getElem? (i := 123) rfl)), rfl⟩
theorem k_626 : (Jvm.Cond.laysFinal "MacroMill$Replacer" "MacroMill$Replacer" "tail" "[I") ∈ gt := List.mem_filter.mpr ⟨(i_tables_1_3 _ (List.mem_of_getElem? (i := 125) rfl)), rfl⟩
theorem k_627 : (Jvm.Cond.laysFinal "MacroMill$Replacer" "MacroMill$Replacer" "count" "[I") ∈ gt := List.mem_filter.mpr ⟨(i_tables_1_3 _ (List.mem_of_getElem? (i := 127) rfl)), rfl⟩
theorem k_628 : (Jvm.Cond.lays "MacroMill$Replacer" "MacroMill$Replacer" "printing" "Z") ∈ gt := List.mem_filter.mpr ⟨(i_tables_1_3 _ (List.mem_of_getElem? (i := 129) rfl)), rfl⟩
theorem k_629 : (Jvm.Cond.lays "MacroMill$Replacer" "MacroMill$Replacer" "directiveLine" "I") ∈ gt := List.mem_filter.mpr ⟨(i_tables_1_3 _ (List.mem_of_getElem? (i := 131) rfl)), rfl⟩
theorem k_630 : (Jvm.Cond.laysFinal "MacroMillModel" "MacroMillModel" "tape" "[B") ∈ gt := List.mem_filter.mpr ⟨(i_tables_1_9 _ (List.mem_of_getElem? (i := 199) rfl)), rfl⟩
theorem k_631 : (Jvm.Cond.lays "MacroMillModel" "MacroMillModel" "tapeSize" "I") ∈ gt := List.mem_filter.mpr ⟨(i_tables_1_9 _ (List.mem_of_getElem? (i := 201) rfl)), rfl⟩
theorem k_632 : (Jvm.Cond.lays "MacroMillModel" "MacroMillModel" "fed" "Z") ∈ gt := List.mem_filter.mpr ⟨(i_tables_1_9 _ (List.mem_of_getElem? (i := 203) rfl)), rfl⟩
theorem k_633 : (Jvm.Cond.lays "MacroMillModel" "MacroMillModel" "files" "I") ∈ gt := List.mem_filter.mpr ⟨(i_tables_1_9 _ (List.mem_of_getElem? (i := 205) rfl)), rfl⟩
theorem k_634 : (Jvm.Cond.laysFinal "MacroMillModel" "MacroMillModel" "titles" "[B") ∈ gt := List.mem_filter.mpr ⟨(i_tables_1_9 _ (List.mem_of_getElem? (i := 207) rfl)), rfl⟩
theorem k_635 : (Jvm.Cond.laysFinal "MacroMillModel" "MacroMillModel" "titleSize" "[I") ∈ gt := List.mem_filter.mpr ⟨(i_tables_1_9 _ (List.mem_of_getElem? (i := 209) rfl)), rfl⟩
theorem k_636 : (Jvm.Cond.laysFinal "MacroMillModel" "MacroMillModel" "bytes" "[B") ∈ gt := List.mem_filter.mpr ⟨(i_tables_1_9 _ (List.mem_of_getElem? (i := 211) rfl)), rfl⟩
theorem k_637 : (Jvm.Cond.laysFinal "MacroMillModel" "MacroMillModel" "at" "[I") ∈ gt := List.mem_filter.mpr ⟨(i_tables_1_9 _ (List.mem_of_getElem? (i := 213) rfl)), rfl⟩
theorem k_638 : (Jvm.Cond.laysFinal "MacroMillModel" "MacroMillModel" "size" "[I") ∈ gt := List.mem_filter.mpr ⟨(i_tables_1_9 _ (List.mem_of_getElem? (i := 215) rfl)), rfl⟩
theorem k_639 : (Jvm.Cond.lays "MacroMillModel" "MacroMillModel" "allBytes" "I") ∈ gt := List.mem_filter.mpr ⟨(i_tables_1_9 _ (List.mem_of_getElem? (i := 217) rfl)), rfl⟩
theorem k_640 : (Jvm.Cond.lays "MacroMillModel" "MacroMillModel" "error" "I") ∈ gt := List.mem_filter.mpr ⟨(i_tables_1_9 _ (List.mem_of_getElem? (i := 219) rfl)), rfl⟩
theorem k_641 : (Jvm.Cond.lays "MacroMillModel" "MacroMillModel" "errorFile" "I") ∈ gt := List.mem_filter.mpr ⟨(i_tables_1_9 _ (List.mem_of_getElem? (i := 221) rfl)), rfl⟩
theorem k_642 : (Jvm.Cond.lays "MacroMillModel" "MacroMillModel" "errorLine" "I") ∈ gt := List.mem_filter.mpr ⟨(i_tables_1_9 _ (List.mem_of_getElem? (i := 223) rfl)), rfl⟩
theorem k_643 : (Jvm.Cond.lays "MacroMillModel" "MacroMillModel" "tokensRead" "I") ∈ gt := List.mem_filter.mpr ⟨(i_tables_1_9 _ (List.mem_of_getElem? (i := 225) rfl)), rfl⟩
theorem k_644 : (Jvm.Cond.lays "MacroMillModel" "MacroMillModel" "tokensOut" "I") ∈ gt := List.mem_filter.mpr ⟨(i_tables_1_9 _ (List.mem_of_getElem? (i := 227) rfl)), rfl⟩
theorem k_645 : (Jvm.Cond.lays "MacroMillModel" "MacroMillModel" "substituted" "I") ∈ gt := List.mem_filter.mpr ⟨(i_tables_1_9 _ (List.mem_of_getElem? (i := 229) rfl)), rfl⟩
theorem k_646 : (Jvm.Cond.lays "MacroMillModel" "MacroMillModel" "astray" "I") ∈ gt := List.mem_filter.mpr ⟨(i_tables_1_9 _ (List.mem_of_getElem? (i := 231) rfl)), rfl⟩
theorem k_647 : (Jvm.Cond.laysFinal "MacroMillModel" "MacroMillModel" "out" "[B") ∈ gt := List.mem_filter.mpr ⟨(i_tables_1_9 _ (List.mem_of_getElem? (i := 233) rfl)), rfl⟩
theorem k_648 : (Jvm.Cond.lays "MacroMillModel" "MacroMillModel" "outSize" "I") ∈ gt := List.mem_filter.mpr ⟨(i_tables_1_9 _ (List.mem_of_getElem? (i := 235) rfl)), rfl⟩
theorem k_649 : (Jvm.Cond.laysFinal "MacroMillModel" "MacroMillModel" "input" "[B") ∈ gt := List.mem_filter.mpr ⟨(i_tables_1_9 _ (List.mem_of_getElem? (i := 237) rfl)), rfl⟩
theorem k_650 : (Jvm.Cond.lays "MacroMillModel" "MacroMillModel" "inputAt" "I") ∈ gt := List.mem_filter.mpr ⟨(i_tables_1_9 _ (List.mem_of_getElem? (i := 239) rfl)), rfl⟩
theorem k_651 : (Jvm.Cond.lays "MacroMillModel" "MacroMillModel" "mainLeft" "I") ∈ gt := List.mem_filter.mpr ⟨(i_tables_1_10 _ (List.mem_of_getElem? (i := 1) rfl)), rfl⟩
theorem k_652 : (Jvm.Cond.lays "MacroMillModel" "MacroMillModel" "mainFile" "I") ∈ gt := List.mem_filter.mpr ⟨(i_tables_1_10 _ (List.mem_of_getElem? (i := 3) rfl)), rfl⟩
theorem k_653 : (Jvm.Cond.lays "MacroMillModel" "MacroMillModel" "line" "I") ∈ gt := List.mem_filter.mpr ⟨(i_tables_1_10 _ (List.mem_of_getElem? (i := 5) rfl)), rfl⟩
theorem k_654 : (Jvm.Cond.lays "MacroMillModel" "MacroMillModel" "fuel" "I") ∈ gt := List.mem_filter.mpr ⟨(i_tables_1_10 _ (List.mem_of_getElem? (i := 7) rfl)), rfl⟩
theorem k_655 : (Jvm.Cond.laysFinal "MacroMillModel" "MacroMillModel" "open" "[I") ∈ gt := List.mem_filter.mpr ⟨(i_tables_1_10 _ (List.mem_of_getElem? (i := 9) rfl)), rfl⟩
theorem k_656 : (Jvm.Cond.lays "MacroMillModel" "MacroMillModel" "openSize" "I") ∈ gt := List.mem_filter.mpr ⟨(i_tables_1_10 _ (List.mem_of_getElem? (i := 11) rfl)), rfl⟩
theorem k_657 : (Jvm.Cond.laysFinal "MacroMillModel" "MacroMillModel" "close" "[I") ∈ gt := List.mem_filter.mpr ⟨(i_tables_1_10 _ (List.mem_of_getElem? (i := 13) rfl)), rfl⟩
theorem k_658 : (Jvm.Cond.lays "MacroMillModel" "MacroMillModel" "closeSize" "I") ∈ gt := List.mem_filter.mpr ⟨(i_tables_1_10 _ (List.mem_of_getElem? (i := 15) rfl)), rfl⟩
theorem k_659 : (Jvm.Cond.lays "MacroMillModel" "MacroMillModel" "kind" "I") ∈ gt := List.mem_filter.mpr ⟨(i_tables_1_10 _ (List.mem_of_getElem? (i := 17) rfl)), rfl⟩
theorem k_660 : (Jvm.Cond.laysFinal "MacroMillModel" "MacroMillModel" "token" "[B") ∈ gt := List.mem_filter.mpr ⟨(i_tables_1_10 _ (List.mem_of_getElem? (i := 19) rfl)), rfl⟩
theorem k_661 : (Jvm.Cond.lays "MacroMillModel" "MacroMillModel" "tokenSize" "I") ∈ gt := List.mem_filter.mpr ⟨(i_tables_1_10 _ (List.mem_of_getElem? (i := 21) rfl)), rfl⟩
theorem k_662 : (Jvm.Cond.laysFinal "MacroMillModel" "MacroMillModel" "given" "[B") ∈ gt := List.mem_filter.mpr ⟨(i_tables_1_10 _ (List.mem_of_getElem? (i := 23) rfl)), rfl⟩
theorem k_663 : (Jvm.Cond.lays "MacroMillModel" "MacroMillModel" "givenSize" "I") ∈ gt := List.mem_filter.mpr ⟨(i_tables_1_10 _ (List.mem_of_getElem? (i := 25) rfl)), rfl⟩
theorem k_664 : (Jvm.Cond.lays "MacroMillModel" "MacroMillModel" "meanings" "I") ∈ gt := List.mem_filter.mpr ⟨(i_tables_1_10 _ (List.mem_of_getElem? (i := 27) rfl)), rfl⟩
theorem k_665 : (Jvm.Cond.laysFinal "MacroMillModel" "MacroMillModel" "meaningAt" "[I") ∈ gt := List.mem_filter.mpr ⟨(i_tables_1_10 _ (List.mem_of_getElem? (i := 29) rfl)), rfl⟩
theorem k_666 : (Jvm.Cond.laysFinal "MacroMillModel" "MacroMillModel" "meaningName" "[I") ∈ gt := List.mem_filter.mpr ⟨(i_tables_1_10 _ (List.mem_of_getElem? (i := 31) rfl)), rfl⟩
theorem k_667 : (Jvm.Cond.laysFinal "MacroMillModel" "MacroMillModel" "meaningText" "[I") ∈ gt := List.mem_filter.mpr ⟨(i_tables_1_10 _ (List.mem_of_getElem? (i := 33) rfl)), rfl⟩
theorem k_668 : (Jvm.Cond.laysFinal "MacroMillModel" "MacroMillModel" "builtIn" "[I") ∈ gt := List.mem_filter.mpr ⟨(i_tables_1_10 _ (List.mem_of_getElem? (i := 35) rfl)), rfl⟩
theorem k_669 : (Jvm.Cond.laysFinal "MacroMillModel" "MacroMillModel" "texts" "[B") ∈ gt := List.mem_filter.mpr ⟨(i_tables_1_10 _ (List.mem_of_getElem? (i := 37) rfl)), rfl⟩
theorem k_670 : (Jvm.Cond.lays "MacroMillModel" "MacroMillModel" "textsSize" "I") ∈ gt := List.mem_filter.mpr ⟨(i_tables_1_10 _ (List.mem_of_getElem? (i := 39) rfl)), rfl⟩
theorem k_671 : (Jvm.Cond.lays "MacroMillModel" "MacroMillModel" "defined" "I") ∈ gt := List.mem_filter.mpr ⟨(i_tables_1_10 _ (List.mem_of_getElem? (i := 41) rfl)), rfl⟩
theorem k_672 : (Jvm.Cond.lays "MacroMillModel" "MacroMillModel" "definedBytes" "I") ∈ gt := List.mem_filter.mpr ⟨(i_tables_1_10 _ (List.mem_of_getElem? (i := 43) rfl)), rfl⟩
theorem k_673 : (Jvm.Cond.laysFinal "MacroMillModel" "MacroMillModel" "diverted" "[B") ∈ gt := List.mem_filter.mpr ⟨(i_tables_1_10 _ (List.mem_of_getElem? (i := 45) rfl)), rfl⟩
theorem k_674 : (Jvm.Cond.laysFinal "MacroMillModel" "MacroMillModel" "divertedSize" "[I") ∈ gt := List.mem_filter.mpr ⟨(i_tables_1_10 _ (List.mem_of_getElem? (i := 47) rfl)), rfl⟩
theorem k_675 : (Jvm.Cond.lays "MacroMillModel" "MacroMillModel" "divertedAll" "I") ∈ gt := List.mem_filter.mpr ⟨(i_tables_1_10 _ (List.mem_of_getElem? (i := 49) rfl)), rfl⟩
theorem k_676 : (Jvm.Cond.lays "MacroMillModel" "MacroMillModel" "current" "I") ∈ gt := List.mem_filter.mpr ⟨(i_tables_1_10 _ (List.mem_of_getElem? (i := 51) rfl)), rfl⟩
theorem k_677 : (Jvm.Cond.lays "MacroMillModel" "MacroMillModel" "calls" "I") ∈ gt := List.mem_filter.mpr ⟨(i_tables_1_10 _ (List.mem_of_getElem? (i := 53) rfl)), rfl⟩
theorem k_678 : (Jvm.Cond.laysFinal "MacroMillModel" "MacroMillModel" "arguments" "[B") ∈ gt := List.mem_filter.mpr ⟨(i_tables_1_10 _ (List.mem_of_getElem? (i := 55) rfl)), rfl⟩
theorem k_679 : (Jvm.Cond.lays "MacroMillModel" "MacroMillModel" "argumentsSize" "I") ∈ gt := List.mem_filter.mpr ⟨(i_tables_1_10 _ (List.mem_of_getElem? (i := 57) rfl)), rfl⟩
theorem k_680 : (Jvm.Cond.lays "MacroMillModel" "MacroMillModel" "starts" "I") ∈ gt := List.mem_filter.mpr ⟨(i_tables_1_10 _ (List.mem_of_getElem? (i := 59) rfl)), rfl⟩
theorem k_681 : (Jvm.Cond.laysFinal "MacroMillModel" "MacroMillModel" "start" "[I") ∈ gt := List.mem_filter.mpr ⟨(i_tables_1_10 _ (List.mem_of_getElem? (i := 61) rfl)), rfl⟩
theorem k_682 : (Jvm.Cond.lays "MacroMillModel" "MacroMillModel" "place" "I") ∈ gt := List.mem_filter.mpr ⟨(i_tables_1_10 _ (List.mem_of_getElem? (i := 63) rfl)), rfl⟩
theorem k_683 : (Jvm.Cond.lays "MacroMillModel" "MacroMillModel" "stop" "I") ∈ gt := List.mem_filter.mpr ⟨(i_tables_1_10 _ (List.mem_of_getElem? (i := 65) rfl)), rfl⟩
theorem k_684 : (Jvm.Cond.lays "MacroMillModel" "MacroMillModel" "wrong" "Z") ∈ gt := List.mem_filter.mpr ⟨(i_tables_1_10 _ (List.mem_of_getElem? (i := 67) rfl)), rfl⟩
theorem k_685 : (Jvm.Cond.lays "MacroMillModel" "MacroMillModel" "divided" "Z") ∈ gt := List.mem_filter.mpr ⟨(i_tables_1_10 _ (List.mem_of_getElem? (i := 69) rfl)), rfl⟩
theorem k_686 : (Jvm.Cond.lays "MacroMillModel" "MacroMillModel" "nested" "I") ∈ gt := List.mem_filter.mpr ⟨(i_tables_1_10 _ (List.mem_of_getElem? (i := 71) rfl)), rfl⟩
theorem k_687 : (Jvm.Cond.lays "MacroMillModel" "MacroMillModel" "waiting" "I") ∈ gt := List.mem_filter.mpr ⟨(i_tables_1_10 _ (List.mem_of_getElem? (i := 73) rfl)), rfl⟩
theorem k_688 : (Jvm.Cond.laysFinal "MacroMillModel" "MacroMillModel" "waitingSign" "[I") ∈ gt := List.mem_filter.mpr ⟨(i_tables_1_10 _ (List.mem_of_getElem? (i := 75) rfl)), rfl⟩
theorem k_689 : (Jvm.Cond.laysFinal "MacroMillModel" "MacroMillModel" "waitingValue" "[I") ∈ gt := List.mem_filter.mpr ⟨(i_tables_1_10 _ (List.mem_of_getElem? (i := 77) rfl)), rfl⟩
theorem k_690 : (Jvm.Cond.laysFinal "MacroMillModel" "MacroMillModel" "store" "[B") ∈ gt := List.mem_filter.mpr ⟨(i_tables_1_10 _ (List.mem_of_getElem? (i := 79) rfl)), rfl⟩
theorem k_691 : (Jvm.Cond.laysFinal "MacroMillModel" "MacroMillModel" "lineOf" "[I") ∈ gt := List.mem_filter.mpr ⟨(i_tables_1_10 _ (List.mem_of_getElem? (i := 81) rfl)), rfl⟩
theorem k_692 : (Jvm.Cond.laysFinal "MacroMillModel" "MacroMillModel" "sourceAt" "[I") ∈ gt := List.mem_filter.mpr ⟨(i_tables_1_10 _ (List.mem_of_getElem? (i := 83) rfl)), rfl⟩
theorem k_693 : (Jvm.Cond.laysFinal "MacroMillModel" "MacroMillModel" "sourceSize" "[I") ∈ gt := List.mem_filter.mpr ⟨(i_tables_1_10 _ (List.mem_of_getElem? (i := 85) rfl)), rfl⟩
theorem k_694 : (Jvm.Cond.lays "MacroMillModel" "MacroMillModel" "stored" "I") ∈ gt := List.mem_filter.mpr ⟨(i_tables_1_10 _ (List.mem_of_getElem? (i := 87) rfl)), rfl⟩
theorem k_695 : (Jvm.Cond.lays "MacroMillModel" "MacroMillModel" "made" "I") ∈ gt := List.mem_filter.mpr ⟨(i_tables_1_10 _ (List.mem_of_getElem? (i := 89) rfl)), rfl⟩
theorem k_696 : (Jvm.Cond.lays "MacroMillModel" "MacroMillModel" "counted" "I") ∈ gt := List.mem_filter.mpr ⟨(i_tables_1_10 _ (List.mem_of_getElem? (i := 91) rfl)), rfl⟩
theorem k_697 : (Jvm.Cond.lays "MacroMillModel" "MacroMillModel" "cells" "I") ∈ gt := List.mem_filter.mpr ⟨(i_tables_1_10 _ (List.mem_of_getElem? (i := 93) rfl)), rfl⟩
theorem k_698 : (Jvm.Cond.laysFinal "MacroMillModel" "MacroMillModel" "cellAt" "[I") ∈ gt := List.mem_filter.mpr ⟨(i_tables_1_10 _ (List.mem_of_getElem? (i := 95) rfl)), rfl⟩
theorem k_699 : (Jvm.Cond.laysFinal "MacroMillModel" "MacroMillModel" "cellSize" "[I") ∈ gt := List.mem_filter.mpr ⟨(i_tables_1_10 _ (List.mem_of_getElem? (i := 97) rfl)), rfl⟩
theorem k_700 : (Jvm.Cond.laysFinal "MacroMillModel" "MacroMillModel" "cellLine" "[I") ∈ gt := List.mem_filter.mpr ⟨(i_tables_1_10 _ (List.mem_of_getElem? (i := 99) rfl)), rfl⟩
theorem k_701 : (Jvm.Cond.laysFinal "MacroMillModel" "MacroMillModel" "cellSet" "[I") ∈ gt := List.mem_filter.mpr ⟨(i_tables_1_10 _ (List.mem_of_getElem? (i := 101) rfl)), rfl⟩
theorem k_702 : (Jvm.Cond.laysFinal "MacroMillModel" "MacroMillModel" "cellNext" "[I") ∈ gt := List.mem_filter.mpr ⟨(i_tables_1_10 _ (List.mem_of_getElem? (i := 103) rfl)), rfl⟩
theorem k_703 : (Jvm.Cond.laysFinal "MacroMillModel" "MacroMillModel" "isBefore" "[Z") ∈ gt := List.mem_filter.mpr ⟨(i_tables_1_10 _ (List.mem_of_getElem? (i := 105) rfl)), rfl⟩
theorem k_704 : (Jvm.Cond.laysFinal "MacroMillModel" "MacroMillModel" "isFirst" "[Z") ∈ gt := List.mem_filter.mpr ⟨(i_tables_1_10 _ (List.mem_of_getElem? (i := 107) rfl)), rfl⟩
theorem k_705 : (Jvm.Cond.lays "MacroMillModel" "MacroMillModel" "names" "I") ∈ gt := List.mem_filter.mpr ⟨(i_tables_1_10 _ (List.mem_of_getElem? (i := 109) rfl)), rfl⟩
theorem k_706 : (Jvm.Cond.laysFinal "MacroMillModel" "MacroMillModel" "nameAt" "[I") ∈ gt := List.mem_filter.mpr ⟨(i_tables_1_10 _ (List.mem_of_getElem? (i := 111) rfl)), rfl⟩
theorem k_707 : (Jvm.Cond.laysFinal "MacroMillModel" "MacroMillModel" "nameLength" "[I") ∈ gt := List.mem_filter.mpr ⟨(i_tables_1_10 _ (List.mem_of_getElem? (i := 113) rfl)), rfl⟩
theorem k_708 : (Jvm.Cond.laysFinal "MacroMillModel" "MacroMillModel" "isMacro" "[Z") ∈ gt := List.mem_filter.mpr ⟨(i_tables_1_10 _ (List.mem_of_getElem? (i := 115) rfl)), rfl⟩
theorem k_709 : (Jvm.Cond.laysFinal "MacroMillModel" "MacroMillModel" "parameterCount" "[I") ∈ gt := List.mem_filter.mpr ⟨(i_tables_1_10 _ (List.mem_of_getElem? (i := 117) rfl)), rfl⟩
theorem k_710 : (Jvm.Cond.laysFinal "MacroMillModel" "MacroMillModel" "takesRest" "[Z") ∈ gt := List.mem_filter.mpr ⟨(i_tables_1_10 _ (List.mem_of_getElem? (i := 119) rfl)), rfl⟩
theorem k_711 : (Jvm.Cond.laysFinal "MacroMillModel" "MacroMillModel" "parameterAt" "[I") ∈ gt := List.mem_filter.mpr ⟨(i_tables_1_10 _ (List.mem_of_getElem? (i := 121) rfl)), rfl⟩
theorem k_712 : (Jvm.Cond.laysFinal "MacroMillModel" "MacroMillModel" "parameterSize" "[I") ∈ gt := List.mem_filter.mpr ⟨(i_tables_1_10 _ (List.mem_of_getElem? (i := 123) rfl)), rfl⟩
theorem k_713 : (Jvm.Cond.lays "MacroMillModel" "MacroMillModel" "bodyCells" "I") ∈ gt := List.mem_filter.mpr ⟨(i_tables_1_10 _ (List.mem_of_getElem? (i := 125) rfl)), rfl⟩
theorem k_714 : (Jvm.Cond.laysFinal "MacroMillModel" "MacroMillModel" "bodyAt" "[I") ∈ gt := List.mem_filter.mpr ⟨(i_tables_1_10 _ (List.mem_of_getElem? (i := 127) rfl)), rfl⟩
theorem k_715 : (Jvm.Cond.laysFinal "MacroMillModel" "MacroMillModel" "bodySize" "[I") ∈ gt := List.mem_filter.mpr ⟨(i_tables_1_10 _ (List.mem_of_getElem? (i := 129) rfl)), rfl⟩
theorem k_716 : (Jvm.Cond.laysFinal "MacroMillModel" "MacroMillModel" "bodyBefore" "[Z") ∈ gt := List.mem_filter.mpr ⟨(i_tables_1_10 _ (List.mem_of_getElem? (i := 131) rfl)), rfl⟩
theorem k_717 : (Jvm.Cond.laysFinal "MacroMillModel" "MacroMillModel" "bodyFrom" "[I") ∈ gt := List.mem_filter.mpr ⟨(i_tables_1_10 _ (List.mem_of_getElem? (i := 133) rfl)), rfl⟩
theorem k_718 : (Jvm.Cond.laysFinal "MacroMillModel" "MacroMillModel" "bodyCount" "[I") ∈ gt := List.mem_filter.mpr ⟨(i_tables_1_10 _ (List.mem_of_getElem? (i := 135) rfl)), rfl⟩
theorem k_719 : (Jvm.Cond.lays "MacroMillModel" "MacroMillModel" "sets" "I") ∈ gt := List.mem_filter.mpr ⟨(i_tables_1_10 _ (List.mem_of_getElem? (i := 137) rfl)), rfl⟩
theorem k_720 : (Jvm.Cond.laysFinal "MacroMillModel" "MacroMillModel" "members" "[J") ∈ gt := List.mem_filter.mpr ⟨(i_tables_1_10 _ (List.mem_of_getElem? (i := 139) rfl)), rfl⟩
theorem k_721 : (Jvm.Cond.laysFinal "MacroMillModel" "MacroMillModel" "some" "[J") ∈ gt := List.mem_filter.mpr ⟨(i_tables_1_10 _ (List.mem_of_getElem? (i := 141) rfl)), rfl⟩
theorem k_722 : (Jvm.Cond.lays "MacroMillModel" "MacroMillModel" "deep" "I") ∈ gt := List.mem_filter.mpr ⟨(i_tables_1_10 _ (List.mem_of_getElem? (i := 143) rfl)), rfl⟩
theorem k_723 : (Jvm.Cond.lays "MacroMillModel" "MacroMillModel" "mostDeep" "I") ∈ gt := List.mem_filter.mpr ⟨(i_tables_1_10 _ (List.mem_of_getElem? (i := 145) rfl)), rfl⟩
theorem k_724 : (Jvm.Cond.laysFinal "MacroMillModel" "MacroMillModel" "fileOf" "[I") ∈ gt := List.mem_filter.mpr ⟨(i_tables_1_10 _ (List.mem_of_getElem? (i := 147) rfl)), rfl⟩
theorem k_725 : (Jvm.Cond.laysFinal "MacroMillModel" "MacroMillModel" "shiftOf" "[I") ∈ gt := List.mem_filter.mpr ⟨(i_tables_1_10 _ (List.mem_of_getElem? (i := 149) rfl)), rfl⟩
theorem k_726 : (Jvm.Cond.laysFinal "MacroMillModel" "MacroMillModel" "titleAt" "[I") ∈ gt := List.mem_filter.mpr ⟨(i_tables_1_10 _ (List.mem_of_getElem? (i := 151) rfl)), rfl⟩
theorem k_727 : (Jvm.Cond.laysFinal "MacroMillModel" "MacroMillModel" "titleLength" "[I") ∈ gt := List.mem_filter.mpr ⟨(i_tables_1_10 _ (List.mem_of_getElem? (i := 153) rfl)), rfl⟩
theorem k_728 : (Jvm.Cond.lays "MacroMillModel" "MacroMillModel" "lines" "I") ∈ gt := List.mem_filter.mpr ⟨(i_tables_1_10 _ (List.mem_of_getElem? (i := 155) rfl)), rfl⟩
theorem k_729 : (Jvm.Cond.laysFinal "MacroMillModel" "MacroMillModel" "hide" "[J") ∈ gt := List.mem_filter.mpr ⟨(i_tables_1_10 _ (List.mem_of_getElem? (i := 157) rfl)), rfl⟩
theorem k_730 : (Jvm.Cond.laysFinal "MacroMillModel" "MacroMillModel" "argumentFrom" "[I") ∈ gt := List.mem_filter.mpr ⟨(i_tables_1_10 _ (List.mem_of_getElem? (i := 159) rfl)), rfl⟩
theorem k_731 : (Jvm.Cond.laysFinal "MacroMillModel" "MacroMillModel" "argumentEnd" "[I") ∈ gt := List.mem_filter.mpr ⟨(i_tables_1_10 _ (List.mem_of_getElem? (i := 161) rfl)), rfl⟩
theorem k_732 : (Jvm.Cond.lays "MacroMillModel" "MacroMillModel" "listed" "I") ∈ gt := List.mem_filter.mpr ⟨(i_tables_1_10 _ (List.mem_of_getElem? (i := 163) rfl)), rfl⟩
theorem k_733 : (Jvm.Cond.laysFinal "MacroMillModel" "MacroMillModel" "headOf" "[I") ∈ gt := List.mem_filter.mpr ⟨(i_tables_1_10 _ (List.mem_of_getElem? (i := 165) rfl)), rfl⟩
theorem k_734 : (Jvm.Cond.laysFinal "MacroMillModel" "MacroMillModel" "tailOf" "[I") ∈ gt := List.mem_filter.mpr ⟨(i_tables_1_10 _ (List.mem_of_getElem? (i := 167) rfl)), rfl⟩
theorem k_735 : (Jvm.Cond.laysFinal "MacroMillModel" "MacroMillModel" "madeHead" "[I") ∈ gt := List.mem_filter.mpr ⟨(i_tables_1_10 _ (List.mem_of_getElem? (i := 169) rfl)), rfl⟩
theorem k_736 : (Jvm.Cond.laysFinal "MacroMillModel" "MacroMillModel" "madeTail" "[I") ∈ gt := List.mem_filter.mpr ⟨(i_tables_1_10 _ (List.mem_of_getElem? (i := 171) rfl)), rfl⟩
theorem k_737 : (Jvm.Cond.laysFinal "MacroMillModel" "MacroMillModel" "placeOf" "[I") ∈ gt := List.mem_filter.mpr ⟨(i_tables_1_10 _ (List.mem_of_getElem? (i := 173) rfl)), rfl⟩
theorem k_738 : (Jvm.Cond.lays "MacroMillModel" "MacroMillModel" "lineHead" "I") ∈ gt := List.mem_filter.mpr ⟨(i_tables_1_10 _ (List.mem_of_getElem? (i := 175) rfl)), rfl⟩
theorem k_739 : (Jvm.Cond.lays "MacroMillModel" "MacroMillModel" "lineTail" "I") ∈ gt := List.mem_filter.mpr ⟨(i_tables_1_10 _ (List.mem_of_getElem? (i := 177) rfl)), rfl⟩
theorem k_740 : (Jvm.Cond.lays "MacroMillModel" "MacroMillModel" "lineCount" "I") ∈ gt := List.mem_filter.mpr ⟨(i_tables_1_10 _ (List.mem_of_getElem? (i := 179) rfl)), rfl⟩
theorem k_741 : (Jvm.Cond.lays "MacroMillModel" "MacroMillModel" "noEnds" "I") ∈ gt := List.mem_filter.mpr ⟨(i_tables_1_10 _ (List.mem_of_getElem? (i := 181) rfl)), rfl⟩
theorem k_742 : (Jvm.Cond.lays "MacroMillModel" "MacroMillModel" "rowHead" "I") ∈ gt := List.mem_filter.mpr ⟨(i_tables_1_10 _ (List.mem_of_getElem? (i := 183) rfl)), rfl⟩
theorem k_743 : (Jvm.Cond.lays "MacroMillModel" "MacroMillModel" "rowTail" "I") ∈ gt := List.mem_filter.mpr ⟨(i_tables_1_10 _ (List.mem_of_getElem? (i := 185) rfl)), rfl⟩
theorem k_744 : (Jvm.Cond.lays "MacroMillModel" "MacroMillModel" "rowCount" "I") ∈ gt := List.mem_filter.mpr ⟨(i_tables_1_10 _ (List.mem_of_getElem? (i := 187) rfl)), rfl⟩
theorem k_745 : (Jvm.Cond.lays "MacroMillModel" "MacroMillModel" "ifs" "I") ∈ gt := List.mem_filter.mpr ⟨(i_tables_1_10 _ (List.mem_of_getElem? (i := 189) rfl)), rfl⟩
theorem k_746 : (Jvm.Cond.laysFinal "MacroMillModel" "MacroMillModel" "ifLine" "[I") ∈ gt := List.mem_filter.mpr ⟨(i_tables_1_10 _ (List.mem_of_getElem? (i := 191) rfl)), rfl⟩
theorem k_747 : (Jvm.Cond.laysFinal "MacroMillModel" "MacroMillModel" "outside" "[Z") ∈ gt := List.mem_filter.mpr ⟨(i_tables_1_10 _ (List.mem_of_getElem? (i := 193) rfl)), rfl⟩
theorem k_748 : (Jvm.Cond.laysFinal "MacroMillModel" "MacroMillModel" "done" "[Z") ∈ gt := List.mem_filter.mpr ⟨(i_tables_1_10 _ (List.mem_of_getElem? (i := 195) rfl)), rfl⟩
theorem k_749 : (Jvm.Cond.laysFinal "MacroMillModel" "MacroMillModel" "counts" "[Z") ∈ gt := List.mem_filter.mpr ⟨(i_tables_1_10 _ (List.mem_of_getElem? (i := 197) rfl)), rfl⟩
theorem k_750 : (Jvm.Cond.laysFinal "MacroMillModel" "MacroMillModel" "hasElse" "[Z") ∈ gt := List.mem_filter.mpr ⟨(i_tables_1_10 _ (List.mem_of_getElem? (i := 199) rfl)), rfl⟩
theorem k_751 : (Jvm.Cond.lays "MacroMillModel" "MacroMillModel" "hashLine" "I") ∈ gt := List.mem_filter.mpr ⟨(i_tables_1_10 _ (List.mem_of_getElem? (i := 201) rfl)), rfl⟩
theorem k_752 : (Jvm.Cond.lays "MacroMillModel" "MacroMillModel" "newCount" "I") ∈ gt := List.mem_filter.mpr ⟨(i_tables_1_10 _ (List.mem_of_getElem? (i := 203) rfl)), rfl⟩
theorem k_753 : (Jvm.Cond.lays "MacroMillModel" "MacroMillModel" "newRest" "Z") ∈ gt := List.mem_filter.mpr ⟨(i_tables_1_10 _ (List.mem_of_getElem? (i := 205) rfl)), rfl⟩
theorem k_754 : (Jvm.Cond.laysFinal "MacroMillModel" "MacroMillModel" "newAt" "[I") ∈ gt := List.mem_filter.mpr ⟨(i_tables_1_10 _ (List.mem_of_getElem? (i := 207) rfl)), rfl⟩
theorem k_755 : (Jvm.Cond.laysFinal "MacroMillModel" "MacroMillModel" "newSize" "[I") ∈ gt := List.mem_filter.mpr ⟨(i_tables_1_10 _ (List.mem_of_getElem? (i := 209) rfl)), rfl⟩
theorem k_756 : (Jvm.Cond.lays "MacroMillModel" "MacroMillModel" "newBody" "I") ∈ gt := List.mem_filter.mpr ⟨(i_tables_1_10 _ (List.mem_of_getElem? (i := 211) rfl)), rfl⟩
theorem k_757 : (Jvm.Cond.lays "MacroMillModel" "MacroMillModel" "restAt" "I") ∈ gt := List.mem_filter.mpr ⟨(i_tables_1_10 _ (List.mem_of_getElem? (i := 213) rfl)), rfl⟩
theorem k_758 : (Jvm.Cond.laysFinal "MacroMillModel" "MacroMillModel" "wanted" "[B") ∈ gt := List.mem_filter.mpr ⟨(i_tables_1_10 _ (List.mem_of_getElem? (i := 215) rfl)), rfl⟩
theorem k_759 : (Jvm.Cond.lays "MacroMillModel" "MacroMillModel" "wantedSize" "I") ∈ gt := List.mem_filter.mpr ⟨(i_tables_1_10 _ (List.mem_of_getElem? (i := 217) rfl)), rfl⟩
theorem k_760 : (Jvm.Cond.lays "MacroMillModel" "MacroMillModel" "begun" "I") ∈ gt := List.mem_filter.mpr ⟨(i_tables_1_10 _ (List.mem_of_getElem? (i := 219) rfl)), rfl⟩
theorem k_761 : (Jvm.Cond.lays "MacroMillModel" "MacroMillModel" "begunBytes" "I") ∈ gt := List.mem_filter.mpr ⟨(i_tables_1_10 _ (List.mem_of_getElem? (i := 221) rfl)), rfl⟩
theorem k_762 : (Jvm.Cond.lays "MacroMillModel" "MacroMillModel" "mainFileNow" "I") ∈ gt := List.mem_filter.mpr ⟨(i_tables_1_10 _ (List.mem_of_getElem? (i := 223) rfl)), rfl⟩
theorem k_763 : (Jvm.Cond.lays "MacroMillModel" "MacroMillModel" "mainSize" "I") ∈ gt := List.mem_filter.mpr ⟨(i_tables_1_10 _ (List.mem_of_getElem? (i := 225) rfl)), rfl⟩
theorem k_764 : (Jvm.Cond.lays "MacroMillModel" "MacroMillModel" "look" "I") ∈ gt := List.mem_filter.mpr ⟨(i_tables_1_10 _ (List.mem_of_getElem? (i := 227) rfl)), rfl⟩
theorem k_765 : (Jvm.Cond.lays "MacroMillModel" "MacroMillModel" "bad" "Z") ∈ gt := List.mem_filter.mpr ⟨(i_tables_1_10 _ (List.mem_of_getElem? (i := 229) rfl)), rfl⟩
theorem k_766 : (Jvm.Cond.lays "MacroMillModel" "MacroMillModel" "byZero" "Z") ∈ gt := List.mem_filter.mpr ⟨(i_tables_1_10 _ (List.mem_of_getElem? (i := 231) rfl)), rfl⟩
theorem k_767 : (Jvm.Cond.lays "MacroMillModel" "MacroMillModel" "inner" "I") ∈ gt := List.mem_filter.mpr ⟨(i_tables_1_10 _ (List.mem_of_getElem? (i := 233) rfl)), rfl⟩
theorem k_768 : (Jvm.Cond.lays "MacroMillModel" "MacroMillModel" "plain" "Z") ∈ gt := List.mem_filter.mpr ⟨(i_tables_1_10 _ (List.mem_of_getElem? (i := 235) rfl)), rfl⟩
theorem k_769 : (Jvm.Cond.lays "MacroMillModel" "MacroMillModel" "held" "I") ∈ gt := List.mem_filter.mpr ⟨(i_tables_1_10 _ (List.mem_of_getElem? (i := 237) rfl)), rfl⟩
theorem k_770 : (Jvm.Cond.laysFinal "MacroMillModel" "MacroMillModel" "heldSign" "[I") ∈ gt := List.mem_filter.mpr ⟨(i_tables_1_10 _ (List.mem_of_getElem? (i := 239) rfl)), rfl⟩
theorem k_771 : (Jvm.Cond.laysFinal "MacroMillModel" "MacroMillModel" "heldValue" "[J") ∈ gt := List.mem_filter.mpr ⟨(i_tables_1_11 _ (List.mem_of_getElem? (i := 1) rfl)), rfl⟩
theorem k_772 : (Jvm.Cond.laysFinal "MacroMillModel" "MacroMillModel" "heldPlain" "[Z") ∈ gt := List.mem_filter.mpr ⟨(i_tables_1_11 _ (List.mem_of_getElem? (i := 3) rfl)), rfl⟩
theorem k_773 : (Jvm.Cond.laysFinal "MacroMillModel" "MacroMillModel" "first" "[B") ∈ gt := List.mem_filter.mpr ⟨(i_tables_1_11 _ (List.mem_of_getElem? (i := 5) rfl)), rfl⟩
set_option maxRecDepth 100000 in
theorem in_MM : ∀ w ∈ u_ws "MacroMill" F_MM 7, w ∈ gt := List.forall_mem_cons.mpr ⟨k_461, List.forall_mem_cons.mpr ⟨k_462, List.forall_mem_cons.mpr ⟨k_463, List.forall_mem_cons.mpr ⟨k_464, List.forall_mem_cons.mpr ⟨k_465, List.forall_mem_cons.mpr ⟨k_466, List.forall_mem_cons.mpr ⟨k_467, fun _ h => absurd h List.not_mem_nil⟩⟩⟩⟩⟩⟩⟩
set_option maxRecDepth 100000 in
theorem in_Files : ∀ w ∈ u_ws "MacroMill$Files" F_Files 5, w ∈ gt := List.forall_mem_cons.mpr ⟨k_468, List.forall_mem_cons.mpr ⟨k_469, List.forall_mem_cons.mpr ⟨k_470, List.forall_mem_cons.mpr ⟨k_471, List.forall_mem_cons.mpr ⟨k_472, fun _ h => absurd h List.not_mem_nil⟩⟩⟩⟩⟩
set_option maxRecDepth 100000 in
theorem in_Outcome : ∀ w ∈ u_ws "MacroMill$Outcome" F_Outcome 10, w ∈ gt := List.forall_mem_cons.mpr ⟨k_473, List.forall_mem_cons.mpr ⟨k_474, List.forall_mem_cons.mpr ⟨k_475, List.forall_mem_cons.mpr ⟨k_476, List.forall_mem_cons.mpr ⟨k_477, List.forall_mem_cons.mpr ⟨k_478, List.forall_mem_cons.mpr ⟨k_479, List.forall_mem_cons.mpr ⟨k_480, List.forall_mem_cons.mpr ⟨k_481, List.forall_mem_cons.mpr ⟨k_482, fun _ h => absurd h List.not_mem_nil⟩⟩⟩⟩⟩⟩⟩⟩⟩⟩
set_option maxRecDepth 100000 in
theorem in_Reckoner : ∀ w ∈ u_ws "MacroMill$Reckoner" F_Reckoner 13, w ∈ gt := List.forall_mem_cons.mpr ⟨k_483, List.forall_mem_cons.mpr ⟨k_484, List.forall_mem_cons.mpr ⟨k_485, List.forall_mem_cons.mpr ⟨k_486, List.forall_mem_cons.mpr ⟨k_487, List.forall_mem_cons.mpr ⟨k_488, List.forall_mem_cons.mpr ⟨k_489, List.forall_mem_cons.mpr ⟨k_490, List.forall_mem_cons.mpr ⟨k_491, List.forall_mem_cons.mpr ⟨k_492, List.forall_mem_cons.mpr ⟨k_493, List.forall_mem_cons.mpr ⟨k_494, List.forall_mem_cons.mpr ⟨k_495, fun _ h => absurd h List.not_mem_nil⟩⟩⟩⟩⟩⟩⟩⟩⟩⟩⟩⟩⟩
set_option maxRecDepth 100000 in
theorem in_First : ∀ w ∈ u_ws "MacroMill$First" F_First 15, w ∈ gt := List.forall_mem_cons.mpr ⟨k_496, List.forall_mem_cons.mpr ⟨k_497, List.forall_mem_cons.mpr ⟨k_498, List.forall_mem_cons.mpr ⟨k_499, List.forall_mem_cons.mpr ⟨k_500, List.forall_mem_cons.mpr ⟨k_501, List.forall_mem_cons.mpr ⟨k_502, List.forall_mem_cons.mpr ⟨k_503, List.forall_mem_cons.mpr ⟨k_504, List.forall_mem_cons.mpr ⟨k_505, List.forall_mem_cons.mpr ⟨k_506, List.forall_mem_cons.mpr ⟨k_507, List.forall_mem_cons.mpr ⟨k_508, List.forall_mem_cons.mpr ⟨k_509, List.forall_mem_cons.mpr ⟨k_510, fun _ h => absurd h List.not_mem_nil⟩⟩⟩⟩⟩⟩⟩⟩⟩⟩⟩⟩⟩⟩⟩
set_option maxRecDepth 100000 in
theorem in_Input : ∀ w ∈ u_ws "MacroMill$Input" F_Input 12, w ∈ gt := List.forall_mem_cons.mpr ⟨k_511, List.forall_mem_cons.mpr ⟨k_512, List.forall_mem_cons.mpr ⟨k_513, List.forall_mem_cons.mpr ⟨k_514, List.forall_mem_cons.mpr ⟨k_515, List.forall_mem_cons.mpr ⟨k_516, List.forall_mem_cons.mpr ⟨k_517, List.forall_mem_cons.mpr ⟨k_518, List.forall_mem_cons.mpr ⟨k_519, List.forall_mem_cons.mpr ⟨k_520, List.forall_mem_cons.mpr ⟨k_521, List.forall_mem_cons.mpr ⟨k_522, fun _ h => absurd h List.not_mem_nil⟩⟩⟩⟩⟩⟩⟩⟩⟩⟩⟩⟩
set_option maxRecDepth 100000 in
theorem in_Calls : ∀ w ∈ u_ws "MacroMill$Calls" F_Calls 10, w ∈ gt := List.forall_mem_cons.mpr ⟨k_523, List.forall_mem_cons.mpr ⟨k_524, List.forall_mem_cons.mpr ⟨k_525, List.forall_mem_cons.mpr ⟨k_526, List.forall_mem_cons.mpr ⟨k_527, List.forall_mem_cons.mpr ⟨k_528, List.forall_mem_cons.mpr ⟨k_529, List.forall_mem_cons.mpr ⟨k_530, List.forall_mem_cons.mpr ⟨k_531, List.forall_mem_cons.mpr ⟨k_532, fun _ h => absurd h List.not_mem_nil⟩⟩⟩⟩⟩⟩⟩⟩⟩⟩
set_option maxRecDepth 100000 in
theorem in_Meanings : ∀ w ∈ u_ws "MacroMill$Meanings" F_Meanings 11, w ∈ gt := List.forall_mem_cons.mpr ⟨k_533, List.forall_mem_cons.mpr ⟨k_534, List.forall_mem_cons.mpr ⟨k_535, List.forall_mem_cons.mpr ⟨k_536, List.forall_mem_cons.mpr ⟨k_537, List.forall_mem_cons.mpr ⟨k_538, List.forall_mem_cons.mpr ⟨k_539, List.forall_mem_cons.mpr ⟨k_540, List.forall_mem_cons.mpr ⟨k_541, List.forall_mem_cons.mpr ⟨k_542, List.forall_mem_cons.mpr ⟨k_543, fun _ h => absurd h List.not_mem_nil⟩⟩⟩⟩⟩⟩⟩⟩⟩⟩⟩
set_option maxRecDepth 100000 in
theorem in_Second : ∀ w ∈ u_ws "MacroMill$Second" F_Second 22, w ∈ gt := List.forall_mem_cons.mpr ⟨k_544, List.forall_mem_cons.mpr ⟨k_545, List.forall_mem_cons.mpr ⟨k_546, List.forall_mem_cons.mpr ⟨k_547, List.forall_mem_cons.mpr ⟨k_548, List.forall_mem_cons.mpr ⟨k_549, List.forall_mem_cons.mpr ⟨k_550, List.forall_mem_cons.mpr ⟨k_551, List.forall_mem_cons.mpr ⟨k_552, List.forall_mem_cons.mpr ⟨k_553, List.forall_mem_cons.mpr ⟨k_554, List.forall_mem_cons.mpr ⟨k_555, List.forall_mem_cons.mpr ⟨k_556, List.forall_mem_cons.mpr ⟨k_557, List.forall_mem_cons.mpr ⟨k_558, List.forall_mem_cons.mpr ⟨k_559, List.forall_mem_cons.mpr ⟨k_560, List.forall_mem_cons.mpr ⟨k_561, List.forall_mem_cons.mpr ⟨k_562, List.forall_mem_cons.mpr ⟨k_563, List.forall_mem_cons.mpr ⟨k_564, List.forall_mem_cons.mpr ⟨k_565, fun _ h => absurd h List.not_mem_nil⟩⟩⟩⟩⟩⟩⟩⟩⟩⟩⟩⟩⟩⟩⟩⟩⟩⟩⟩⟩⟩⟩
set_option maxRecDepth 100000 in
theorem in_Tokens : ∀ w ∈ u_ws "MacroMill$Tokens" F_Tokens 10, w ∈ gt := List.forall_mem_cons.mpr ⟨k_566, List.forall_mem_cons.mpr ⟨k_567, List.forall_mem_cons.mpr ⟨k_568, List.forall_mem_cons.mpr ⟨k_569, List.forall_mem_cons.mpr ⟨k_570, List.forall_mem_cons.mpr ⟨k_571, List.forall_mem_cons.mpr ⟨k_572, List.forall_mem_cons.mpr ⟨k_573, List.forall_mem_cons.mpr ⟨k_574, List.forall_mem_cons.mpr ⟨k_575, fun _ h => absurd h List.not_mem_nil⟩⟩⟩⟩⟩⟩⟩⟩⟩⟩
set_option maxRecDepth 100000 in
theorem in_Macros : ∀ w ∈ u_ws "MacroMill$Macros" F_Macros 19, w ∈ gt := List.forall_mem_cons.mpr ⟨k_576, List.forall_mem_cons.mpr ⟨k_577, List.forall_mem_cons.mpr ⟨k_578, List.forall_mem_cons.mpr ⟨k_579, List.forall_mem_cons.mpr ⟨k_580, List.forall_mem_cons.mpr ⟨k_581, List.forall_mem_cons.mpr ⟨k_582, List.forall_mem_cons.mpr ⟨k_583, List.forall_mem_cons.mpr ⟨k_584, List.forall_mem_cons.mpr ⟨k_585, List.forall_mem_cons.mpr ⟨k_586, List.forall_mem_cons.mpr ⟨k_587, List.forall_mem_cons.mpr ⟨k_588, List.forall_mem_cons.mpr ⟨k_589, List.forall_mem_cons.mpr ⟨k_590, List.forall_mem_cons.mpr ⟨k_591, List.forall_mem_cons.mpr ⟨k_592, List.forall_mem_cons.mpr ⟨k_593, List.forall_mem_cons.mpr ⟨k_594, fun _ h => absurd h List.not_mem_nil⟩⟩⟩⟩⟩⟩⟩⟩⟩⟩⟩⟩⟩⟩⟩⟩⟩⟩⟩
set_option maxRecDepth 100000 in
theorem in_Lines : ∀ w ∈ u_ws "MacroMill$Lines" F_Lines 19, w ∈ gt := List.forall_mem_cons.mpr ⟨k_595, List.forall_mem_cons.mpr ⟨k_596, List.forall_mem_cons.mpr ⟨k_597, List.forall_mem_cons.mpr ⟨k_598, List.forall_mem_cons.mpr ⟨k_599, List.forall_mem_cons.mpr ⟨k_600, List.forall_mem_cons.mpr ⟨k_601, List.forall_mem_cons.mpr ⟨k_602, List.forall_mem_cons.mpr ⟨k_603, List.forall_mem_cons.mpr ⟨k_604, List.forall_mem_cons.mpr ⟨k_605, List.forall_mem_cons.mpr ⟨k_606, List.forall_mem_cons.mpr ⟨k_607, List.forall_mem_cons.mpr ⟨k_608, List.forall_mem_cons.mpr ⟨k_609, List.forall_mem_cons.mpr ⟨k_610, List.forall_mem_cons.mpr ⟨k_611, List.forall_mem_cons.mpr ⟨k_612, List.forall_mem_cons.mpr ⟨k_613, fun _ h => absurd h List.not_mem_nil⟩⟩⟩⟩⟩⟩⟩⟩⟩⟩⟩⟩⟩⟩⟩⟩⟩⟩⟩
set_option maxRecDepth 100000 in
theorem in_Replacer : ∀ w ∈ u_ws "MacroMill$Replacer" F_Replacer 16, w ∈ gt := List.forall_mem_cons.mpr ⟨k_614, List.forall_mem_cons.mpr ⟨k_615, List.forall_mem_cons.mpr ⟨k_616, List.forall_mem_cons.mpr ⟨k_617, List.forall_mem_cons.mpr ⟨k_618, List.forall_mem_cons.mpr ⟨k_619, List.forall_mem_cons.mpr ⟨k_620, List.forall_mem_cons.mpr ⟨k_621, List.forall_mem_cons.mpr ⟨k_622, List.forall_mem_cons.mpr ⟨k_623, List.forall_mem_cons.mpr ⟨k_624, List.forall_mem_cons.mpr ⟨k_625, List.forall_mem_cons.mpr ⟨k_626, List.forall_mem_cons.mpr ⟨k_627, List.forall_mem_cons.mpr ⟨k_628, List.forall_mem_cons.mpr ⟨k_629, fun _ h => absurd h List.not_mem_nil⟩⟩⟩⟩⟩⟩⟩⟩⟩⟩⟩⟩⟩⟩⟩⟩
set_option maxRecDepth 100000 in
theorem in_Mod : ∀ w ∈ u_ws "MacroMillModel" F_Mod 144, w ∈ gt := List.forall_mem_cons.mpr ⟨k_630, List.forall_mem_cons.mpr ⟨k_631, List.forall_mem_cons.mpr ⟨k_632, List.forall_mem_cons.mpr ⟨k_633, List.forall_mem_cons.mpr ⟨k_634, List.forall_mem_cons.mpr ⟨k_635, List.forall_mem_cons.mpr ⟨k_636, List.forall_mem_cons.mpr ⟨k_637, List.forall_mem_cons.mpr ⟨k_638, List.forall_mem_cons.mpr ⟨k_639, List.forall_mem_cons.mpr ⟨k_640, List.forall_mem_cons.mpr ⟨k_641, List.forall_mem_cons.mpr ⟨k_642, List.forall_mem_cons.mpr ⟨k_643, List.forall_mem_cons.mpr ⟨k_644, List.forall_mem_cons.mpr ⟨k_645, List.forall_mem_cons.mpr ⟨k_646, List.forall_mem_cons.mpr ⟨k_647, List.forall_mem_cons.mpr ⟨k_648, List.forall_mem_cons.mpr ⟨k_649, List.forall_mem_cons.mpr ⟨k_650, List.forall_mem_cons.mpr ⟨k_651, List.forall_mem_cons.mpr ⟨k_652, List.forall_mem_cons.mpr ⟨k_653, List.forall_mem_cons.mpr ⟨k_654, List.forall_mem_cons.mpr ⟨k_655, List.forall_mem_cons.mpr ⟨k_656, List.forall_mem_cons.mpr ⟨k_657, List.forall_mem_cons.mpr ⟨k_658, List.forall_mem_cons.mpr ⟨k_659, List.forall_mem_cons.mpr ⟨k_660, List.forall_mem_cons.mpr ⟨k_661, List.forall_mem_cons.mpr ⟨k_662, List.forall_mem_cons.mpr ⟨k_663, List.forall_mem_cons.mpr ⟨k_664, List.forall_mem_cons.mpr ⟨k_665, List.forall_mem_cons.mpr ⟨k_666, List.forall_mem_cons.mpr ⟨k_667, List.forall_mem_cons.mpr ⟨k_668, List.forall_mem_cons.mpr ⟨k_669, List.forall_mem_cons.mpr ⟨k_670, List.forall_mem_cons.mpr ⟨k_671, List.forall_mem_cons.mpr ⟨k_672, List.forall_mem_cons.mpr ⟨k_673, List.forall_mem_cons.mpr ⟨k_674, List.forall_mem_cons.mpr ⟨k_675, List.forall_mem_cons.mpr ⟨k_676, List.forall_mem_cons.mpr ⟨k_677, List.forall_mem_cons.mpr ⟨k_678, List.forall_mem_cons.mpr ⟨k_679, List.forall_mem_cons.mpr ⟨k_680, List.forall_mem_cons.mpr ⟨k_681, List.forall_mem_cons.mpr ⟨k_682, List.forall_mem_cons.mpr ⟨k_683, List.forall_mem_cons.mpr ⟨k_684, List.forall_mem_cons.mpr ⟨k_685, List.forall_mem_cons.mpr ⟨k_686, List.forall_mem_cons.mpr ⟨k_687, List.forall_mem_cons.mpr ⟨k_688, List.forall_mem_cons.mpr ⟨k_689, List.forall_mem_cons.mpr ⟨k_690, List.forall_mem_cons.mpr ⟨k_691, List.forall_mem_cons.mpr ⟨k_692, List.forall_mem_cons.mpr ⟨k_693, List.forall_mem_cons.mpr ⟨k_694, List.forall_mem_cons.mpr ⟨k_695, List.forall_mem_cons.mpr ⟨k_696, List.forall_mem_cons.mpr ⟨k_697, List.forall_mem_cons.mpr ⟨k_698, List.forall_mem_cons.mpr ⟨k_699, List.forall_mem_cons.mpr ⟨k_700, List.forall_mem_cons.mpr ⟨k_701, List.forall_mem_cons.mpr ⟨k_702, List.forall_mem_cons.mpr ⟨k_703, List.forall_mem_cons.mpr ⟨k_704, List.forall_mem_cons.mpr ⟨k_705, List.forall_mem_cons.mpr ⟨k_706, List.forall_mem_cons.mpr ⟨k_707, List.forall_mem_cons.mpr ⟨k_708, List.forall_mem_cons.mpr ⟨k_709, List.forall_mem_cons.mpr ⟨k_710, List.forall_mem_cons.mpr ⟨k_711, List.forall_mem_cons.mpr ⟨k_712, List.forall_mem_cons.mpr ⟨k_713, List.forall_mem_cons.mpr ⟨k_714, List.forall_mem_cons.mpr ⟨k_715, List.forall_mem_cons.mpr ⟨k_716, List.forall_mem_cons.mpr ⟨k_717, List.forall_mem_cons.mpr ⟨k_718, List.forall_mem_cons.mpr ⟨k_719, List.forall_mem_cons.mpr ⟨k_720, List.forall_mem_cons.mpr ⟨k_721, List.forall_mem_cons.mpr ⟨k_722, List.forall_mem_cons.mpr ⟨k_723, List.forall_mem_cons.mpr ⟨k_724, List.forall_mem_cons.mpr ⟨k_725, List.forall_mem_cons.mpr ⟨k_726, List.forall_mem_cons.mpr ⟨k_727, List.forall_mem_cons.mpr ⟨k_728, List.forall_mem_cons.mpr ⟨k_729, List.forall_mem_cons.mpr ⟨k_730, List.forall_mem_cons.mpr ⟨k_731, List.forall_mem_cons.mpr ⟨k_732, List.forall_mem_cons.mpr ⟨k_733, List.forall_mem_cons.mpr ⟨k_734, List.forall_mem_cons.mpr ⟨k_735, List.forall_mem_cons.mpr ⟨k_736, List.forall_mem_cons.mpr ⟨k_737, List.forall_mem_cons.mpr ⟨k_738, List.forall_mem_cons.mpr ⟨k_739, List.forall_mem_cons.mpr ⟨k_740, List.forall_mem_cons.mpr ⟨k_741, List.forall_mem_cons.mpr ⟨k_742, List.forall_mem_cons.mpr ⟨k_743, List.forall_mem_cons.mpr ⟨k_744, List.forall_mem_cons.mpr ⟨k_745, List.forall_mem_cons.mpr ⟨k_746, List.forall_mem_cons.mpr ⟨k_747, List.forall_mem_cons.mpr ⟨k_748, List.forall_mem_cons.mpr ⟨k_749, List.forall_mem_cons.mpr ⟨k_750, List.forall_mem_cons.mpr ⟨k_751, List.forall_mem_cons.mpr ⟨k_752, List.forall_mem_cons.mpr ⟨k_753, List.forall_mem_cons.mpr ⟨k_754, List.forall_mem_cons.mpr ⟨k_755, List.forall_mem_cons.mpr ⟨k_756, List.forall_mem_cons.mpr ⟨k_757, List.forall_mem_cons.mpr ⟨k_758, List.forall_mem_cons.mpr ⟨k_759, List.forall_mem_cons.mpr ⟨k_760, List.forall_mem_cons.mpr ⟨k_761, List.forall_mem_cons.mpr ⟨k_762, List.forall_mem_cons.mpr ⟨k_763, List.forall_mem_cons.mpr ⟨k_764, List.forall_mem_cons.mpr ⟨k_765, List.forall_mem_cons.mpr ⟨k_766, List.forall_mem_cons.mpr ⟨k_767, List.forall_mem_cons.mpr ⟨k_768, List.forall_mem_cons.mpr ⟨k_769, List.forall_mem_cons.mpr ⟨k_770, List.forall_mem_cons.mpr ⟨k_771, List.forall_mem_cons.mpr ⟨k_772, List.forall_mem_cons.mpr ⟨k_773, fun _ h => absurd h List.not_mem_nil⟩⟩⟩⟩⟩⟩⟩⟩⟩⟩⟩⟩⟩⟩⟩⟩⟩⟩⟩⟩⟩⟩⟩⟩⟩⟩⟩⟩⟩⟩⟩⟩⟩⟩⟩⟩⟩⟩⟩⟩⟩⟩⟩⟩⟩⟩⟩⟩⟩⟩⟩⟩⟩⟩⟩⟩⟩⟩⟩⟩⟩⟩⟩⟩⟩⟩⟩⟩⟩⟩⟩⟩⟩⟩⟩⟩⟩⟩⟩⟩⟩⟩⟩⟩⟩⟩⟩⟩⟩⟩⟩⟩⟩⟩⟩⟩⟩⟩⟩⟩⟩⟩⟩⟩⟩⟩⟩⟩⟩⟩⟩⟩⟩⟩⟩⟩⟩⟩⟩⟩⟩⟩⟩⟩⟩⟩⟩⟩⟩⟩⟩⟩⟩⟩⟩⟩⟩⟩⟩⟩⟩⟩⟩⟩
def nestF : List (String × Nat × String × String × String × String) := []
def nestM : List (String × Nat × MethodName × String) := [("MacroMill$First", 11, ⟨"MacroMill$Calls", "<init>", "()V"⟩, "MacroMill"), ("MacroMill$First", 20, ⟨"MacroMill$Meanings", "<init>", "()V"⟩, "MacroMill"), ("MacroMill", 15, ⟨"MacroMill$Files", "<init>", "()V"⟩, "MacroMill"), ("MacroMill", 22, ⟨"MacroMill$Outcome", "<init>", "()V"⟩, "MacroMill"), ("MacroMill", 29, ⟨"MacroMill$Reckoner", "<init>", "()V"⟩, "MacroMill"), ("MacroMill$Macros", 77, ⟨"MacroMill", "hashOf", "([BII)I"⟩, "MacroMill")]
theorem nestF_in : ∀ q ∈ nestF, Cond.fieldLinkNest q.1 q.2.1 q.2.2.1 q.2.2.2.1 q.2.2.2.2.1 q.2.2.2.2.2 ∈ lw_tbl := fun _ h => absurd h List.not_mem_nil
theorem nM_0 : ("MacroMill$First", 11, ⟨"MacroMill$Calls", "<init>", "()V"⟩, "MacroMill") ∈ nestM := List.mem_of_getElem? (i := 0) rfl
theorem nM_1 : ("MacroMill$First", 20, ⟨"MacroMill$Meanings", "<init>", "()V"⟩, "MacroMill") ∈ nestM := List.mem_of_getElem? (i := 1) rfl
theorem nM_2 : ("MacroMill", 15, ⟨"MacroMill$Files", "<init>", "()V"⟩, "MacroMill") ∈ nestM := List.mem_of_getElem? (i := 2) rfl
theorem nM_3 : ("MacroMill", 22, ⟨"MacroMill$Outcome", "<init>", "()V"⟩, "MacroMill") ∈ nestM := List.mem_of_getElem? (i := 3) rfl
theorem nM_4 : ("MacroMill", 29, ⟨"MacroMill$Reckoner", "<init>", "()V"⟩, "MacroMill") ∈ nestM := List.mem_of_getElem? (i := 4) rfl
theorem nM_5 : ("MacroMill$Macros", 77, ⟨"MacroMill", "hashOf", "([BII)I"⟩, "MacroMill") ∈ nestM := List.mem_of_getElem? (i := 5) rfl
theorem nestM_in : ∀ q ∈ nestM, Cond.methodLinkNest q.1 q.2.1 q.2.2.1 q.2.2.2 ∈ lw_tbl := List.forall_mem_cons.mpr ⟨(i_tables_1_1 _ (List.mem_of_getElem? (i := 180) rfl)), List.forall_mem_cons.mpr ⟨(i_tables_1_1 _ (List.mem_of_getElem? (i := 219) rfl)), List.forall_mem_cons.mpr ⟨(i_tables_1_1 _ (List.mem_of_getElem? (i := 35) rfl)), List.forall_mem_cons.mpr ⟨(i_tables_1_1 _ (List.mem_of_getElem? (i := 67) rfl)), List.forall_mem_cons.mpr ⟨(i_tables_1_1 _ (List.mem_of_getElem? (i := 126) rfl)), List.forall_mem_cons.mpr ⟨(i_tables_1_7 _ (List.mem_of_getElem? (i := 39) rfl)), fun _ h => absurd h List.not_mem_nil⟩⟩⟩⟩⟩⟩
end
section
theorem d_MM_init_0 : decode b_MM_init 0 = .ok (.aload_n 0, 1) := by decide +kernel
theorem d_MM_init_1 : decode b_MM_init 1 = .ok (.invokespecial 1, 3) := by decide +kernel
theorem d_MM_init_4 : decode b_MM_init 4 = .ok (.aload_n 0, 1) := by decide +kernel
theorem d_MM_init_5 : decode b_MM_init 5 = .ok (.sipush 16384, 3) := by decide +kernel
theorem d_MM_init_8 : decode b_MM_init 8 = .ok (.newarray .byte, 2) := by decide +kernel
theorem d_MM_init_10 : decode b_MM_init 10 = .ok (.putfield 9, 3) := by decide +kernel
theorem d_MM_init_13 : decode b_MM_init 13 = .ok (.aload_n 0, 1) := by decide +kernel
theorem d_MM_init_14 : decode b_MM_init 14 = .ok (.new 13, 3) := by decide +kernel
theorem d_MM_init_17 : decode b_MM_init 17 = .ok (.dup, 1) := by decide +kernel
theorem d_MM_init_18 : decode b_MM_init 18 = .ok (.invokespecial 15, 3) := by decide +kernel
theorem d_MM_init_21 : decode b_MM_init 21 = .ok (.putfield 16, 3) := by decide +kernel
theorem d_MM_init_24 : decode b_MM_init 24 = .ok (.aload_n 0, 1) := by decide +kernel
theorem d_MM_init_25 : decode b_MM_init 25 = .ok (.new 20, 3) := by decide +kernel
theorem d_MM_init_28 : decode b_MM_init 28 = .ok (.dup, 1) := by decide +kernel
theorem d_MM_init_29 : decode b_MM_init 29 = .ok (.invokespecial 22, 3) := by decide +kernel
theorem d_MM_init_32 : decode b_MM_init 32 = .ok (.putfield 23, 3) := by decide +kernel
theorem d_MM_init_35 : decode b_MM_init 35 = .ok (.new 27, 3) := by decide +kernel
theorem d_MM_init_38 : decode b_MM_init 38 = .ok (.dup, 1) := by decide +kernel
theorem d_MM_init_39 : decode b_MM_init 39 = .ok (.invokespecial 29, 3) := by decide +kernel
theorem d_MM_init_42 : decode b_MM_init 42 = .ok (.astore_n 1, 1) := by decide +kernel
theorem d_MM_init_43 : decode b_MM_init 43 = .ok (.aload_n 0, 1) := by decide +kernel
theorem d_MM_init_44 : decode b_MM_init 44 = .ok (.new 30, 3) := by decide +kernel
theorem d_MM_init_47 : decode b_MM_init 47 = .ok (.dup, 1) := by decide +kernel
theorem d_MM_init_48 : decode b_MM_init 48 = .ok (.aload_n 0, 1) := by decide +kernel
theorem d_MM_init_49 : decode b_MM_init 49 = .ok (.getfield 23, 3) := by decide +kernel
theorem d_MM_init_52 : decode b_MM_init 52 = .ok (.aload_n 1, 1) := by decide +kernel
theorem d_MM_init_53 : decode b_MM_init 53 = .ok (.invokespecial 32, 3) := by decide +kernel
theorem d_MM_init_56 : decode b_MM_init 56 = .ok (.putfield 35, 3) := by decide +kernel
theorem d_MM_init_59 : decode b_MM_init 59 = .ok (.aload_n 0, 1) := by decide +kernel
theorem d_MM_init_60 : decode b_MM_init 60 = .ok (.new 39, 3) := by decide +kernel
theorem d_MM_init_63 : decode b_MM_init 63 = .ok (.dup, 1) := by decide +kernel
theorem d_MM_init_64 : decode b_MM_init 64 = .ok (.aload_n 0, 1) := by decide +kernel
theorem d_MM_init_65 : decode b_MM_init 65 = .ok (.getfield 16, 3) := by decide +kernel
theorem d_MM_init_68 : decode b_MM_init 68 = .ok (.aload_n 0, 1) := by decide +kernel
theorem d_MM_init_69 : decode b_MM_init 69 = .ok (.getfield 23, 3) := by decide +kernel
theorem d_MM_init_72 : decode b_MM_init 72 = .ok (.aload_n 1, 1) := by decide +kernel
theorem d_MM_init_73 : decode b_MM_init 73 = .ok (.invokespecial 41, 3) := by decide +kernel
theorem d_MM_init_76 : decode b_MM_init 76 = .ok (.putfield 44, 3) := by decide +kernel
theorem d_MM_init_79 : decode b_MM_init 79 = .ok (.return_, 1) := by decide +kernel
theorem d_MM_astray_0 : decode b_MM_astray 0 = .ok (.aload_n 0, 1) := by decide +kernel
theorem d_MM_astray_1 : decode b_MM_astray 1 = .ok (.getfield 23, 3) := by decide +kernel
theorem d_MM_astray_4 : decode b_MM_astray 4 = .ok (.getfield 104, 3) := by decide +kernel
theorem d_MM_astray_7 : decode b_MM_astray 7 = .ok (.ireturn, 1) := by decide +kernel
theorem d_MM_clear_0 : decode b_MM_clear 0 = .ok (.aload_n 0, 1) := by decide +kernel
theorem d_MM_clear_1 : decode b_MM_clear 1 = .ok (.getfield 16, 3) := by decide +kernel
theorem d_MM_clear_4 : decode b_MM_clear 4 = .ok (.getfield 72, 3) := by decide +kernel
theorem d_MM_clear_7 : decode b_MM_clear 7 = .ok (.istore_n 1, 1) := by decide +kernel
theorem d_MM_clear_8 : decode b_MM_clear 8 = .ok (.aload_n 0, 1) := by decide +kernel
theorem d_MM_clear_9 : decode b_MM_clear 9 = .ok (.getfield 16, 3) := by decide +kernel
theorem d_MM_clear_12 : decode b_MM_clear 12 = .ok (.iconst 0, 1) := by decide +kernel
theorem d_MM_clear_13 : decode b_MM_clear 13 = .ok (.putfield 72, 3) := by decide +kernel
theorem d_MM_clear_16 : decode b_MM_clear 16 = .ok (.iload_n 1, 1) := by decide +kernel
theorem d_MM_clear_17 : decode b_MM_clear 17 = .ok (.ireturn, 1) := by decide +kernel
theorem d_MM_end_0 : decode b_MM_end 0 = .ok (.iload_n 1, 1) := by decide +kernel
theorem d_MM_end_1 : decode b_MM_end 1 = .ok (.ifCond .lt 16, 3) := by decide +kernel
theorem d_MM_end_4 : decode b_MM_end 4 = .ok (.iload_n 1, 1) := by decide +kernel
theorem d_MM_end_5 : decode b_MM_end 5 = .ok (.bipush 20, 2) := by decide +kernel
theorem d_MM_end_7 : decode b_MM_end 7 = .ok (.if_icmp .gt 10, 3) := by decide +kernel
theorem d_MM_end_10 : decode b_MM_end 10 = .ok (.aload_n 0, 1) := by decide +kernel
theorem d_MM_end_11 : decode b_MM_end 11 = .ok (.getfield 56, 3) := by decide +kernel
theorem d_MM_end_14 : decode b_MM_end 14 = .ok (.ifCond .ne 5, 3) := by decide +kernel
theorem d_MM_end_17 : decode b_MM_end 17 = .ok (.iconst (-1), 1) := by decide +kernel
theorem d_MM_end_18 : decode b_MM_end 18 = .ok (.ireturn, 1) := by decide +kernel
theorem d_MM_feed_0 : decode b_MM_feed 0 = .ok (.aload_n 0, 1) := by decide +kernel
theorem d_MM_feed_1 : decode b_MM_feed 1 = .ok (.getfield 48, 3) := by decide +kernel
theorem d_MM_feed_4 : decode b_MM_feed 4 = .ok (.bipush 20, 2) := by decide +kernel
theorem d_MM_feed_6 : decode b_MM_feed 6 = .ok (.iadd, 1) := by decide +kernel
theorem d_MM_feed_7 : decode b_MM_feed 7 = .ok (.sipush 16384, 3) := by decide +kernel
theorem d_MM_feed_10 : decode b_MM_feed 10 = .ok (.if_icmp .le 6, 3) := by decide +kernel
theorem d_MM_feed_16 : decode b_MM_feed 16 = .ok (.aload_n 0, 1) := by decide +kernel
theorem d_MM_feed_17 : decode b_MM_feed 17 = .ok (.iload_n 1, 1) := by decide +kernel
theorem d_MM_feed_18 : decode b_MM_feed 18 = .ok (.invokevirtual 52, 3) := by decide +kernel
theorem d_MM_feed_21 : decode b_MM_feed 21 = .ok (.aload_n 0, 1) := by decide +kernel
theorem d_MM_feed_22 : decode b_MM_feed 22 = .ok (.iload_n 2, 1) := by decide +kernel
theorem d_MM_feed_23 : decode b_MM_feed 23 = .ok (.invokevirtual 52, 3) := by decide +kernel
theorem d_MM_feed_26 : decode b_MM_feed 26 = .ok (.aload_n 0, 1) := by decide +kernel
theorem d_MM_feed_27 : decode b_MM_feed 27 = .ok (.iload_n 3, 1) := by decide +kernel
theorem d_MM_feed_28 : decode b_MM_feed 28 = .ok (.invokevirtual 52, 3) := by decide +kernel
theorem d_MM_feed_31 : decode b_MM_feed 31 = .ok (.aload_n 0, 1) := by decide +kernel
theorem d_MM_feed_32 : decode b_MM_feed 32 = .ok (.iload 4, 2) := by decide +kernel
theorem d_MM_feed_34 : decode b_MM_feed 34 = .ok (.invokevirtual 52, 3) := by decide +kernel
theorem d_MM_feed_37 : decode b_MM_feed 37 = .ok (.aload_n 0, 1) := by decide +kernel
theorem d_MM_feed_38 : decode b_MM_feed 38 = .ok (.iload 5, 2) := by decide +kernel
theorem d_MM_feed_40 : decode b_MM_feed 40 = .ok (.invokevirtual 52, 3) := by decide +kernel
theorem d_MM_feed_43 : decode b_MM_feed 43 = .ok (.aload_n 0, 1) := by decide +kernel
theorem d_MM_feed_44 : decode b_MM_feed 44 = .ok (.iconst 1, 1) := by decide +kernel
theorem d_MM_feed_45 : decode b_MM_feed 45 = .ok (.putfield 56, 3) := by decide +kernel
theorem d_MM_feed_48 : decode b_MM_feed 48 = .ok (.aload_n 0, 1) := by decide +kernel
theorem d_MM_feed_49 : decode b_MM_feed 49 = .ok (.getfield 48, 3) := by decide +kernel
theorem d_MM_feed_52 : decode b_MM_feed 52 = .ok (.ireturn, 1) := by decide +kernel
theorem d_MM_file_0 : decode b_MM_file 0 = .ok (.aload_n 0, 1) := by decide +kernel
theorem d_MM_file_1 : decode b_MM_file 1 = .ok (.invokevirtual 60, 3) := by decide +kernel
theorem d_MM_file_4 : decode b_MM_file 4 = .ok (.istore_n 2, 1) := by decide +kernel
theorem d_MM_file_5 : decode b_MM_file 5 = .ok (.iload_n 1, 1) := by decide +kernel
theorem d_MM_file_6 : decode b_MM_file 6 = .ok (.iconst 1, 1) := by decide +kernel
theorem d_MM_file_7 : decode b_MM_file 7 = .ok (.if_icmp .lt 14, 3) := by decide +kernel
theorem d_MM_file_10 : decode b_MM_file 10 = .ok (.iload_n 1, 1) := by decide +kernel
theorem d_MM_file_11 : decode b_MM_file 11 = .ok (.bipush 64, 2) := by decide +kernel
theorem d_MM_file_13 : decode b_MM_file 13 = .ok (.if_icmp .gt 8, 3) := by decide +kernel
theorem d_MM_file_16 : decode b_MM_file 16 = .ok (.iload_n 1, 1) := by decide +kernel
theorem d_MM_file_17 : decode b_MM_file 17 = .ok (.iload_n 2, 1) := by decide +kernel
theorem d_MM_file_18 : decode b_MM_file 18 = .ok (.if_icmp .le 5, 3) := by decide +kernel
theorem d_MM_file_21 : decode b_MM_file 21 = .ok (.iconst (-1), 1) := by decide +kernel
theorem d_MM_file_22 : decode b_MM_file 22 = .ok (.ireturn, 1) := by decide +kernel
theorem d_MM_hashOf_0 : decode b_MM_hashOf 0 = .ok (.iload_n 2, 1) := by decide +kernel
theorem d_MM_hashOf_1 : decode b_MM_hashOf 1 = .ok (.istore_n 3, 1) := by decide +kernel
theorem d_MM_hashOf_2 : decode b_MM_hashOf 2 = .ok (.iconst 0, 1) := by decide +kernel
theorem d_MM_hashOf_3 : decode b_MM_hashOf 3 = .ok (.istore 4, 2) := by decide +kernel
theorem d_MM_hashOf_5 : decode b_MM_hashOf 5 = .ok (.iload 4, 2) := by decide +kernel
theorem d_MM_hashOf_7 : decode b_MM_hashOf 7 = .ok (.iload_n 2, 1) := by decide +kernel
theorem d_MM_hashOf_8 : decode b_MM_hashOf 8 = .ok (.if_icmp .ge 21, 3) := by decide +kernel
theorem d_MM_hashOf_29 : decode b_MM_hashOf 29 = .ok (.iload_n 3, 1) := by decide +kernel
theorem d_MM_hashOf_30 : decode b_MM_hashOf 30 = .ok (.iload_n 3, 1) := by decide +kernel
theorem d_MM_hashOf_31 : decode b_MM_hashOf 31 = .ok (.bipush 15, 2) := by decide +kernel
theorem d_MM_hashOf_33 : decode b_MM_hashOf 33 = .ok (.iushr, 1) := by decide +kernel
theorem d_MM_hashOf_34 : decode b_MM_hashOf 34 = .ok (.ixor, 1) := by decide +kernel
theorem d_MM_hashOf_35 : decode b_MM_hashOf 35 = .ok (.ireturn, 1) := by decide +kernel
theorem d_MM_layNumber_0 : decode b_MM_layNumber 0 = .ok (.bipush 24, 2) := by decide +kernel
theorem d_MM_layNumber_2 : decode b_MM_layNumber 2 = .ok (.istore_n 2, 1) := by decide +kernel
theorem d_MM_layNumber_3 : decode b_MM_layNumber 3 = .ok (.iload_n 2, 1) := by decide +kernel
theorem d_MM_layNumber_4 : decode b_MM_layNumber 4 = .ok (.ifCond .lt 32, 3) := by decide +kernel
theorem d_MM_layNumber_7 : decode b_MM_layNumber 7 = .ok (.aload_n 0, 1) := by decide +kernel
theorem d_MM_layNumber_8 : decode b_MM_layNumber 8 = .ok (.getfield 9, 3) := by decide +kernel
theorem d_MM_layNumber_11 : decode b_MM_layNumber 11 = .ok (.aload_n 0, 1) := by decide +kernel
theorem d_MM_layNumber_12 : decode b_MM_layNumber 12 = .ok (.getfield 48, 3) := by decide +kernel
theorem d_MM_layNumber_15 : decode b_MM_layNumber 15 = .ok (.iload_n 1, 1) := by decide +kernel
theorem d_MM_layNumber_16 : decode b_MM_layNumber 16 = .ok (.iload_n 2, 1) := by decide +kernel
theorem d_MM_layNumber_17 : decode b_MM_layNumber 17 = .ok (.ishr, 1) := by decide +kernel
theorem d_MM_layNumber_18 : decode b_MM_layNumber 18 = .ok (.i2b, 1) := by decide +kernel
theorem d_MM_layNumber_19 : decode b_MM_layNumber 19 = .ok (.bastore, 1) := by decide +kernel
theorem d_MM_layNumber_20 : decode b_MM_layNumber 20 = .ok (.aload_n 0, 1) := by decide +kernel
theorem d_MM_layNumber_21 : decode b_MM_layNumber 21 = .ok (.dup, 1) := by decide +kernel
theorem d_MM_layNumber_22 : decode b_MM_layNumber 22 = .ok (.getfield 48, 3) := by decide +kernel
theorem d_MM_layNumber_25 : decode b_MM_layNumber 25 = .ok (.iconst 1, 1) := by decide +kernel
theorem d_MM_layNumber_26 : decode b_MM_layNumber 26 = .ok (.iadd, 1) := by decide +kernel
theorem d_MM_layNumber_27 : decode b_MM_layNumber 27 = .ok (.putfield 48, 3) := by decide +kernel
theorem d_MM_layNumber_30 : decode b_MM_layNumber 30 = .ok (.iinc 2 (-8), 3) := by decide +kernel
theorem d_MM_layNumber_33 : decode b_MM_layNumber 33 = .ok (.goto (-30), 3) := by decide +kernel
theorem d_MM_layNumber_36 : decode b_MM_layNumber 36 = .ok (.return_, 1) := by decide +kernel
theorem d_MM_parameters_0 : decode b_MM_parameters 0 = .ok (.aload_n 0, 1) := by decide +kernel
theorem d_MM_parameters_1 : decode b_MM_parameters 1 = .ok (.invokevirtual 60, 3) := by decide +kernel
theorem d_MM_parameters_4 : decode b_MM_parameters 4 = .ok (.istore_n 1, 1) := by decide +kernel
theorem d_MM_parameters_5 : decode b_MM_parameters 5 = .ok (.aload_n 0, 1) := by decide +kernel
theorem d_MM_parameters_6 : decode b_MM_parameters 6 = .ok (.getfield 44, 3) := by decide +kernel
theorem d_MM_parameters_9 : decode b_MM_parameters 9 = .ok (.getfield 125, 3) := by decide +kernel
theorem d_MM_parameters_12 : decode b_MM_parameters 12 = .ok (.aload_n 0, 1) := by decide +kernel
theorem d_MM_parameters_13 : decode b_MM_parameters 13 = .ok (.getfield 9, 3) := by decide +kernel
theorem d_MM_parameters_16 : decode b_MM_parameters 16 = .ok (.iconst 0, 1) := by decide +kernel
theorem d_MM_parameters_17 : decode b_MM_parameters 17 = .ok (.iload_n 1, 1) := by decide +kernel
theorem d_MM_parameters_18 : decode b_MM_parameters 18 = .ok (.invokevirtual 137, 3) := by decide +kernel
theorem d_MM_parameters_21 : decode b_MM_parameters 21 = .ok (.istore_n 2, 1) := by decide +kernel
theorem d_MM_parameters_22 : decode b_MM_parameters 22 = .ok (.iload_n 2, 1) := by decide +kernel
theorem d_MM_parameters_23 : decode b_MM_parameters 23 = .ok (.ifCond .lt 17, 3) := by decide +kernel
theorem d_MM_parameters_40 : decode b_MM_parameters 40 = .ok (.iconst (-1), 1) := by decide +kernel
theorem d_MM_parameters_41 : decode b_MM_parameters 41 = .ok (.ireturn, 1) := by decide +kernel
theorem d_MM_run_0 : decode b_MM_run 0 = .ok (.iload_n 1, 1) := by decide +kernel
theorem d_MM_run_1 : decode b_MM_run 1 = .ok (.ifCond .lt 24, 3) := by decide +kernel
theorem d_MM_run_4 : decode b_MM_run 4 = .ok (.iload_n 1, 1) := by decide +kernel
theorem d_MM_run_5 : decode b_MM_run 5 = .ok (.aload_n 0, 1) := by decide +kernel
theorem d_MM_run_6 : decode b_MM_run 6 = .ok (.getfield 16, 3) := by decide +kernel
theorem d_MM_run_9 : decode b_MM_run 9 = .ok (.getfield 72, 3) := by decide +kernel
theorem d_MM_run_12 : decode b_MM_run 12 = .ok (.if_icmp .ge 13, 3) := by decide +kernel
theorem d_MM_run_25 : decode b_MM_run 25 = .ok (.iconst (-1), 1) := by decide +kernel
theorem d_MM_run_26 : decode b_MM_run 26 = .ok (.ireturn, 1) := by decide +kernel
theorem d_MM_size_0 : decode b_MM_size 0 = .ok (.aload_n 0, 1) := by decide +kernel
theorem d_MM_size_1 : decode b_MM_size 1 = .ok (.getfield 23, 3) := by decide +kernel
theorem d_MM_size_4 : decode b_MM_size 4 = .ok (.getfield 101, 3) := by decide +kernel
theorem d_MM_size_7 : decode b_MM_size 7 = .ok (.ireturn, 1) := by decide +kernel
theorem d_MM_told_0 : decode b_MM_told 0 = .ok (.iload_n 1, 1) := by decide +kernel
theorem d_MM_told_1 : decode b_MM_told 1 = .ok (.tableswitch 90 0 5 #[39, 47, 55, 63, 71, 79], 39) := by decide +kernel
theorem d_MM_told_40 : decode b_MM_told 40 = .ok (.aload_n 0, 1) := by decide +kernel
theorem d_MM_told_41 : decode b_MM_told 41 = .ok (.getfield 23, 3) := by decide +kernel
theorem d_MM_told_44 : decode b_MM_told 44 = .ok (.getfield 110, 3) := by decide +kernel
theorem d_MM_told_47 : decode b_MM_told 47 = .ok (.ireturn, 1) := by decide +kernel
theorem d_MM_told_48 : decode b_MM_told 48 = .ok (.aload_n 0, 1) := by decide +kernel
theorem d_MM_told_49 : decode b_MM_told 49 = .ok (.getfield 23, 3) := by decide +kernel
theorem d_MM_told_52 : decode b_MM_told 52 = .ok (.getfield 113, 3) := by decide +kernel
theorem d_MM_told_55 : decode b_MM_told 55 = .ok (.ireturn, 1) := by decide +kernel
theorem d_MM_told_56 : decode b_MM_told 56 = .ok (.aload_n 0, 1) := by decide +kernel
theorem d_MM_told_57 : decode b_MM_told 57 = .ok (.getfield 23, 3) := by decide +kernel
theorem d_MM_told_60 : decode b_MM_told 60 = .ok (.getfield 116, 3) := by decide +kernel
theorem d_MM_told_63 : decode b_MM_told 63 = .ok (.ireturn, 1) := by decide +kernel
theorem d_MM_told_64 : decode b_MM_told 64 = .ok (.aload_n 0, 1) := by decide +kernel
theorem d_MM_told_65 : decode b_MM_told 65 = .ok (.getfield 23, 3) := by decide +kernel
theorem d_MM_told_68 : decode b_MM_told 68 = .ok (.getfield 119, 3) := by decide +kernel
theorem d_MM_told_71 : decode b_MM_told 71 = .ok (.ireturn, 1) := by decide +kernel
theorem d_MM_told_72 : decode b_MM_told 72 = .ok (.aload_n 0, 1) := by decide +kernel
theorem d_MM_told_73 : decode b_MM_told 73 = .ok (.getfield 23, 3) := by decide +kernel
theorem d_MM_told_76 : decode b_MM_told 76 = .ok (.getfield 122, 3) := by decide +kernel
theorem d_MM_told_79 : decode b_MM_told 79 = .ok (.ireturn, 1) := by decide +kernel
theorem d_MM_told_80 : decode b_MM_told 80 = .ok (.aload_n 0, 1) := by decide +kernel
theorem d_MM_told_81 : decode b_MM_told 81 = .ok (.getfield 44, 3) := by decide +kernel
theorem d_MM_told_84 : decode b_MM_told 84 = .ok (.getfield 125, 3) := by decide +kernel
theorem d_MM_told_87 : decode b_MM_told 87 = .ok (.getfield 129, 3) := by decide +kernel
theorem d_MM_told_90 : decode b_MM_told 90 = .ok (.ireturn, 1) := by decide +kernel
theorem d_MM_told_91 : decode b_MM_told 91 = .ok (.iconst (-1), 1) := by decide +kernel
theorem d_MM_told_92 : decode b_MM_told 92 = .ok (.ireturn, 1) := by decide +kernel
theorem d_MM_useTape_0 : decode b_MM_useTape 0 = .ok (.aload_n 0, 1) := by decide +kernel
theorem d_MM_useTape_1 : decode b_MM_useTape 1 = .ok (.getfield 48, 3) := by decide +kernel
theorem d_MM_useTape_4 : decode b_MM_useTape 4 = .ok (.istore_n 1, 1) := by decide +kernel
theorem d_MM_useTape_5 : decode b_MM_useTape 5 = .ok (.aload_n 0, 1) := by decide +kernel
theorem d_MM_useTape_6 : decode b_MM_useTape 6 = .ok (.iconst 0, 1) := by decide +kernel
theorem d_MM_useTape_7 : decode b_MM_useTape 7 = .ok (.putfield 48, 3) := by decide +kernel
theorem d_MM_useTape_10 : decode b_MM_useTape 10 = .ok (.aload_n 0, 1) := by decide +kernel
theorem d_MM_useTape_11 : decode b_MM_useTape 11 = .ok (.iconst 0, 1) := by decide +kernel
theorem d_MM_useTape_12 : decode b_MM_useTape 12 = .ok (.putfield 56, 3) := by decide +kernel
theorem d_MM_useTape_15 : decode b_MM_useTape 15 = .ok (.iload_n 1, 1) := by decide +kernel
theorem d_MM_useTape_16 : decode b_MM_useTape 16 = .ok (.ireturn, 1) := by decide +kernel
theorem d_MM_word_0 : decode b_MM_word 0 = .ok (.iload_n 1, 1) := by decide +kernel
theorem d_MM_word_1 : decode b_MM_word 1 = .ok (.ifCond .lt 17, 3) := by decide +kernel
theorem d_MM_word_4 : decode b_MM_word 4 = .ok (.iload_n 1, 1) := by decide +kernel
theorem d_MM_word_5 : decode b_MM_word 5 = .ok (.aload_n 0, 1) := by decide +kernel
theorem d_MM_word_6 : decode b_MM_word 6 = .ok (.getfield 23, 3) := by decide +kernel
theorem d_MM_word_9 : decode b_MM_word 9 = .ok (.getfield 101, 3) := by decide +kernel
theorem d_MM_word_12 : decode b_MM_word 12 = .ok (.bipush 8, 2) := by decide +kernel
theorem d_MM_word_14 : decode b_MM_word 14 = .ok (.idiv, 1) := by decide +kernel
theorem d_MM_word_15 : decode b_MM_word 15 = .ok (.if_icmp .le 5, 3) := by decide +kernel
theorem d_MM_word_18 : decode b_MM_word 18 = .ok (.lconst 0, 1) := by decide +kernel
theorem d_MM_word_19 : decode b_MM_word 19 = .ok (.lreturn, 1) := by decide +kernel
theorem d_MM_word_20 : decode b_MM_word 20 = .ok (.lconst 0, 1) := by decide +kernel
theorem d_MM_word_21 : decode b_MM_word 21 = .ok (.lstore_n 2, 1) := by decide +kernel
theorem d_MM_word_22 : decode b_MM_word 22 = .ok (.bipush 7, 2) := by decide +kernel
theorem d_MM_word_24 : decode b_MM_word 24 = .ok (.istore 4, 2) := by decide +kernel
theorem d_MM_word_26 : decode b_MM_word 26 = .ok (.iload 4, 2) := by decide +kernel
theorem d_MM_word_28 : decode b_MM_word 28 = .ok (.ifCond .lt 55, 3) := by decide +kernel
theorem d_MM_word_31 : decode b_MM_word 31 = .ok (.bipush 8, 2) := by decide +kernel
theorem d_MM_word_33 : decode b_MM_word 33 = .ok (.iload_n 1, 1) := by decide +kernel
theorem d_MM_word_34 : decode b_MM_word 34 = .ok (.imul, 1) := by decide +kernel
theorem d_MM_word_35 : decode b_MM_word 35 = .ok (.iload 4, 2) := by decide +kernel
theorem d_MM_word_37 : decode b_MM_word 37 = .ok (.iadd, 1) := by decide +kernel
theorem d_MM_word_38 : decode b_MM_word 38 = .ok (.istore 5, 2) := by decide +kernel
theorem d_MM_word_40 : decode b_MM_word 40 = .ok (.lload_n 2, 1) := by decide +kernel
theorem d_MM_word_41 : decode b_MM_word 41 = .ok (.bipush 8, 2) := by decide +kernel
theorem d_MM_word_43 : decode b_MM_word 43 = .ok (.lshl, 1) := by decide +kernel
theorem d_MM_word_44 : decode b_MM_word 44 = .ok (.iload 5, 2) := by decide +kernel
theorem d_MM_word_46 : decode b_MM_word 46 = .ok (.aload_n 0, 1) := by decide +kernel
theorem d_MM_word_47 : decode b_MM_word 47 = .ok (.getfield 23, 3) := by decide +kernel
theorem d_MM_word_50 : decode b_MM_word 50 = .ok (.getfield 101, 3) := by decide +kernel
theorem d_MM_word_53 : decode b_MM_word 53 = .ok (.if_icmp .ge 20, 3) := by decide +kernel
theorem d_MM_word_73 : decode b_MM_word 73 = .ok (.iconst 0, 1) := by decide +kernel
theorem d_MM_word_74 : decode b_MM_word 74 = .ok (.i2l, 1) := by decide +kernel
theorem d_MM_word_75 : decode b_MM_word 75 = .ok (.lor, 1) := by decide +kernel
theorem d_MM_word_76 : decode b_MM_word 76 = .ok (.lstore_n 2, 1) := by decide +kernel
theorem d_MM_word_77 : decode b_MM_word 77 = .ok (.iinc 4 (-1), 3) := by decide +kernel
theorem d_MM_word_80 : decode b_MM_word 80 = .ok (.goto (-54), 3) := by decide +kernel
theorem d_MM_word_83 : decode b_MM_word 83 = .ok (.lload_n 2, 1) := by decide +kernel
theorem d_MM_word_84 : decode b_MM_word 84 = .ok (.lreturn, 1) := by decide +kernel
theorem d_MM_write_0 : decode b_MM_write 0 = .ok (.aload_n 0, 1) := by decide +kernel
theorem d_MM_write_1 : decode b_MM_write 1 = .ok (.invokevirtual 60, 3) := by decide +kernel
theorem d_MM_write_4 : decode b_MM_write 4 = .ok (.istore_n 2, 1) := by decide +kernel
theorem d_MM_write_5 : decode b_MM_write 5 = .ok (.iload_n 1, 1) := by decide +kernel
theorem d_MM_write_6 : decode b_MM_write 6 = .ok (.ifCond .lt 14, 3) := by decide +kernel
theorem d_MM_write_9 : decode b_MM_write 9 = .ok (.iload_n 1, 1) := by decide +kernel
theorem d_MM_write_10 : decode b_MM_write 10 = .ok (.aload_n 0, 1) := by decide +kernel
theorem d_MM_write_11 : decode b_MM_write 11 = .ok (.getfield 16, 3) := by decide +kernel
theorem d_MM_write_14 : decode b_MM_write 14 = .ok (.getfield 72, 3) := by decide +kernel
theorem d_MM_write_17 : decode b_MM_write 17 = .ok (.if_icmp .lt 5, 3) := by decide +kernel
theorem d_MM_write_20 : decode b_MM_write 20 = .ok (.iconst (-1), 1) := by decide +kernel
theorem d_MM_write_21 : decode b_MM_write 21 = .ok (.ireturn, 1) := by decide +kernel
theorem d_Calls_init_0 : decode b_Calls_init 0 = .ok (.aload_n 0, 1) := by decide +kernel
theorem d_Calls_init_1 : decode b_Calls_init 1 = .ok (.invokespecial 3, 3) := by decide +kernel
theorem d_Calls_init_4 : decode b_Calls_init 4 = .ok (.aload_n 0, 1) := by decide +kernel
theorem d_Calls_init_5 : decode b_Calls_init 5 = .ok (.sipush 16384, 3) := by decide +kernel
theorem d_Calls_init_8 : decode b_Calls_init 8 = .ok (.newarray .byte, 2) := by decide +kernel
theorem d_Calls_init_10 : decode b_Calls_init 10 = .ok (.putfield 11, 3) := by decide +kernel
theorem d_Calls_init_13 : decode b_Calls_init 13 = .ok (.aload_n 0, 1) := by decide +kernel
theorem d_Calls_init_14 : decode b_Calls_init 14 = .ok (.sipush 8192, 3) := by decide +kernel
theorem d_Calls_init_17 : decode b_Calls_init 17 = .ok (.newarray .int, 2) := by decide +kernel
theorem d_Calls_init_19 : decode b_Calls_init 19 = .ok (.putfield 15, 3) := by decide +kernel
theorem d_Calls_init_22 : decode b_Calls_init 22 = .ok (.aload_n 0, 1) := by decide +kernel
theorem d_Calls_init_23 : decode b_Calls_init 23 = .ok (.bipush 50, 2) := by decide +kernel
theorem d_Calls_init_25 : decode b_Calls_init 25 = .ok (.newarray .int, 2) := by decide +kernel
theorem d_Calls_init_27 : decode b_Calls_init 27 = .ok (.putfield 19, 3) := by decide +kernel
theorem d_Calls_init_30 : decode b_Calls_init 30 = .ok (.aload_n 0, 1) := by decide +kernel
theorem d_Calls_init_31 : decode b_Calls_init 31 = .ok (.bipush 50, 2) := by decide +kernel
theorem d_Calls_init_33 : decode b_Calls_init 33 = .ok (.newarray .int, 2) := by decide +kernel
theorem d_Calls_init_35 : decode b_Calls_init 35 = .ok (.putfield 22, 3) := by decide +kernel
theorem d_Calls_init_38 : decode b_Calls_init 38 = .ok (.aload_n 0, 1) := by decide +kernel
theorem d_Calls_init_39 : decode b_Calls_init 39 = .ok (.bipush 50, 2) := by decide +kernel
theorem d_Calls_init_41 : decode b_Calls_init 41 = .ok (.newarray .int, 2) := by decide +kernel
theorem d_Calls_init_43 : decode b_Calls_init 43 = .ok (.putfield 25, 3) := by decide +kernel
theorem d_Calls_init_46 : decode b_Calls_init 46 = .ok (.aload_n 0, 1) := by decide +kernel
theorem d_Calls_init_47 : decode b_Calls_init 47 = .ok (.bipush 50, 2) := by decide +kernel
theorem d_Calls_init_49 : decode b_Calls_init 49 = .ok (.newarray .int, 2) := by decide +kernel
theorem d_Calls_init_51 : decode b_Calls_init 51 = .ok (.putfield 28, 3) := by decide +kernel
theorem d_Calls_init_54 : decode b_Calls_init 54 = .ok (.aload_n 0, 1) := by decide +kernel
theorem d_Calls_init_55 : decode b_Calls_init 55 = .ok (.bipush 50, 2) := by decide +kernel
theorem d_Calls_init_57 : decode b_Calls_init 57 = .ok (.newarray .boolean, 2) := by decide +kernel
theorem d_Calls_init_59 : decode b_Calls_init 59 = .ok (.putfield 31, 3) := by decide +kernel
theorem d_Calls_init_62 : decode b_Calls_init 62 = .ok (.return_, 1) := by decide +kernel
theorem d_Files_init_0 : decode b_Files_init 0 = .ok (.aload_n 0, 1) := by decide +kernel
theorem d_Files_init_1 : decode b_Files_init 1 = .ok (.invokespecial 3, 3) := by decide +kernel
theorem d_Files_init_4 : decode b_Files_init 4 = .ok (.aload_n 0, 1) := by decide +kernel
theorem d_Files_init_5 : decode b_Files_init 5 = .ok (.ldc 11, 2) := by decide +kernel
theorem d_Files_init_7 : decode b_Files_init 7 = .ok (.newarray .byte, 2) := by decide +kernel
theorem d_Files_init_9 : decode b_Files_init 9 = .ok (.putfield 12, 3) := by decide +kernel
theorem d_Files_init_12 : decode b_Files_init 12 = .ok (.aload_n 0, 1) := by decide +kernel
theorem d_Files_init_13 : decode b_Files_init 13 = .ok (.sipush 2048, 3) := by decide +kernel
theorem d_Files_init_16 : decode b_Files_init 16 = .ok (.newarray .byte, 2) := by decide +kernel
theorem d_Files_init_18 : decode b_Files_init 18 = .ok (.putfield 16, 3) := by decide +kernel
theorem d_Files_init_21 : decode b_Files_init 21 = .ok (.aload_n 0, 1) := by decide +kernel
theorem d_Files_init_22 : decode b_Files_init 22 = .ok (.bipush 32, 2) := by decide +kernel
theorem d_Files_init_24 : decode b_Files_init 24 = .ok (.newarray .int, 2) := by decide +kernel
theorem d_Files_init_26 : decode b_Files_init 26 = .ok (.putfield 19, 3) := by decide +kernel
theorem d_Files_init_29 : decode b_Files_init 29 = .ok (.aload_n 0, 1) := by decide +kernel
theorem d_Files_init_30 : decode b_Files_init 30 = .ok (.bipush 33, 2) := by decide +kernel
theorem d_Files_init_32 : decode b_Files_init 32 = .ok (.newarray .int, 2) := by decide +kernel
theorem d_Files_init_34 : decode b_Files_init 34 = .ok (.putfield 23, 3) := by decide +kernel
theorem d_Files_init_37 : decode b_Files_init 37 = .ok (.return_, 1) := by decide +kernel
theorem d_First_init_0 : decode b_First_init 0 = .ok (.aload_n 0, 1) := by decide +kernel
theorem d_First_init_1 : decode b_First_init 1 = .ok (.invokespecial 3, 3) := by decide +kernel
theorem d_First_init_4 : decode b_First_init 4 = .ok (.aload_n 0, 1) := by decide +kernel
theorem d_First_init_5 : decode b_First_init 5 = .ok (.new 9, 3) := by decide +kernel
theorem d_First_init_8 : decode b_First_init 8 = .ok (.dup, 1) := by decide +kernel
theorem d_First_init_9 : decode b_First_init 9 = .ok (.invokespecial 11, 3) := by decide +kernel
theorem d_First_init_12 : decode b_First_init 12 = .ok (.putfield 12, 3) := by decide +kernel
theorem d_First_init_15 : decode b_First_init 15 = .ok (.aload_n 0, 1) := by decide +kernel
theorem d_First_init_16 : decode b_First_init 16 = .ok (.new 18, 3) := by decide +kernel
theorem d_First_init_19 : decode b_First_init 19 = .ok (.dup, 1) := by decide +kernel
theorem d_First_init_20 : decode b_First_init 20 = .ok (.invokespecial 20, 3) := by decide +kernel
theorem d_First_init_23 : decode b_First_init 23 = .ok (.putfield 21, 3) := by decide +kernel
theorem d_First_init_26 : decode b_First_init 26 = .ok (.aload_n 0, 1) := by decide +kernel
theorem d_First_init_27 : decode b_First_init 27 = .ok (.ldc 27, 2) := by decide +kernel
theorem d_First_init_29 : decode b_First_init 29 = .ok (.newarray .byte, 2) := by decide +kernel
theorem d_First_init_31 : decode b_First_init 31 = .ok (.putfield 28, 3) := by decide +kernel
theorem d_First_init_34 : decode b_First_init 34 = .ok (.aload_n 0, 1) := by decide +kernel
theorem d_First_init_35 : decode b_First_init 35 = .ok (.ldc 27, 2) := by decide +kernel
theorem d_First_init_37 : decode b_First_init 37 = .ok (.newarray .byte, 2) := by decide +kernel
theorem d_First_init_39 : decode b_First_init 39 = .ok (.putfield 32, 3) := by decide +kernel
theorem d_First_init_42 : decode b_First_init 42 = .ok (.aload_n 0, 1) := by decide +kernel
theorem d_First_init_43 : decode b_First_init 43 = .ok (.ldc 27, 2) := by decide +kernel
theorem d_First_init_45 : decode b_First_init 45 = .ok (.newarray .int, 2) := by decide +kernel
theorem d_First_init_47 : decode b_First_init 47 = .ok (.putfield 35, 3) := by decide +kernel
theorem d_First_init_50 : decode b_First_init 50 = .ok (.aload_n 0, 1) := by decide +kernel
theorem d_First_init_51 : decode b_First_init 51 = .ok (.bipush 10, 2) := by decide +kernel
theorem d_First_init_53 : decode b_First_init 53 = .ok (.newarray .int, 2) := by decide +kernel
theorem d_First_init_55 : decode b_First_init 55 = .ok (.putfield 39, 3) := by decide +kernel
theorem d_First_init_58 : decode b_First_init 58 = .ok (.aload_n 0, 1) := by decide +kernel
theorem d_First_init_59 : decode b_First_init 59 = .ok (.bipush 10, 2) := by decide +kernel
theorem d_First_init_61 : decode b_First_init 61 = .ok (.newarray .int, 2) := by decide +kernel
theorem d_First_init_63 : decode b_First_init 63 = .ok (.putfield 42, 3) := by decide +kernel
theorem d_First_init_66 : decode b_First_init 66 = .ok (.aload_n 0, 1) := by decide +kernel
theorem d_First_init_67 : decode b_First_init 67 = .ok (.aload_n 1, 1) := by decide +kernel
theorem d_First_init_68 : decode b_First_init 68 = .ok (.putfield 45, 3) := by decide +kernel
theorem d_First_init_71 : decode b_First_init 71 = .ok (.aload_n 0, 1) := by decide +kernel
theorem d_First_init_72 : decode b_First_init 72 = .ok (.aload_n 2, 1) := by decide +kernel
theorem d_First_init_73 : decode b_First_init 73 = .ok (.putfield 49, 3) := by decide +kernel
theorem d_First_init_76 : decode b_First_init 76 = .ok (.aload_n 0, 1) := by decide +kernel
theorem d_First_init_77 : decode b_First_init 77 = .ok (.new 25, 3) := by decide +kernel
theorem d_First_init_80 : decode b_First_init 80 = .ok (.dup, 1) := by decide +kernel
theorem d_First_init_81 : decode b_First_init 81 = .ok (.aload_n 1, 1) := by decide +kernel
theorem d_First_init_82 : decode b_First_init 82 = .ok (.invokespecial 53, 3) := by decide +kernel
theorem d_First_init_85 : decode b_First_init 85 = .ok (.putfield 56, 3) := by decide +kernel
theorem d_First_init_88 : decode b_First_init 88 = .ok (.return_, 1) := by decide +kernel
theorem d_Input_init_0 : decode b_Input_init 0 = .ok (.aload_n 0, 1) := by decide +kernel
theorem d_Input_init_1 : decode b_Input_init 1 = .ok (.invokespecial 3, 3) := by decide +kernel
theorem d_Input_init_4 : decode b_Input_init 4 = .ok (.aload_n 0, 1) := by decide +kernel
theorem d_Input_init_5 : decode b_Input_init 5 = .ok (.ldc 11, 2) := by decide +kernel
theorem d_Input_init_7 : decode b_Input_init 7 = .ok (.newarray .byte, 2) := by decide +kernel
theorem d_Input_init_9 : decode b_Input_init 9 = .ok (.putfield 12, 3) := by decide +kernel
theorem d_Input_init_12 : decode b_Input_init 12 = .ok (.aload_n 0, 1) := by decide +kernel
theorem d_Input_init_13 : decode b_Input_init 13 = .ok (.bipush 8, 2) := by decide +kernel
theorem d_Input_init_15 : decode b_Input_init 15 = .ok (.newarray .byte, 2) := by decide +kernel
theorem d_Input_init_17 : decode b_Input_init 17 = .ok (.putfield 16, 3) := by decide +kernel
theorem d_Input_init_20 : decode b_Input_init 20 = .ok (.aload_n 0, 1) := by decide +kernel
theorem d_Input_init_21 : decode b_Input_init 21 = .ok (.aload_n 1, 1) := by decide +kernel
theorem d_Input_init_22 : decode b_Input_init 22 = .ok (.putfield 19, 3) := by decide +kernel
theorem d_Input_init_25 : decode b_Input_init 25 = .ok (.return_, 1) := by decide +kernel
theorem d_Lines_init_0 : decode b_Lines_init 0 = .ok (.aload_n 0, 1) := by decide +kernel
theorem d_Lines_init_1 : decode b_Lines_init 1 = .ok (.invokespecial 3, 3) := by decide +kernel
theorem d_Lines_init_4 : decode b_Lines_init 4 = .ok (.aload_n 0, 1) := by decide +kernel
theorem d_Lines_init_5 : decode b_Lines_init 5 = .ok (.bipush 32, 2) := by decide +kernel
theorem d_Lines_init_7 : decode b_Lines_init 7 = .ok (.newarray .int, 2) := by decide +kernel
theorem d_Lines_init_9 : decode b_Lines_init 9 = .ok (.putfield 9, 3) := by decide +kernel
theorem d_Lines_init_12 : decode b_Lines_init 12 = .ok (.aload_n 0, 1) := by decide +kernel
theorem d_Lines_init_13 : decode b_Lines_init 13 = .ok (.bipush 32, 2) := by decide +kernel
theorem d_Lines_init_15 : decode b_Lines_init 15 = .ok (.newarray .int, 2) := by decide +kernel
theorem d_Lines_init_17 : decode b_Lines_init 17 = .ok (.putfield 15, 3) := by decide +kernel
theorem d_Lines_init_20 : decode b_Lines_init 20 = .ok (.aload_n 0, 1) := by decide +kernel
theorem d_Lines_init_21 : decode b_Lines_init 21 = .ok (.bipush 32, 2) := by decide +kernel
theorem d_Lines_init_23 : decode b_Lines_init 23 = .ok (.newarray .int, 2) := by decide +kernel
theorem d_Lines_init_25 : decode b_Lines_init 25 = .ok (.putfield 18, 3) := by decide +kernel
theorem d_Lines_init_28 : decode b_Lines_init 28 = .ok (.aload_n 0, 1) := by decide +kernel
theorem d_Lines_init_29 : decode b_Lines_init 29 = .ok (.bipush 21, 2) := by decide +kernel
theorem d_Lines_init_31 : decode b_Lines_init 31 = .ok (.newarray .int, 2) := by decide +kernel
theorem d_Lines_init_33 : decode b_Lines_init 33 = .ok (.putfield 21, 3) := by decide +kernel
theorem d_Lines_init_36 : decode b_Lines_init 36 = .ok (.aload_n 0, 1) := by decide +kernel
theorem d_Lines_init_37 : decode b_Lines_init 37 = .ok (.bipush 21, 2) := by decide +kernel
theorem d_Lines_init_39 : decode b_Lines_init 39 = .ok (.newarray .int, 2) := by decide +kernel
theorem d_Lines_init_41 : decode b_Lines_init 41 = .ok (.putfield 24, 3) := by decide +kernel
theorem d_Lines_init_44 : decode b_Lines_init 44 = .ok (.aload_n 0, 1) := by decide +kernel
theorem d_Lines_init_45 : decode b_Lines_init 45 = .ok (.bipush 21, 2) := by decide +kernel
theorem d_Lines_init_47 : decode b_Lines_init 47 = .ok (.newarray .int, 2) := by decide +kernel
theorem d_Lines_init_49 : decode b_Lines_init 49 = .ok (.putfield 27, 3) := by decide +kernel
theorem d_Lines_init_52 : decode b_Lines_init 52 = .ok (.aload_n 0, 1) := by decide +kernel
theorem d_Lines_init_53 : decode b_Lines_init 53 = .ok (.sipush 1344, 3) := by decide +kernel
theorem d_Lines_init_56 : decode b_Lines_init 56 = .ok (.newarray .byte, 2) := by decide +kernel
theorem d_Lines_init_58 : decode b_Lines_init 58 = .ok (.putfield 30, 3) := by decide +kernel
theorem d_Lines_init_61 : decode b_Lines_init 61 = .ok (.aload_n 0, 1) := by decide +kernel
theorem d_Lines_init_62 : decode b_Lines_init 62 = .ok (.bipush 21, 2) := by decide +kernel
theorem d_Lines_init_64 : decode b_Lines_init 64 = .ok (.newarray .int, 2) := by decide +kernel
theorem d_Lines_init_66 : decode b_Lines_init 66 = .ok (.putfield 34, 3) := by decide +kernel
theorem d_Lines_init_69 : decode b_Lines_init 69 = .ok (.aload_n 0, 1) := by decide +kernel
theorem d_Lines_init_70 : decode b_Lines_init 70 = .ok (.aload_n 1, 1) := by decide +kernel
theorem d_Lines_init_71 : decode b_Lines_init 71 = .ok (.putfield 37, 3) := by decide +kernel
theorem d_Lines_init_74 : decode b_Lines_init 74 = .ok (.aload_n 0, 1) := by decide +kernel
theorem d_Lines_init_75 : decode b_Lines_init 75 = .ok (.aload_n 2, 1) := by decide +kernel
theorem d_Lines_init_76 : decode b_Lines_init 76 = .ok (.putfield 41, 3) := by decide +kernel
theorem d_Lines_init_79 : decode b_Lines_init 79 = .ok (.aload_n 0, 1) := by decide +kernel
theorem d_Lines_init_80 : decode b_Lines_init 80 = .ok (.aload_n 3, 1) := by decide +kernel
theorem d_Lines_init_81 : decode b_Lines_init 81 = .ok (.putfield 45, 3) := by decide +kernel
theorem d_Lines_init_84 : decode b_Lines_init 84 = .ok (.return_, 1) := by decide +kernel
theorem d_Lines_clearAll_0 : decode b_Lines_clearAll 0 = .ok (.aload_n 0, 1) := by decide +kernel
theorem d_Lines_clearAll_1 : decode b_Lines_clearAll 1 = .ok (.getfield 9, 3) := by decide +kernel
theorem d_Lines_clearAll_4 : decode b_Lines_clearAll 4 = .ok (.iconst (-1), 1) := by decide +kernel
theorem d_Lines_clearAll_5 : decode b_Lines_clearAll 5 = .ok (.invokestatic 49, 3) := by decide +kernel
theorem d_Lines_clearAll_8 : decode b_Lines_clearAll 8 = .ok (.aload_n 0, 1) := by decide +kernel
theorem d_Lines_clearAll_9 : decode b_Lines_clearAll 9 = .ok (.iconst 0, 1) := by decide +kernel
theorem d_Lines_clearAll_10 : decode b_Lines_clearAll 10 = .ok (.putfield 55, 3) := by decide +kernel
theorem d_Lines_clearAll_13 : decode b_Lines_clearAll 13 = .ok (.aload_n 0, 1) := by decide +kernel
theorem d_Lines_clearAll_14 : decode b_Lines_clearAll 14 = .ok (.iconst 0, 1) := by decide +kernel
theorem d_Lines_clearAll_15 : decode b_Lines_clearAll 15 = .ok (.putfield 59, 3) := by decide +kernel
theorem d_Lines_clearAll_18 : decode b_Lines_clearAll 18 = .ok (.aload_n 0, 1) := by decide +kernel
theorem d_Lines_clearAll_19 : decode b_Lines_clearAll 19 = .ok (.iconst 0, 1) := by decide +kernel
theorem d_Lines_clearAll_20 : decode b_Lines_clearAll 20 = .ok (.putfield 62, 3) := by decide +kernel
theorem d_Lines_clearAll_23 : decode b_Lines_clearAll 23 = .ok (.aload_n 0, 1) := by decide +kernel
theorem d_Lines_clearAll_24 : decode b_Lines_clearAll 24 = .ok (.iconst 0, 1) := by decide +kernel
theorem d_Lines_clearAll_25 : decode b_Lines_clearAll 25 = .ok (.putfield 65, 3) := by decide +kernel
theorem d_Lines_clearAll_28 : decode b_Lines_clearAll 28 = .ok (.aload_n 0, 1) := by decide +kernel
theorem d_Lines_clearAll_29 : decode b_Lines_clearAll 29 = .ok (.iconst 0, 1) := by decide +kernel
theorem d_Lines_clearAll_30 : decode b_Lines_clearAll 30 = .ok (.putfield 68, 3) := by decide +kernel
theorem d_Lines_clearAll_33 : decode b_Lines_clearAll 33 = .ok (.aload_n 0, 1) := by decide +kernel
theorem d_Lines_clearAll_34 : decode b_Lines_clearAll 34 = .ok (.iconst 0, 1) := by decide +kernel
theorem d_Lines_clearAll_35 : decode b_Lines_clearAll 35 = .ok (.putfield 71, 3) := by decide +kernel
theorem d_Lines_clearAll_38 : decode b_Lines_clearAll 38 = .ok (.aload_n 0, 1) := by decide +kernel
theorem d_Lines_clearAll_39 : decode b_Lines_clearAll 39 = .ok (.iconst 0, 1) := by decide +kernel
theorem d_Lines_clearAll_40 : decode b_Lines_clearAll 40 = .ok (.putfield 74, 3) := by decide +kernel
theorem d_Lines_clearAll_43 : decode b_Lines_clearAll 43 = .ok (.aload_n 0, 1) := by decide +kernel
theorem d_Lines_clearAll_44 : decode b_Lines_clearAll 44 = .ok (.iconst 1, 1) := by decide +kernel
theorem d_Lines_clearAll_45 : decode b_Lines_clearAll 45 = .ok (.putfield 77, 3) := by decide +kernel
theorem d_Lines_clearAll_48 : decode b_Lines_clearAll 48 = .ok (.return_, 1) := by decide +kernel
theorem d_Macros_init_0 : decode b_Macros_init 0 = .ok (.aload_n 0, 1) := by decide +kernel
theorem d_Macros_init_1 : decode b_Macros_init 1 = .ok (.invokespecial 1, 3) := by decide +kernel
theorem d_Macros_init_4 : decode b_Macros_init 4 = .ok (.aload_n 0, 1) := by decide +kernel
theorem d_Macros_init_5 : decode b_Macros_init 5 = .ok (.sipush 400, 3) := by decide +kernel
theorem d_Macros_init_8 : decode b_Macros_init 8 = .ok (.newarray .long, 2) := by decide +kernel
theorem d_Macros_init_10 : decode b_Macros_init 10 = .ok (.putfield 9, 3) := by decide +kernel
theorem d_Macros_init_13 : decode b_Macros_init 13 = .ok (.aload_n 0, 1) := by decide +kernel
theorem d_Macros_init_14 : decode b_Macros_init 14 = .ok (.sipush 512, 3) := by decide +kernel
theorem d_Macros_init_17 : decode b_Macros_init 17 = .ok (.newarray .int, 2) := by decide +kernel
end
section
theorem d_Macros_init_19 : decode b_Macros_init 19 = .ok (.putfield 13, 3) := by decide +kernel
theorem d_Macros_init_22 : decode b_Macros_init 22 = .ok (.aload_n 0, 1) := by decide +kernel
theorem d_Macros_init_23 : decode b_Macros_init 23 = .ok (.sipush 400, 3) := by decide +kernel
theorem d_Macros_init_26 : decode b_Macros_init 26 = .ok (.newarray .int, 2) := by decide +kernel
theorem d_Macros_init_28 : decode b_Macros_init 28 = .ok (.putfield 17, 3) := by decide +kernel
theorem d_Macros_init_31 : decode b_Macros_init 31 = .ok (.aload_n 0, 1) := by decide +kernel
theorem d_Macros_init_32 : decode b_Macros_init 32 = .ok (.sipush 400, 3) := by decide +kernel
theorem d_Macros_init_35 : decode b_Macros_init 35 = .ok (.newarray .int, 2) := by decide +kernel
theorem d_Macros_init_37 : decode b_Macros_init 37 = .ok (.putfield 20, 3) := by decide +kernel
theorem d_Macros_init_40 : decode b_Macros_init 40 = .ok (.aload_n 0, 1) := by decide +kernel
theorem d_Macros_init_41 : decode b_Macros_init 41 = .ok (.sipush 400, 3) := by decide +kernel
theorem d_Macros_init_44 : decode b_Macros_init 44 = .ok (.newarray .boolean, 2) := by decide +kernel
theorem d_Macros_init_46 : decode b_Macros_init 46 = .ok (.putfield 23, 3) := by decide +kernel
theorem d_Macros_init_49 : decode b_Macros_init 49 = .ok (.aload_n 0, 1) := by decide +kernel
theorem d_Macros_init_50 : decode b_Macros_init 50 = .ok (.sipush 400, 3) := by decide +kernel
theorem d_Macros_init_53 : decode b_Macros_init 53 = .ok (.newarray .int, 2) := by decide +kernel
theorem d_Macros_init_55 : decode b_Macros_init 55 = .ok (.putfield 27, 3) := by decide +kernel
theorem d_Macros_init_58 : decode b_Macros_init 58 = .ok (.aload_n 0, 1) := by decide +kernel
theorem d_Macros_init_59 : decode b_Macros_init 59 = .ok (.sipush 400, 3) := by decide +kernel
theorem d_Macros_init_62 : decode b_Macros_init 62 = .ok (.newarray .int, 2) := by decide +kernel
theorem d_Macros_init_64 : decode b_Macros_init 64 = .ok (.putfield 30, 3) := by decide +kernel
theorem d_Macros_init_67 : decode b_Macros_init 67 = .ok (.aload_n 0, 1) := by decide +kernel
theorem d_Macros_init_68 : decode b_Macros_init 68 = .ok (.sipush 8000, 3) := by decide +kernel
theorem d_Macros_init_71 : decode b_Macros_init 71 = .ok (.newarray .long, 2) := by decide +kernel
theorem d_Macros_init_73 : decode b_Macros_init 73 = .ok (.putfield 33, 3) := by decide +kernel
theorem d_Macros_init_76 : decode b_Macros_init 76 = .ok (.aload_n 0, 1) := by decide +kernel
theorem d_Macros_init_77 : decode b_Macros_init 77 = .ok (.sipush 8000, 3) := by decide +kernel
theorem d_Macros_init_80 : decode b_Macros_init 80 = .ok (.newarray .int, 2) := by decide +kernel
theorem d_Macros_init_82 : decode b_Macros_init 82 = .ok (.putfield 36, 3) := by decide +kernel
theorem d_Macros_init_85 : decode b_Macros_init 85 = .ok (.aload_n 0, 1) := by decide +kernel
theorem d_Macros_init_86 : decode b_Macros_init 86 = .ok (.sipush 7007, 3) := by decide +kernel
theorem d_Macros_init_89 : decode b_Macros_init 89 = .ok (.newarray .long, 2) := by decide +kernel
theorem d_Macros_init_91 : decode b_Macros_init 91 = .ok (.putfield 39, 3) := by decide +kernel
theorem d_Macros_init_94 : decode b_Macros_init 94 = .ok (.aload_n 0, 1) := by decide +kernel
theorem d_Macros_init_95 : decode b_Macros_init 95 = .ok (.sipush 2048, 3) := by decide +kernel
theorem d_Macros_init_98 : decode b_Macros_init 98 = .ok (.newarray .int, 2) := by decide +kernel
theorem d_Macros_init_100 : decode b_Macros_init 100 = .ok (.putfield 42, 3) := by decide +kernel
theorem d_Macros_init_103 : decode b_Macros_init 103 = .ok (.aload_n 0, 1) := by decide +kernel
theorem d_Macros_init_104 : decode b_Macros_init 104 = .ok (.sipush 1001, 3) := by decide +kernel
theorem d_Macros_init_107 : decode b_Macros_init 107 = .ok (.newarray .int, 2) := by decide +kernel
theorem d_Macros_init_109 : decode b_Macros_init 109 = .ok (.putfield 45, 3) := by decide +kernel
theorem d_Macros_init_112 : decode b_Macros_init 112 = .ok (.aload_n 0, 1) := by decide +kernel
theorem d_Macros_init_113 : decode b_Macros_init 113 = .ok (.bipush 7, 2) := by decide +kernel
theorem d_Macros_init_115 : decode b_Macros_init 115 = .ok (.newarray .long, 2) := by decide +kernel
theorem d_Macros_init_117 : decode b_Macros_init 117 = .ok (.putfield 48, 3) := by decide +kernel
theorem d_Macros_init_120 : decode b_Macros_init 120 = .ok (.aload_n 0, 1) := by decide +kernel
theorem d_Macros_init_121 : decode b_Macros_init 121 = .ok (.bipush 7, 2) := by decide +kernel
theorem d_Macros_init_123 : decode b_Macros_init 123 = .ok (.newarray .long, 2) := by decide +kernel
theorem d_Macros_init_125 : decode b_Macros_init 125 = .ok (.putfield 51, 3) := by decide +kernel
theorem d_Macros_init_128 : decode b_Macros_init 128 = .ok (.aload_n 0, 1) := by decide +kernel
theorem d_Macros_init_129 : decode b_Macros_init 129 = .ok (.aload_n 1, 1) := by decide +kernel
theorem d_Macros_init_130 : decode b_Macros_init 130 = .ok (.putfield 54, 3) := by decide +kernel
theorem d_Macros_init_133 : decode b_Macros_init 133 = .ok (.return_, 1) := by decide +kernel
theorem d_Macros_clearAll_0 : decode b_Macros_clearAll 0 = .ok (.aload_n 0, 1) := by decide +kernel
theorem d_Macros_clearAll_1 : decode b_Macros_clearAll 1 = .ok (.getfield 13, 3) := by decide +kernel
theorem d_Macros_clearAll_4 : decode b_Macros_clearAll 4 = .ok (.iconst (-1), 1) := by decide +kernel
theorem d_Macros_clearAll_5 : decode b_Macros_clearAll 5 = .ok (.invokestatic 58, 3) := by decide +kernel
theorem d_Macros_clearAll_8 : decode b_Macros_clearAll 8 = .ok (.aload_n 0, 1) := by decide +kernel
theorem d_Macros_clearAll_9 : decode b_Macros_clearAll 9 = .ok (.getfield 42, 3) := by decide +kernel
theorem d_Macros_clearAll_12 : decode b_Macros_clearAll 12 = .ok (.iconst (-1), 1) := by decide +kernel
theorem d_Macros_clearAll_13 : decode b_Macros_clearAll 13 = .ok (.invokestatic 58, 3) := by decide +kernel
theorem d_Macros_clearAll_16 : decode b_Macros_clearAll 16 = .ok (.aload_n 0, 1) := by decide +kernel
theorem d_Macros_clearAll_17 : decode b_Macros_clearAll 17 = .ok (.iconst 0, 1) := by decide +kernel
theorem d_Macros_clearAll_18 : decode b_Macros_clearAll 18 = .ok (.putfield 64, 3) := by decide +kernel
theorem d_Macros_clearAll_21 : decode b_Macros_clearAll 21 = .ok (.aload_n 0, 1) := by decide +kernel
theorem d_Macros_clearAll_22 : decode b_Macros_clearAll 22 = .ok (.iconst 0, 1) := by decide +kernel
theorem d_Macros_clearAll_23 : decode b_Macros_clearAll 23 = .ok (.putfield 68, 3) := by decide +kernel
theorem d_Macros_clearAll_26 : decode b_Macros_clearAll 26 = .ok (.aload_n 0, 1) := by decide +kernel
theorem d_Macros_clearAll_27 : decode b_Macros_clearAll 27 = .ok (.iconst 0, 1) := by decide +kernel
theorem d_Macros_clearAll_28 : decode b_Macros_clearAll 28 = .ok (.putfield 71, 3) := by decide +kernel
theorem d_Macros_clearAll_31 : decode b_Macros_clearAll 31 = .ok (.aload_n 0, 1) := by decide +kernel
theorem d_Macros_clearAll_32 : decode b_Macros_clearAll 32 = .ok (.iconst 0, 1) := by decide +kernel
theorem d_Macros_clearAll_33 : decode b_Macros_clearAll 33 = .ok (.putfield 74, 3) := by decide +kernel
theorem d_Macros_clearAll_36 : decode b_Macros_clearAll 36 = .ok (.return_, 1) := by decide +kernel
theorem d_Macros_find_0 : decode b_Macros_find 0 = .ok (.aload_n 0, 1) := by decide +kernel
theorem d_Macros_find_1 : decode b_Macros_find 1 = .ok (.getfield 13, 3) := by decide +kernel
theorem d_Macros_find_4 : decode b_Macros_find 4 = .ok (.aload_n 1, 1) := by decide +kernel
theorem d_Macros_find_5 : decode b_Macros_find 5 = .ok (.iload_n 2, 1) := by decide +kernel
theorem d_Macros_find_6 : decode b_Macros_find 6 = .ok (.iload_n 3, 1) := by decide +kernel
theorem d_Macros_find_7 : decode b_Macros_find 7 = .ok (.invokestatic 77, 3) := by decide +kernel
theorem d_Macros_find_10 : decode b_Macros_find 10 = .ok (.sipush 511, 3) := by decide +kernel
theorem d_Macros_find_13 : decode b_Macros_find 13 = .ok (.iand, 1) := by decide +kernel
theorem d_Macros_find_14 : decode b_Macros_find 14 = .ok (.iaload, 1) := by decide +kernel
theorem d_Macros_find_15 : decode b_Macros_find 15 = .ok (.istore 4, 2) := by decide +kernel
theorem d_Macros_find_17 : decode b_Macros_find 17 = .ok (.iconst 0, 1) := by decide +kernel
theorem d_Macros_find_18 : decode b_Macros_find 18 = .ok (.istore 5, 2) := by decide +kernel
theorem d_Macros_find_20 : decode b_Macros_find 20 = .ok (.iload 5, 2) := by decide +kernel
theorem d_Macros_find_22 : decode b_Macros_find 22 = .ok (.sipush 400, 3) := by decide +kernel
theorem d_Macros_find_25 : decode b_Macros_find 25 = .ok (.if_icmp .ge 70, 3) := by decide +kernel
theorem d_Macros_find_28 : decode b_Macros_find 28 = .ok (.iload 4, 2) := by decide +kernel
theorem d_Macros_find_30 : decode b_Macros_find 30 = .ok (.ifCond .lt 65, 3) := by decide +kernel
theorem d_Macros_find_95 : decode b_Macros_find 95 = .ok (.iconst (-1), 1) := by decide +kernel
theorem d_Macros_find_96 : decode b_Macros_find 96 = .ok (.ireturn, 1) := by decide +kernel
theorem d_Meanings_init_0 : decode b_Meanings_init 0 = .ok (.aload_n 0, 1) := by decide +kernel
theorem d_Meanings_init_1 : decode b_Meanings_init 1 = .ok (.invokespecial 3, 3) := by decide +kernel
theorem d_Meanings_init_4 : decode b_Meanings_init 4 = .ok (.aload_n 0, 1) := by decide +kernel
theorem d_Meanings_init_5 : decode b_Meanings_init 5 = .ok (.ldc 9, 2) := by decide +kernel
theorem d_Meanings_init_7 : decode b_Meanings_init 7 = .ok (.newarray .byte, 2) := by decide +kernel
theorem d_Meanings_init_9 : decode b_Meanings_init 9 = .ok (.putfield 10, 3) := by decide +kernel
theorem d_Meanings_init_12 : decode b_Meanings_init 12 = .ok (.aload_n 0, 1) := by decide +kernel
theorem d_Meanings_init_13 : decode b_Meanings_init 13 = .ok (.sipush 256, 3) := by decide +kernel
theorem d_Meanings_init_16 : decode b_Meanings_init 16 = .ok (.newarray .int, 2) := by decide +kernel
theorem d_Meanings_init_18 : decode b_Meanings_init 18 = .ok (.putfield 14, 3) := by decide +kernel
theorem d_Meanings_init_21 : decode b_Meanings_init 21 = .ok (.aload_n 0, 1) := by decide +kernel
theorem d_Meanings_init_22 : decode b_Meanings_init 22 = .ok (.sipush 317, 3) := by decide +kernel
theorem d_Meanings_init_25 : decode b_Meanings_init 25 = .ok (.newarray .int, 2) := by decide +kernel
theorem d_Meanings_init_27 : decode b_Meanings_init 27 = .ok (.putfield 18, 3) := by decide +kernel
theorem d_Meanings_init_30 : decode b_Meanings_init 30 = .ok (.aload_n 0, 1) := by decide +kernel
theorem d_Meanings_init_31 : decode b_Meanings_init 31 = .ok (.sipush 317, 3) := by decide +kernel
theorem d_Meanings_init_34 : decode b_Meanings_init 34 = .ok (.newarray .int, 2) := by decide +kernel
theorem d_Meanings_init_36 : decode b_Meanings_init 36 = .ok (.putfield 21, 3) := by decide +kernel
theorem d_Meanings_init_39 : decode b_Meanings_init 39 = .ok (.aload_n 0, 1) := by decide +kernel
theorem d_Meanings_init_40 : decode b_Meanings_init 40 = .ok (.sipush 317, 3) := by decide +kernel
theorem d_Meanings_init_43 : decode b_Meanings_init 43 = .ok (.newarray .int, 2) := by decide +kernel
theorem d_Meanings_init_45 : decode b_Meanings_init 45 = .ok (.putfield 24, 3) := by decide +kernel
theorem d_Meanings_init_48 : decode b_Meanings_init 48 = .ok (.aload_n 0, 1) := by decide +kernel
theorem d_Meanings_init_49 : decode b_Meanings_init 49 = .ok (.sipush 317, 3) := by decide +kernel
theorem d_Meanings_init_52 : decode b_Meanings_init 52 = .ok (.newarray .int, 2) := by decide +kernel
theorem d_Meanings_init_54 : decode b_Meanings_init 54 = .ok (.putfield 27, 3) := by decide +kernel
theorem d_Meanings_init_57 : decode b_Meanings_init 57 = .ok (.aload_n 0, 1) := by decide +kernel
theorem d_Meanings_init_58 : decode b_Meanings_init 58 = .ok (.sipush 317, 3) := by decide +kernel
theorem d_Meanings_init_61 : decode b_Meanings_init 61 = .ok (.newarray .int, 2) := by decide +kernel
theorem d_Meanings_init_63 : decode b_Meanings_init 63 = .ok (.putfield 30, 3) := by decide +kernel
theorem d_Meanings_init_66 : decode b_Meanings_init 66 = .ok (.return_, 1) := by decide +kernel
theorem d_Outcome_init_0 : decode b_Outcome_init 0 = .ok (.aload_n 0, 1) := by decide +kernel
theorem d_Outcome_init_1 : decode b_Outcome_init 1 = .ok (.invokespecial 1, 3) := by decide +kernel
theorem d_Outcome_init_4 : decode b_Outcome_init 4 = .ok (.aload_n 0, 1) := by decide +kernel
theorem d_Outcome_init_5 : decode b_Outcome_init 5 = .ok (.ldc 9, 2) := by decide +kernel
theorem d_Outcome_init_7 : decode b_Outcome_init 7 = .ok (.newarray .byte, 2) := by decide +kernel
theorem d_Outcome_init_9 : decode b_Outcome_init 9 = .ok (.putfield 10, 3) := by decide +kernel
theorem d_Outcome_init_12 : decode b_Outcome_init 12 = .ok (.return_, 1) := by decide +kernel
theorem d_Reckoner_init_0 : decode b_Reckoner_init 0 = .ok (.aload_n 0, 1) := by decide +kernel
theorem d_Reckoner_init_1 : decode b_Reckoner_init 1 = .ok (.invokespecial 1, 3) := by decide +kernel
theorem d_Reckoner_init_4 : decode b_Reckoner_init 4 = .ok (.aload_n 0, 1) := by decide +kernel
theorem d_Reckoner_init_5 : decode b_Reckoner_init 5 = .ok (.sipush 1000, 3) := by decide +kernel
theorem d_Reckoner_init_8 : decode b_Reckoner_init 8 = .ok (.newarray .long, 2) := by decide +kernel
theorem d_Reckoner_init_10 : decode b_Reckoner_init 10 = .ok (.putfield 9, 3) := by decide +kernel
theorem d_Reckoner_init_13 : decode b_Reckoner_init 13 = .ok (.aload_n 0, 1) := by decide +kernel
theorem d_Reckoner_init_14 : decode b_Reckoner_init 14 = .ok (.sipush 1000, 3) := by decide +kernel
theorem d_Reckoner_init_17 : decode b_Reckoner_init 17 = .ok (.newarray .boolean, 2) := by decide +kernel
theorem d_Reckoner_init_19 : decode b_Reckoner_init 19 = .ok (.putfield 13, 3) := by decide +kernel
theorem d_Reckoner_init_22 : decode b_Reckoner_init 22 = .ok (.aload_n 0, 1) := by decide +kernel
theorem d_Reckoner_init_23 : decode b_Reckoner_init 23 = .ok (.sipush 1000, 3) := by decide +kernel
theorem d_Reckoner_init_26 : decode b_Reckoner_init 26 = .ok (.newarray .int, 2) := by decide +kernel
theorem d_Reckoner_init_28 : decode b_Reckoner_init 28 = .ok (.putfield 17, 3) := by decide +kernel
theorem d_Reckoner_init_31 : decode b_Reckoner_init 31 = .ok (.aload_n 0, 1) := by decide +kernel
theorem d_Reckoner_init_32 : decode b_Reckoner_init 32 = .ok (.sipush 1000, 3) := by decide +kernel
theorem d_Reckoner_init_35 : decode b_Reckoner_init 35 = .ok (.newarray .int, 2) := by decide +kernel
theorem d_Reckoner_init_37 : decode b_Reckoner_init 37 = .ok (.putfield 21, 3) := by decide +kernel
theorem d_Reckoner_init_40 : decode b_Reckoner_init 40 = .ok (.aload_n 0, 1) := by decide +kernel
theorem d_Reckoner_init_41 : decode b_Reckoner_init 41 = .ok (.sipush 1000, 3) := by decide +kernel
theorem d_Reckoner_init_44 : decode b_Reckoner_init 44 = .ok (.newarray .boolean, 2) := by decide +kernel
theorem d_Reckoner_init_46 : decode b_Reckoner_init 46 = .ok (.putfield 24, 3) := by decide +kernel
theorem d_Reckoner_init_49 : decode b_Reckoner_init 49 = .ok (.return_, 1) := by decide +kernel
theorem d_Replacer_init_0 : decode b_Replacer_init 0 = .ok (.aload_n 0, 1) := by decide +kernel
theorem d_Replacer_init_1 : decode b_Replacer_init 1 = .ok (.invokespecial 7, 3) := by decide +kernel
theorem d_Replacer_init_4 : decode b_Replacer_init 4 = .ok (.aload_n 0, 1) := by decide +kernel
theorem d_Replacer_init_5 : decode b_Replacer_init 5 = .ok (.sipush 1830, 3) := by decide +kernel
theorem d_Replacer_init_8 : decode b_Replacer_init 8 = .ok (.newarray .int, 2) := by decide +kernel
theorem d_Replacer_init_10 : decode b_Replacer_init 10 = .ok (.putfield 13, 3) := by decide +kernel
theorem d_Replacer_init_13 : decode b_Replacer_init 13 = .ok (.aload_n 0, 1) := by decide +kernel
theorem d_Replacer_init_14 : decode b_Replacer_init 14 = .ok (.sipush 1830, 3) := by decide +kernel
theorem d_Replacer_init_17 : decode b_Replacer_init 17 = .ok (.newarray .int, 2) := by decide +kernel
theorem d_Replacer_init_19 : decode b_Replacer_init 19 = .ok (.putfield 17, 3) := by decide +kernel
theorem d_Replacer_init_22 : decode b_Replacer_init 22 = .ok (.aload_n 0, 1) := by decide +kernel
theorem d_Replacer_init_23 : decode b_Replacer_init 23 = .ok (.sipush 1830, 3) := by decide +kernel
theorem d_Replacer_init_26 : decode b_Replacer_init 26 = .ok (.newarray .int, 2) := by decide +kernel
theorem d_Replacer_init_28 : decode b_Replacer_init 28 = .ok (.putfield 20, 3) := by decide +kernel
theorem d_Replacer_init_31 : decode b_Replacer_init 31 = .ok (.aload_n 0, 1) := by decide +kernel
theorem d_Replacer_init_32 : decode b_Replacer_init 32 = .ok (.sipush 1830, 3) := by decide +kernel
theorem d_Replacer_init_35 : decode b_Replacer_init 35 = .ok (.newarray .int, 2) := by decide +kernel
theorem d_Replacer_init_37 : decode b_Replacer_init 37 = .ok (.putfield 23, 3) := by decide +kernel
theorem d_Replacer_init_40 : decode b_Replacer_init 40 = .ok (.aload_n 0, 1) := by decide +kernel
theorem d_Replacer_init_41 : decode b_Replacer_init 41 = .ok (.sipush 1830, 3) := by decide +kernel
theorem d_Replacer_init_44 : decode b_Replacer_init 44 = .ok (.newarray .int, 2) := by decide +kernel
theorem d_Replacer_init_46 : decode b_Replacer_init 46 = .ok (.putfield 26, 3) := by decide +kernel
theorem d_Replacer_init_49 : decode b_Replacer_init 49 = .ok (.aload_n 0, 1) := by decide +kernel
theorem d_Replacer_init_50 : decode b_Replacer_init 50 = .ok (.sipush 1830, 3) := by decide +kernel
theorem d_Replacer_init_53 : decode b_Replacer_init 53 = .ok (.newarray .int, 2) := by decide +kernel
theorem d_Replacer_init_55 : decode b_Replacer_init 55 = .ok (.putfield 29, 3) := by decide +kernel
theorem d_Replacer_init_58 : decode b_Replacer_init 58 = .ok (.aload_n 0, 1) := by decide +kernel
theorem d_Replacer_init_59 : decode b_Replacer_init 59 = .ok (.sipush 1830, 3) := by decide +kernel
theorem d_Replacer_init_62 : decode b_Replacer_init 62 = .ok (.newarray .int, 2) := by decide +kernel
theorem d_Replacer_init_64 : decode b_Replacer_init 64 = .ok (.putfield 32, 3) := by decide +kernel
theorem d_Replacer_init_67 : decode b_Replacer_init 67 = .ok (.aload_n 0, 1) := by decide +kernel
theorem d_Replacer_init_68 : decode b_Replacer_init 68 = .ok (.bipush 62, 2) := by decide +kernel
theorem d_Replacer_init_70 : decode b_Replacer_init 70 = .ok (.newarray .int, 2) := by decide +kernel
theorem d_Replacer_init_72 : decode b_Replacer_init 72 = .ok (.putfield 35, 3) := by decide +kernel
theorem d_Replacer_init_75 : decode b_Replacer_init 75 = .ok (.aload_n 0, 1) := by decide +kernel
theorem d_Replacer_init_76 : decode b_Replacer_init 76 = .ok (.bipush 62, 2) := by decide +kernel
theorem d_Replacer_init_78 : decode b_Replacer_init 78 = .ok (.newarray .int, 2) := by decide +kernel
theorem d_Replacer_init_80 : decode b_Replacer_init 80 = .ok (.putfield 38, 3) := by decide +kernel
theorem d_Replacer_init_83 : decode b_Replacer_init 83 = .ok (.aload_n 0, 1) := by decide +kernel
theorem d_Replacer_init_84 : decode b_Replacer_init 84 = .ok (.bipush 62, 2) := by decide +kernel
theorem d_Replacer_init_86 : decode b_Replacer_init 86 = .ok (.newarray .int, 2) := by decide +kernel
theorem d_Replacer_init_88 : decode b_Replacer_init 88 = .ok (.putfield 41, 3) := by decide +kernel
theorem d_Replacer_init_91 : decode b_Replacer_init 91 = .ok (.aload_n 0, 1) := by decide +kernel
theorem d_Replacer_init_92 : decode b_Replacer_init 92 = .ok (.aload_n 1, 1) := by decide +kernel
theorem d_Replacer_init_93 : decode b_Replacer_init 93 = .ok (.putfield 44, 3) := by decide +kernel
theorem d_Replacer_init_96 : decode b_Replacer_init 96 = .ok (.aload_n 0, 1) := by decide +kernel
theorem d_Replacer_init_97 : decode b_Replacer_init 97 = .ok (.aload_n 2, 1) := by decide +kernel
theorem d_Replacer_init_98 : decode b_Replacer_init 98 = .ok (.putfield 48, 3) := by decide +kernel
theorem d_Replacer_init_101 : decode b_Replacer_init 101 = .ok (.aload_n 0, 1) := by decide +kernel
theorem d_Replacer_init_102 : decode b_Replacer_init 102 = .ok (.aload_n 3, 1) := by decide +kernel
theorem d_Replacer_init_103 : decode b_Replacer_init 103 = .ok (.putfield 52, 3) := by decide +kernel
theorem d_Replacer_init_106 : decode b_Replacer_init 106 = .ok (.aload_n 0, 1) := by decide +kernel
theorem d_Replacer_init_107 : decode b_Replacer_init 107 = .ok (.aload 4, 2) := by decide +kernel
theorem d_Replacer_init_109 : decode b_Replacer_init 109 = .ok (.putfield 56, 3) := by decide +kernel
theorem d_Replacer_init_112 : decode b_Replacer_init 112 = .ok (.return_, 1) := by decide +kernel
theorem d_Second_init_0 : decode b_Second_init 0 = .ok (.aload_n 0, 1) := by decide +kernel
theorem d_Second_init_1 : decode b_Second_init 1 = .ok (.invokespecial 3, 3) := by decide +kernel
theorem d_Second_init_4 : decode b_Second_init 4 = .ok (.aload_n 0, 1) := by decide +kernel
theorem d_Second_init_5 : decode b_Second_init 5 = .ok (.new 9, 3) := by decide +kernel
theorem d_Second_init_8 : decode b_Second_init 8 = .ok (.dup, 1) := by decide +kernel
theorem d_Second_init_9 : decode b_Second_init 9 = .ok (.invokespecial 11, 3) := by decide +kernel
theorem d_Second_init_12 : decode b_Second_init 12 = .ok (.putfield 12, 3) := by decide +kernel
theorem d_Second_init_15 : decode b_Second_init 15 = .ok (.aload_n 0, 1) := by decide +kernel
theorem d_Second_init_16 : decode b_Second_init 16 = .ok (.new 18, 3) := by decide +kernel
theorem d_Second_init_19 : decode b_Second_init 19 = .ok (.dup, 1) := by decide +kernel
theorem d_Second_init_20 : decode b_Second_init 20 = .ok (.aload_n 0, 1) := by decide +kernel
theorem d_Second_init_21 : decode b_Second_init 21 = .ok (.getfield 12, 3) := by decide +kernel
theorem d_Second_init_24 : decode b_Second_init 24 = .ok (.invokespecial 20, 3) := by decide +kernel
theorem d_Second_init_27 : decode b_Second_init 27 = .ok (.putfield 23, 3) := by decide +kernel
theorem d_Second_init_30 : decode b_Second_init 30 = .ok (.aload_n 0, 1) := by decide +kernel
theorem d_Second_init_31 : decode b_Second_init 31 = .ok (.bipush 100, 2) := by decide +kernel
theorem d_Second_init_33 : decode b_Second_init 33 = .ok (.newarray .int, 2) := by decide +kernel
theorem d_Second_init_35 : decode b_Second_init 35 = .ok (.putfield 27, 3) := by decide +kernel
theorem d_Second_init_38 : decode b_Second_init 38 = .ok (.aload_n 0, 1) := by decide +kernel
theorem d_Second_init_39 : decode b_Second_init 39 = .ok (.bipush 100, 2) := by decide +kernel
theorem d_Second_init_41 : decode b_Second_init 41 = .ok (.newarray .int, 2) := by decide +kernel
theorem d_Second_init_43 : decode b_Second_init 43 = .ok (.putfield 31, 3) := by decide +kernel
theorem d_Second_init_46 : decode b_Second_init 46 = .ok (.aload_n 0, 1) := by decide +kernel
theorem d_Second_init_47 : decode b_Second_init 47 = .ok (.bipush 22, 2) := by decide +kernel
theorem d_Second_init_49 : decode b_Second_init 49 = .ok (.newarray .int, 2) := by decide +kernel
theorem d_Second_init_51 : decode b_Second_init 51 = .ok (.putfield 34, 3) := by decide +kernel
theorem d_Second_init_54 : decode b_Second_init 54 = .ok (.aload_n 0, 1) := by decide +kernel
theorem d_Second_init_55 : decode b_Second_init 55 = .ok (.bipush 30, 2) := by decide +kernel
theorem d_Second_init_57 : decode b_Second_init 57 = .ok (.newarray .int, 2) := by decide +kernel
theorem d_Second_init_59 : decode b_Second_init 59 = .ok (.putfield 37, 3) := by decide +kernel
theorem d_Second_init_62 : decode b_Second_init 62 = .ok (.aload_n 0, 1) := by decide +kernel
theorem d_Second_init_63 : decode b_Second_init 63 = .ok (.bipush 64, 2) := by decide +kernel
theorem d_Second_init_65 : decode b_Second_init 65 = .ok (.newarray .byte, 2) := by decide +kernel
theorem d_Second_init_67 : decode b_Second_init 67 = .ok (.putfield 40, 3) := by decide +kernel
theorem d_Second_init_70 : decode b_Second_init 70 = .ok (.aload_n 0, 1) := by decide +kernel
theorem d_Second_init_71 : decode b_Second_init 71 = .ok (.aload_n 1, 1) := by decide +kernel
theorem d_Second_init_72 : decode b_Second_init 72 = .ok (.putfield 44, 3) := by decide +kernel
theorem d_Second_init_75 : decode b_Second_init 75 = .ok (.aload_n 0, 1) := by decide +kernel
theorem d_Second_init_76 : decode b_Second_init 76 = .ok (.aload_n 2, 1) := by decide +kernel
theorem d_Second_init_77 : decode b_Second_init 77 = .ok (.putfield 48, 3) := by decide +kernel
theorem d_Second_init_80 : decode b_Second_init 80 = .ok (.aload_n 0, 1) := by decide +kernel
theorem d_Second_init_81 : decode b_Second_init 81 = .ok (.aload_n 3, 1) := by decide +kernel
theorem d_Second_init_82 : decode b_Second_init 82 = .ok (.putfield 52, 3) := by decide +kernel
theorem d_Second_init_85 : decode b_Second_init 85 = .ok (.aload_n 0, 1) := by decide +kernel
theorem d_Second_init_86 : decode b_Second_init 86 = .ok (.new 56, 3) := by decide +kernel
theorem d_Second_init_89 : decode b_Second_init 89 = .ok (.dup, 1) := by decide +kernel
theorem d_Second_init_90 : decode b_Second_init 90 = .ok (.aload_n 1, 1) := by decide +kernel
theorem d_Second_init_91 : decode b_Second_init 91 = .ok (.aload_n 0, 1) := by decide +kernel
theorem d_Second_init_92 : decode b_Second_init 92 = .ok (.getfield 12, 3) := by decide +kernel
theorem d_Second_init_95 : decode b_Second_init 95 = .ok (.aload_n 2, 1) := by decide +kernel
theorem d_Second_init_96 : decode b_Second_init 96 = .ok (.invokespecial 58, 3) := by decide +kernel
theorem d_Second_init_99 : decode b_Second_init 99 = .ok (.putfield 61, 3) := by decide +kernel
theorem d_Second_init_102 : decode b_Second_init 102 = .ok (.aload_n 0, 1) := by decide +kernel
theorem d_Second_init_103 : decode b_Second_init 103 = .ok (.new 65, 3) := by decide +kernel
theorem d_Second_init_106 : decode b_Second_init 106 = .ok (.dup, 1) := by decide +kernel
theorem d_Second_init_107 : decode b_Second_init 107 = .ok (.aload_n 0, 1) := by decide +kernel
theorem d_Second_init_108 : decode b_Second_init 108 = .ok (.getfield 12, 3) := by decide +kernel
theorem d_Second_init_111 : decode b_Second_init 111 = .ok (.aload_n 0, 1) := by decide +kernel
theorem d_Second_init_112 : decode b_Second_init 112 = .ok (.getfield 23, 3) := by decide +kernel
theorem d_Second_init_115 : decode b_Second_init 115 = .ok (.aload_n 0, 1) := by decide +kernel
theorem d_Second_init_116 : decode b_Second_init 116 = .ok (.getfield 61, 3) := by decide +kernel
theorem d_Second_init_119 : decode b_Second_init 119 = .ok (.aload_n 2, 1) := by decide +kernel
theorem d_Second_init_120 : decode b_Second_init 120 = .ok (.invokespecial 67, 3) := by decide +kernel
theorem d_Second_init_123 : decode b_Second_init 123 = .ok (.putfield 70, 3) := by decide +kernel
theorem d_Second_init_126 : decode b_Second_init 126 = .ok (.aload_n 0, 1) := by decide +kernel
theorem d_Second_init_127 : decode b_Second_init 127 = .ok (.invokevirtual 74, 3) := by decide +kernel
theorem d_Second_init_130 : decode b_Second_init 130 = .ok (.return_, 1) := by decide +kernel
theorem d_Second_forget_0 : decode b_Second_forget 0 = .ok (.aload_n 0, 1) := by decide +kernel
theorem d_Second_forget_1 : decode b_Second_forget 1 = .ok (.getfield 12, 3) := by decide +kernel
theorem d_Second_forget_4 : decode b_Second_forget 4 = .ok (.invokevirtual 77, 3) := by decide +kernel
theorem d_Second_forget_7 : decode b_Second_forget 7 = .ok (.aload_n 0, 1) := by decide +kernel
theorem d_Second_forget_8 : decode b_Second_forget 8 = .ok (.getfield 23, 3) := by decide +kernel
theorem d_Second_forget_11 : decode b_Second_forget 11 = .ok (.invokevirtual 80, 3) := by decide +kernel
theorem d_Second_forget_14 : decode b_Second_forget 14 = .ok (.aload_n 0, 1) := by decide +kernel
theorem d_Second_forget_15 : decode b_Second_forget 15 = .ok (.getfield 61, 3) := by decide +kernel
theorem d_Second_forget_18 : decode b_Second_forget 18 = .ok (.invokevirtual 81, 3) := by decide +kernel
theorem d_Second_forget_21 : decode b_Second_forget 21 = .ok (.aload_n 0, 1) := by decide +kernel
theorem d_Second_forget_22 : decode b_Second_forget 22 = .ok (.iconst 0, 1) := by decide +kernel
theorem d_Second_forget_23 : decode b_Second_forget 23 = .ok (.putfield 82, 3) := by decide +kernel
theorem d_Second_forget_26 : decode b_Second_forget 26 = .ok (.return_, 1) := by decide +kernel
theorem d_Tokens_init_0 : decode b_Tokens_init 0 = .ok (.aload_n 0, 1) := by decide +kernel
theorem d_Tokens_init_1 : decode b_Tokens_init 1 = .ok (.invokespecial 5, 3) := by decide +kernel
theorem d_Tokens_init_4 : decode b_Tokens_init 4 = .ok (.aload_n 0, 1) := by decide +kernel
theorem d_Tokens_init_5 : decode b_Tokens_init 5 = .ok (.ldc 11, 2) := by decide +kernel
theorem d_Tokens_init_7 : decode b_Tokens_init 7 = .ok (.newarray .byte, 2) := by decide +kernel
theorem d_Tokens_init_9 : decode b_Tokens_init 9 = .ok (.putfield 12, 3) := by decide +kernel
theorem d_Tokens_init_12 : decode b_Tokens_init 12 = .ok (.aload_n 0, 1) := by decide +kernel
theorem d_Tokens_init_13 : decode b_Tokens_init 13 = .ok (.ldc 16, 2) := by decide +kernel
theorem d_Tokens_init_15 : decode b_Tokens_init 15 = .ok (.newarray .char, 2) := by decide +kernel
theorem d_Tokens_init_17 : decode b_Tokens_init 17 = .ok (.putfield 17, 3) := by decide +kernel
theorem d_Tokens_init_20 : decode b_Tokens_init 20 = .ok (.aload_n 0, 1) := by decide +kernel
theorem d_Tokens_init_21 : decode b_Tokens_init 21 = .ok (.ldc 21, 2) := by decide +kernel
theorem d_Tokens_init_23 : decode b_Tokens_init 23 = .ok (.newarray .long, 2) := by decide +kernel
theorem d_Tokens_init_25 : decode b_Tokens_init 25 = .ok (.putfield 22, 3) := by decide +kernel
theorem d_Tokens_init_28 : decode b_Tokens_init 28 = .ok (.aload_n 0, 1) := by decide +kernel
theorem d_Tokens_init_29 : decode b_Tokens_init 29 = .ok (.ldc 21, 2) := by decide +kernel
theorem d_Tokens_init_31 : decode b_Tokens_init 31 = .ok (.newarray .int, 2) := by decide +kernel
theorem d_Tokens_init_33 : decode b_Tokens_init 33 = .ok (.putfield 26, 3) := by decide +kernel
theorem d_Tokens_init_36 : decode b_Tokens_init 36 = .ok (.aload_n 0, 1) := by decide +kernel
theorem d_Tokens_init_37 : decode b_Tokens_init 37 = .ok (.ldc 21, 2) := by decide +kernel
theorem d_Tokens_init_39 : decode b_Tokens_init 39 = .ok (.newarray .int, 2) := by decide +kernel
theorem d_Tokens_init_41 : decode b_Tokens_init 41 = .ok (.putfield 30, 3) := by decide +kernel
theorem d_Tokens_init_44 : decode b_Tokens_init 44 = .ok (.aload_n 0, 1) := by decide +kernel
theorem d_Tokens_init_45 : decode b_Tokens_init 45 = .ok (.getfield 12, 3) := by decide +kernel
theorem d_Tokens_init_48 : decode b_Tokens_init 48 = .ok (.ldc 33, 2) := by decide +kernel
theorem d_Tokens_init_50 : decode b_Tokens_init 50 = .ok (.bipush 48, 2) := by decide +kernel
theorem d_Tokens_init_52 : decode b_Tokens_init 52 = .ok (.bastore, 1) := by decide +kernel
theorem d_Tokens_init_53 : decode b_Tokens_init 53 = .ok (.aload_n 0, 1) := by decide +kernel
theorem d_Tokens_init_54 : decode b_Tokens_init 54 = .ok (.getfield 12, 3) := by decide +kernel
theorem d_Tokens_init_57 : decode b_Tokens_init 57 = .ok (.ldc 34, 2) := by decide +kernel
theorem d_Tokens_init_59 : decode b_Tokens_init 59 = .ok (.bipush 49, 2) := by decide +kernel
theorem d_Tokens_init_61 : decode b_Tokens_init 61 = .ok (.bastore, 1) := by decide +kernel
theorem d_Tokens_init_62 : decode b_Tokens_init 62 = .ok (.return_, 1) := by decide +kernel
theorem d_Tokens_clearAll_0 : decode b_Tokens_clearAll 0 = .ok (.aload_n 0, 1) := by decide +kernel
theorem d_Tokens_clearAll_1 : decode b_Tokens_clearAll 1 = .ok (.iconst 0, 1) := by decide +kernel
theorem d_Tokens_clearAll_2 : decode b_Tokens_clearAll 2 = .ok (.putfield 35, 3) := by decide +kernel
theorem d_Tokens_clearAll_5 : decode b_Tokens_clearAll 5 = .ok (.aload_n 0, 1) := by decide +kernel
theorem d_Tokens_clearAll_6 : decode b_Tokens_clearAll 6 = .ok (.iconst 0, 1) := by decide +kernel
theorem d_Tokens_clearAll_7 : decode b_Tokens_clearAll 7 = .ok (.putfield 39, 3) := by decide +kernel
theorem d_Tokens_clearAll_10 : decode b_Tokens_clearAll 10 = .ok (.aload_n 0, 1) := by decide +kernel
theorem d_Tokens_clearAll_11 : decode b_Tokens_clearAll 11 = .ok (.ldc 43, 2) := by decide +kernel
theorem d_Tokens_clearAll_13 : decode b_Tokens_clearAll 13 = .ok (.putfield 44, 3) := by decide +kernel
theorem d_Tokens_clearAll_16 : decode b_Tokens_clearAll 16 = .ok (.aload_n 0, 1) := by decide +kernel
theorem d_Tokens_clearAll_17 : decode b_Tokens_clearAll 17 = .ok (.iconst 0, 1) := by decide +kernel
theorem d_Tokens_clearAll_18 : decode b_Tokens_clearAll 18 = .ok (.putfield 47, 3) := by decide +kernel
theorem d_Tokens_clearAll_21 : decode b_Tokens_clearAll 21 = .ok (.return_, 1) := by decide +kernel
theorem d_Law_law_0 : decode b_Law_law 0 = .ok (.new 7, 3) := by decide +kernel
theorem d_Law_law_3 : decode b_Law_law 3 = .ok (.dup, 1) := by decide +kernel
theorem d_Law_law_4 : decode b_Law_law 4 = .ok (.invokespecial 9, 3) := by decide +kernel
theorem d_Law_law_7 : decode b_Law_law 7 = .ok (.astore_n 1, 1) := by decide +kernel
theorem d_Law_law_8 : decode b_Law_law 8 = .ok (.new 10, 3) := by decide +kernel
theorem d_Law_law_11 : decode b_Law_law 11 = .ok (.dup, 1) := by decide +kernel
theorem d_Law_law_12 : decode b_Law_law 12 = .ok (.invokespecial 12, 3) := by decide +kernel
theorem d_Law_law_15 : decode b_Law_law 15 = .ok (.astore_n 2, 1) := by decide +kernel
theorem d_Law_law_16 : decode b_Law_law 16 = .ok (.iconst 0, 1) := by decide +kernel
theorem d_Law_law_17 : decode b_Law_law 17 = .ok (.istore_n 3, 1) := by decide +kernel
theorem d_Law_law_18 : decode b_Law_law 18 = .ok (.iload_n 3, 1) := by decide +kernel
theorem d_Law_law_19 : decode b_Law_law 19 = .ok (.aload_n 0, 1) := by decide +kernel
theorem d_Law_law_20 : decode b_Law_law 20 = .ok (.arraylength, 1) := by decide +kernel
theorem d_Law_law_21 : decode b_Law_law 21 = .ok (.bipush 6, 2) := by decide +kernel
theorem d_Law_law_23 : decode b_Law_law 23 = .ok (.isub, 1) := by decide +kernel
theorem d_Law_law_24 : decode b_Law_law 24 = .ok (.if_icmp .gt 358, 3) := by decide +kernel
theorem d_Law_law_27 : decode b_Law_law 27 = .ok (.aload_n 0, 1) := by decide +kernel
theorem d_Law_law_28 : decode b_Law_law 28 = .ok (.iload_n 3, 1) := by decide +kernel
theorem d_Law_law_29 : decode b_Law_law 29 = .ok (.iaload, 1) := by decide +kernel
theorem d_Law_law_30 : decode b_Law_law 30 = .ok (.bipush 15, 2) := by decide +kernel
theorem d_Law_law_32 : decode b_Law_law 32 = .ok (.iand, 1) := by decide +kernel
theorem d_Law_law_33 : decode b_Law_law 33 = .ok (.tableswitch 343 0 10 #[59, 122, 145, 168, 191, 204, 257, 280, 293, 317, 330], 59) := by decide +kernel
theorem d_Law_law_92 : decode b_Law_law 92 = .ok (.aload_n 1, 1) := by decide +kernel
theorem d_Law_law_93 : decode b_Law_law 93 = .ok (.aload_n 0, 1) := by decide +kernel
theorem d_Law_law_94 : decode b_Law_law 94 = .ok (.iload_n 3, 1) := by decide +kernel
theorem d_Law_law_95 : decode b_Law_law 95 = .ok (.iconst 1, 1) := by decide +kernel
theorem d_Law_law_96 : decode b_Law_law 96 = .ok (.iadd, 1) := by decide +kernel
theorem d_Law_law_97 : decode b_Law_law 97 = .ok (.iaload, 1) := by decide +kernel
theorem d_Law_law_98 : decode b_Law_law 98 = .ok (.aload_n 0, 1) := by decide +kernel
theorem d_Law_law_99 : decode b_Law_law 99 = .ok (.iload_n 3, 1) := by decide +kernel
theorem d_Law_law_100 : decode b_Law_law 100 = .ok (.iconst 2, 1) := by decide +kernel
theorem d_Law_law_101 : decode b_Law_law 101 = .ok (.iadd, 1) := by decide +kernel
theorem d_Law_law_102 : decode b_Law_law 102 = .ok (.iaload, 1) := by decide +kernel
theorem d_Law_law_103 : decode b_Law_law 103 = .ok (.aload_n 0, 1) := by decide +kernel
theorem d_Law_law_104 : decode b_Law_law 104 = .ok (.iload_n 3, 1) := by decide +kernel
theorem d_Law_law_105 : decode b_Law_law 105 = .ok (.iconst 3, 1) := by decide +kernel
theorem d_Law_law_106 : decode b_Law_law 106 = .ok (.iadd, 1) := by decide +kernel
theorem d_Law_law_107 : decode b_Law_law 107 = .ok (.iaload, 1) := by decide +kernel
theorem d_Law_law_108 : decode b_Law_law 108 = .ok (.aload_n 0, 1) := by decide +kernel
theorem d_Law_law_109 : decode b_Law_law 109 = .ok (.iload_n 3, 1) := by decide +kernel
theorem d_Law_law_110 : decode b_Law_law 110 = .ok (.iconst 4, 1) := by decide +kernel
theorem d_Law_law_111 : decode b_Law_law 111 = .ok (.iadd, 1) := by decide +kernel
theorem d_Law_law_112 : decode b_Law_law 112 = .ok (.iaload, 1) := by decide +kernel
theorem d_Law_law_113 : decode b_Law_law 113 = .ok (.aload_n 0, 1) := by decide +kernel
theorem d_Law_law_114 : decode b_Law_law 114 = .ok (.iload_n 3, 1) := by decide +kernel
theorem d_Law_law_115 : decode b_Law_law 115 = .ok (.iconst 5, 1) := by decide +kernel
theorem d_Law_law_116 : decode b_Law_law 116 = .ok (.iadd, 1) := by decide +kernel
theorem d_Law_law_117 : decode b_Law_law 117 = .ok (.iaload, 1) := by decide +kernel
theorem d_Law_law_118 : decode b_Law_law 118 = .ok (.invokevirtual 13, 3) := by decide +kernel
theorem d_Law_law_121 : decode b_Law_law 121 = .ok (.aload_n 2, 1) := by decide +kernel
theorem d_Law_law_122 : decode b_Law_law 122 = .ok (.aload_n 0, 1) := by decide +kernel
theorem d_Law_law_123 : decode b_Law_law 123 = .ok (.iload_n 3, 1) := by decide +kernel
theorem d_Law_law_124 : decode b_Law_law 124 = .ok (.iconst 1, 1) := by decide +kernel
theorem d_Law_law_125 : decode b_Law_law 125 = .ok (.iadd, 1) := by decide +kernel
theorem d_Law_law_126 : decode b_Law_law 126 = .ok (.iaload, 1) := by decide +kernel
theorem d_Law_law_127 : decode b_Law_law 127 = .ok (.aload_n 0, 1) := by decide +kernel
theorem d_Law_law_128 : decode b_Law_law 128 = .ok (.iload_n 3, 1) := by decide +kernel
theorem d_Law_law_129 : decode b_Law_law 129 = .ok (.iconst 2, 1) := by decide +kernel
theorem d_Law_law_130 : decode b_Law_law 130 = .ok (.iadd, 1) := by decide +kernel
theorem d_Law_law_131 : decode b_Law_law 131 = .ok (.iaload, 1) := by decide +kernel
theorem d_Law_law_132 : decode b_Law_law 132 = .ok (.aload_n 0, 1) := by decide +kernel
theorem d_Law_law_133 : decode b_Law_law 133 = .ok (.iload_n 3, 1) := by decide +kernel
theorem d_Law_law_134 : decode b_Law_law 134 = .ok (.iconst 3, 1) := by decide +kernel
theorem d_Law_law_135 : decode b_Law_law 135 = .ok (.iadd, 1) := by decide +kernel
theorem d_Law_law_136 : decode b_Law_law 136 = .ok (.iaload, 1) := by decide +kernel
theorem d_Law_law_137 : decode b_Law_law 137 = .ok (.aload_n 0, 1) := by decide +kernel
theorem d_Law_law_138 : decode b_Law_law 138 = .ok (.iload_n 3, 1) := by decide +kernel
theorem d_Law_law_139 : decode b_Law_law 139 = .ok (.iconst 4, 1) := by decide +kernel
theorem d_Law_law_140 : decode b_Law_law 140 = .ok (.iadd, 1) := by decide +kernel
theorem d_Law_law_141 : decode b_Law_law 141 = .ok (.iaload, 1) := by decide +kernel
theorem d_Law_law_142 : decode b_Law_law 142 = .ok (.aload_n 0, 1) := by decide +kernel
theorem d_Law_law_143 : decode b_Law_law 143 = .ok (.iload_n 3, 1) := by decide +kernel
theorem d_Law_law_144 : decode b_Law_law 144 = .ok (.iconst 5, 1) := by decide +kernel
theorem d_Law_law_145 : decode b_Law_law 145 = .ok (.iadd, 1) := by decide +kernel
theorem d_Law_law_146 : decode b_Law_law 146 = .ok (.iaload, 1) := by decide +kernel
theorem d_Law_law_147 : decode b_Law_law 147 = .ok (.invokevirtual 17, 3) := by decide +kernel
theorem d_Law_law_150 : decode b_Law_law 150 = .ok (.if_icmp .eq 226, 3) := by decide +kernel
theorem d_Law_law_155 : decode b_Law_law 155 = .ok (.aload_n 1, 1) := by decide +kernel
theorem d_Law_law_156 : decode b_Law_law 156 = .ok (.aload_n 0, 1) := by decide +kernel
theorem d_Law_law_157 : decode b_Law_law 157 = .ok (.iload_n 3, 1) := by decide +kernel
theorem d_Law_law_158 : decode b_Law_law 158 = .ok (.iconst 1, 1) := by decide +kernel
theorem d_Law_law_159 : decode b_Law_law 159 = .ok (.iadd, 1) := by decide +kernel
theorem d_Law_law_160 : decode b_Law_law 160 = .ok (.iaload, 1) := by decide +kernel
theorem d_Law_law_161 : decode b_Law_law 161 = .ok (.invokevirtual 18, 3) := by decide +kernel
theorem d_Law_law_164 : decode b_Law_law 164 = .ok (.aload_n 2, 1) := by decide +kernel
theorem d_Law_law_165 : decode b_Law_law 165 = .ok (.aload_n 0, 1) := by decide +kernel
theorem d_Law_law_166 : decode b_Law_law 166 = .ok (.iload_n 3, 1) := by decide +kernel
theorem d_Law_law_167 : decode b_Law_law 167 = .ok (.iconst 1, 1) := by decide +kernel
theorem d_Law_law_168 : decode b_Law_law 168 = .ok (.iadd, 1) := by decide +kernel
theorem d_Law_law_169 : decode b_Law_law 169 = .ok (.iaload, 1) := by decide +kernel
theorem d_Law_law_170 : decode b_Law_law 170 = .ok (.invokevirtual 22, 3) := by decide +kernel
theorem d_Law_law_173 : decode b_Law_law 173 = .ok (.if_icmp .eq 203, 3) := by decide +kernel
theorem d_Law_law_178 : decode b_Law_law 178 = .ok (.aload_n 1, 1) := by decide +kernel
theorem d_Law_law_179 : decode b_Law_law 179 = .ok (.aload_n 0, 1) := by decide +kernel
theorem d_Law_law_180 : decode b_Law_law 180 = .ok (.iload_n 3, 1) := by decide +kernel
theorem d_Law_law_181 : decode b_Law_law 181 = .ok (.iconst 1, 1) := by decide +kernel
theorem d_Law_law_182 : decode b_Law_law 182 = .ok (.iadd, 1) := by decide +kernel
theorem d_Law_law_183 : decode b_Law_law 183 = .ok (.iaload, 1) := by decide +kernel
theorem d_Law_law_184 : decode b_Law_law 184 = .ok (.invokevirtual 23, 3) := by decide +kernel
theorem d_Law_law_187 : decode b_Law_law 187 = .ok (.aload_n 2, 1) := by decide +kernel
theorem d_Law_law_188 : decode b_Law_law 188 = .ok (.aload_n 0, 1) := by decide +kernel
theorem d_Law_law_189 : decode b_Law_law 189 = .ok (.iload_n 3, 1) := by decide +kernel
theorem d_Law_law_190 : decode b_Law_law 190 = .ok (.iconst 1, 1) := by decide +kernel
theorem d_Law_law_191 : decode b_Law_law 191 = .ok (.iadd, 1) := by decide +kernel
theorem d_Law_law_192 : decode b_Law_law 192 = .ok (.iaload, 1) := by decide +kernel
theorem d_Law_law_193 : decode b_Law_law 193 = .ok (.invokevirtual 26, 3) := by decide +kernel
theorem d_Law_law_196 : decode b_Law_law 196 = .ok (.if_icmp .eq 180, 3) := by decide +kernel
theorem d_Law_law_201 : decode b_Law_law 201 = .ok (.aload_n 1, 1) := by decide +kernel
theorem d_Law_law_202 : decode b_Law_law 202 = .ok (.aload_n 0, 1) := by decide +kernel
theorem d_Law_law_203 : decode b_Law_law 203 = .ok (.iload_n 3, 1) := by decide +kernel
theorem d_Law_law_204 : decode b_Law_law 204 = .ok (.iconst 1, 1) := by decide +kernel
theorem d_Law_law_205 : decode b_Law_law 205 = .ok (.iadd, 1) := by decide +kernel
theorem d_Law_law_206 : decode b_Law_law 206 = .ok (.iaload, 1) := by decide +kernel
theorem d_Law_law_207 : decode b_Law_law 207 = .ok (.invokevirtual 27, 3) := by decide +kernel
theorem d_Law_law_210 : decode b_Law_law 210 = .ok (.aload_n 2, 1) := by decide +kernel
end
section
theorem d_Law_law_211 : decode b_Law_law 211 = .ok (.aload_n 0, 1) := by decide +kernel
theorem d_Law_law_212 : decode b_Law_law 212 = .ok (.iload_n 3, 1) := by decide +kernel
theorem d_Law_law_213 : decode b_Law_law 213 = .ok (.iconst 1, 1) := by decide +kernel
theorem d_Law_law_214 : decode b_Law_law 214 = .ok (.iadd, 1) := by decide +kernel
theorem d_Law_law_215 : decode b_Law_law 215 = .ok (.iaload, 1) := by decide +kernel
theorem d_Law_law_216 : decode b_Law_law 216 = .ok (.invokevirtual 30, 3) := by decide +kernel
theorem d_Law_law_219 : decode b_Law_law 219 = .ok (.if_icmp .eq 157, 3) := by decide +kernel
theorem d_Law_law_224 : decode b_Law_law 224 = .ok (.aload_n 1, 1) := by decide +kernel
theorem d_Law_law_225 : decode b_Law_law 225 = .ok (.invokevirtual 31, 3) := by decide +kernel
theorem d_Law_law_228 : decode b_Law_law 228 = .ok (.aload_n 2, 1) := by decide +kernel
theorem d_Law_law_229 : decode b_Law_law 229 = .ok (.invokevirtual 35, 3) := by decide +kernel
theorem d_Law_law_232 : decode b_Law_law 232 = .ok (.if_icmp .eq 144, 3) := by decide +kernel
theorem d_Law_law_237 : decode b_Law_law 237 = .ok (.aload_n 1, 1) := by decide +kernel
theorem d_Law_law_238 : decode b_Law_law 238 = .ok (.aload_n 0, 1) := by decide +kernel
theorem d_Law_law_239 : decode b_Law_law 239 = .ok (.iload_n 3, 1) := by decide +kernel
theorem d_Law_law_240 : decode b_Law_law 240 = .ok (.iconst 1, 1) := by decide +kernel
theorem d_Law_law_241 : decode b_Law_law 241 = .ok (.iadd, 1) := by decide +kernel
theorem d_Law_law_242 : decode b_Law_law 242 = .ok (.iaload, 1) := by decide +kernel
theorem d_Law_law_243 : decode b_Law_law 243 = .ok (.aload_n 0, 1) := by decide +kernel
theorem d_Law_law_244 : decode b_Law_law 244 = .ok (.iload_n 3, 1) := by decide +kernel
theorem d_Law_law_245 : decode b_Law_law 245 = .ok (.iconst 2, 1) := by decide +kernel
theorem d_Law_law_246 : decode b_Law_law 246 = .ok (.iadd, 1) := by decide +kernel
theorem d_Law_law_247 : decode b_Law_law 247 = .ok (.iaload, 1) := by decide +kernel
theorem d_Law_law_248 : decode b_Law_law 248 = .ok (.aload_n 0, 1) := by decide +kernel
theorem d_Law_law_249 : decode b_Law_law 249 = .ok (.iload_n 3, 1) := by decide +kernel
theorem d_Law_law_250 : decode b_Law_law 250 = .ok (.iconst 3, 1) := by decide +kernel
theorem d_Law_law_251 : decode b_Law_law 251 = .ok (.iadd, 1) := by decide +kernel
theorem d_Law_law_252 : decode b_Law_law 252 = .ok (.iaload, 1) := by decide +kernel
theorem d_Law_law_253 : decode b_Law_law 253 = .ok (.aload_n 0, 1) := by decide +kernel
theorem d_Law_law_254 : decode b_Law_law 254 = .ok (.iload_n 3, 1) := by decide +kernel
theorem d_Law_law_255 : decode b_Law_law 255 = .ok (.iconst 4, 1) := by decide +kernel
theorem d_Law_law_256 : decode b_Law_law 256 = .ok (.iadd, 1) := by decide +kernel
theorem d_Law_law_257 : decode b_Law_law 257 = .ok (.iaload, 1) := by decide +kernel
theorem d_Law_law_258 : decode b_Law_law 258 = .ok (.invokevirtual 36, 3) := by decide +kernel
theorem d_Law_law_261 : decode b_Law_law 261 = .ok (.aload_n 2, 1) := by decide +kernel
theorem d_Law_law_262 : decode b_Law_law 262 = .ok (.aload_n 0, 1) := by decide +kernel
theorem d_Law_law_263 : decode b_Law_law 263 = .ok (.iload_n 3, 1) := by decide +kernel
theorem d_Law_law_264 : decode b_Law_law 264 = .ok (.iconst 1, 1) := by decide +kernel
theorem d_Law_law_265 : decode b_Law_law 265 = .ok (.iadd, 1) := by decide +kernel
theorem d_Law_law_266 : decode b_Law_law 266 = .ok (.iaload, 1) := by decide +kernel
theorem d_Law_law_267 : decode b_Law_law 267 = .ok (.aload_n 0, 1) := by decide +kernel
theorem d_Law_law_268 : decode b_Law_law 268 = .ok (.iload_n 3, 1) := by decide +kernel
theorem d_Law_law_269 : decode b_Law_law 269 = .ok (.iconst 2, 1) := by decide +kernel
theorem d_Law_law_270 : decode b_Law_law 270 = .ok (.iadd, 1) := by decide +kernel
theorem d_Law_law_271 : decode b_Law_law 271 = .ok (.iaload, 1) := by decide +kernel
theorem d_Law_law_272 : decode b_Law_law 272 = .ok (.aload_n 0, 1) := by decide +kernel
theorem d_Law_law_273 : decode b_Law_law 273 = .ok (.iload_n 3, 1) := by decide +kernel
theorem d_Law_law_274 : decode b_Law_law 274 = .ok (.iconst 3, 1) := by decide +kernel
theorem d_Law_law_275 : decode b_Law_law 275 = .ok (.iadd, 1) := by decide +kernel
theorem d_Law_law_276 : decode b_Law_law 276 = .ok (.iaload, 1) := by decide +kernel
theorem d_Law_law_277 : decode b_Law_law 277 = .ok (.aload_n 0, 1) := by decide +kernel
theorem d_Law_law_278 : decode b_Law_law 278 = .ok (.iload_n 3, 1) := by decide +kernel
theorem d_Law_law_279 : decode b_Law_law 279 = .ok (.iconst 4, 1) := by decide +kernel
theorem d_Law_law_280 : decode b_Law_law 280 = .ok (.iadd, 1) := by decide +kernel
theorem d_Law_law_281 : decode b_Law_law 281 = .ok (.iaload, 1) := by decide +kernel
theorem d_Law_law_282 : decode b_Law_law 282 = .ok (.invokevirtual 40, 3) := by decide +kernel
theorem d_Law_law_285 : decode b_Law_law 285 = .ok (.if_icmp .eq 91, 3) := by decide +kernel
theorem d_Law_law_290 : decode b_Law_law 290 = .ok (.aload_n 1, 1) := by decide +kernel
theorem d_Law_law_291 : decode b_Law_law 291 = .ok (.aload_n 0, 1) := by decide +kernel
theorem d_Law_law_292 : decode b_Law_law 292 = .ok (.iload_n 3, 1) := by decide +kernel
theorem d_Law_law_293 : decode b_Law_law 293 = .ok (.iconst 1, 1) := by decide +kernel
theorem d_Law_law_294 : decode b_Law_law 294 = .ok (.iadd, 1) := by decide +kernel
theorem d_Law_law_295 : decode b_Law_law 295 = .ok (.iaload, 1) := by decide +kernel
theorem d_Law_law_296 : decode b_Law_law 296 = .ok (.invokevirtual 41, 3) := by decide +kernel
theorem d_Law_law_299 : decode b_Law_law 299 = .ok (.aload_n 2, 1) := by decide +kernel
theorem d_Law_law_300 : decode b_Law_law 300 = .ok (.aload_n 0, 1) := by decide +kernel
theorem d_Law_law_301 : decode b_Law_law 301 = .ok (.iload_n 3, 1) := by decide +kernel
theorem d_Law_law_302 : decode b_Law_law 302 = .ok (.iconst 1, 1) := by decide +kernel
theorem d_Law_law_303 : decode b_Law_law 303 = .ok (.iadd, 1) := by decide +kernel
theorem d_Law_law_304 : decode b_Law_law 304 = .ok (.iaload, 1) := by decide +kernel
theorem d_Law_law_305 : decode b_Law_law 305 = .ok (.invokevirtual 44, 3) := by decide +kernel
theorem d_Law_law_308 : decode b_Law_law 308 = .ok (.if_icmp .eq 68, 3) := by decide +kernel
theorem d_Law_law_313 : decode b_Law_law 313 = .ok (.aload_n 1, 1) := by decide +kernel
theorem d_Law_law_314 : decode b_Law_law 314 = .ok (.invokevirtual 45, 3) := by decide +kernel
theorem d_Law_law_317 : decode b_Law_law 317 = .ok (.aload_n 2, 1) := by decide +kernel
theorem d_Law_law_318 : decode b_Law_law 318 = .ok (.invokevirtual 48, 3) := by decide +kernel
theorem d_Law_law_321 : decode b_Law_law 321 = .ok (.if_icmp .eq 55, 3) := by decide +kernel
theorem d_Law_law_326 : decode b_Law_law 326 = .ok (.aload_n 1, 1) := by decide +kernel
theorem d_Law_law_327 : decode b_Law_law 327 = .ok (.aload_n 0, 1) := by decide +kernel
theorem d_Law_law_328 : decode b_Law_law 328 = .ok (.iload_n 3, 1) := by decide +kernel
theorem d_Law_law_329 : decode b_Law_law 329 = .ok (.iconst 1, 1) := by decide +kernel
theorem d_Law_law_330 : decode b_Law_law 330 = .ok (.iadd, 1) := by decide +kernel
theorem d_Law_law_331 : decode b_Law_law 331 = .ok (.iaload, 1) := by decide +kernel
theorem d_Law_law_332 : decode b_Law_law 332 = .ok (.invokevirtual 49, 3) := by decide +kernel
theorem d_Law_law_335 : decode b_Law_law 335 = .ok (.aload_n 2, 1) := by decide +kernel
theorem d_Law_law_336 : decode b_Law_law 336 = .ok (.aload_n 0, 1) := by decide +kernel
theorem d_Law_law_337 : decode b_Law_law 337 = .ok (.iload_n 3, 1) := by decide +kernel
theorem d_Law_law_338 : decode b_Law_law 338 = .ok (.iconst 1, 1) := by decide +kernel
theorem d_Law_law_339 : decode b_Law_law 339 = .ok (.iadd, 1) := by decide +kernel
theorem d_Law_law_340 : decode b_Law_law 340 = .ok (.iaload, 1) := by decide +kernel
theorem d_Law_law_341 : decode b_Law_law 341 = .ok (.invokevirtual 53, 3) := by decide +kernel
theorem d_Law_law_344 : decode b_Law_law 344 = .ok (.lcmp, 1) := by decide +kernel
theorem d_Law_law_345 : decode b_Law_law 345 = .ok (.ifCond .eq 31, 3) := by decide +kernel
theorem d_Law_law_350 : decode b_Law_law 350 = .ok (.aload_n 1, 1) := by decide +kernel
theorem d_Law_law_351 : decode b_Law_law 351 = .ok (.invokevirtual 54, 3) := by decide +kernel
theorem d_Law_law_354 : decode b_Law_law 354 = .ok (.aload_n 2, 1) := by decide +kernel
theorem d_Law_law_355 : decode b_Law_law 355 = .ok (.invokevirtual 57, 3) := by decide +kernel
theorem d_Law_law_358 : decode b_Law_law 358 = .ok (.if_icmp .eq 18, 3) := by decide +kernel
theorem d_Law_law_363 : decode b_Law_law 363 = .ok (.aload_n 1, 1) := by decide +kernel
theorem d_Law_law_364 : decode b_Law_law 364 = .ok (.invokevirtual 58, 3) := by decide +kernel
theorem d_Law_law_367 : decode b_Law_law 367 = .ok (.aload_n 2, 1) := by decide +kernel
theorem d_Law_law_368 : decode b_Law_law 368 = .ok (.invokevirtual 61, 3) := by decide +kernel
theorem d_Law_law_371 : decode b_Law_law 371 = .ok (.if_icmp .eq 5, 3) := by decide +kernel
theorem d_Law_law_376 : decode b_Law_law 376 = .ok (.iinc 3 6, 3) := by decide +kernel
theorem d_Law_law_379 : decode b_Law_law 379 = .ok (.goto (-361), 3) := by decide +kernel
theorem d_Law_law_382 : decode b_Law_law 382 = .ok (.iconst 1, 1) := by decide +kernel
theorem d_Law_law_383 : decode b_Law_law 383 = .ok (.ireturn, 1) := by decide +kernel
theorem d_Mod_init_0 : decode b_Mod_init 0 = .ok (.aload_n 0, 1) := by decide +kernel
theorem d_Mod_init_1 : decode b_Mod_init 1 = .ok (.invokespecial 1, 3) := by decide +kernel
theorem d_Mod_init_4 : decode b_Mod_init 4 = .ok (.aload_n 0, 1) := by decide +kernel
theorem d_Mod_init_5 : decode b_Mod_init 5 = .ok (.sipush 16384, 3) := by decide +kernel
theorem d_Mod_init_8 : decode b_Mod_init 8 = .ok (.newarray .byte, 2) := by decide +kernel
theorem d_Mod_init_10 : decode b_Mod_init 10 = .ok (.putfield 9, 3) := by decide +kernel
theorem d_Mod_init_13 : decode b_Mod_init 13 = .ok (.aload_n 0, 1) := by decide +kernel
theorem d_Mod_init_14 : decode b_Mod_init 14 = .ok (.sipush 2048, 3) := by decide +kernel
theorem d_Mod_init_17 : decode b_Mod_init 17 = .ok (.newarray .byte, 2) := by decide +kernel
theorem d_Mod_init_19 : decode b_Mod_init 19 = .ok (.putfield 13, 3) := by decide +kernel
theorem d_Mod_init_22 : decode b_Mod_init 22 = .ok (.aload_n 0, 1) := by decide +kernel
theorem d_Mod_init_23 : decode b_Mod_init 23 = .ok (.bipush 32, 2) := by decide +kernel
theorem d_Mod_init_25 : decode b_Mod_init 25 = .ok (.newarray .int, 2) := by decide +kernel
theorem d_Mod_init_27 : decode b_Mod_init 27 = .ok (.putfield 16, 3) := by decide +kernel
theorem d_Mod_init_30 : decode b_Mod_init 30 = .ok (.aload_n 0, 1) := by decide +kernel
theorem d_Mod_init_31 : decode b_Mod_init 31 = .ok (.ldc 20, 2) := by decide +kernel
theorem d_Mod_init_33 : decode b_Mod_init 33 = .ok (.newarray .byte, 2) := by decide +kernel
theorem d_Mod_init_35 : decode b_Mod_init 35 = .ok (.putfield 21, 3) := by decide +kernel
theorem d_Mod_init_38 : decode b_Mod_init 38 = .ok (.aload_n 0, 1) := by decide +kernel
theorem d_Mod_init_39 : decode b_Mod_init 39 = .ok (.bipush 32, 2) := by decide +kernel
theorem d_Mod_init_41 : decode b_Mod_init 41 = .ok (.newarray .int, 2) := by decide +kernel
theorem d_Mod_init_43 : decode b_Mod_init 43 = .ok (.putfield 24, 3) := by decide +kernel
theorem d_Mod_init_46 : decode b_Mod_init 46 = .ok (.aload_n 0, 1) := by decide +kernel
theorem d_Mod_init_47 : decode b_Mod_init 47 = .ok (.bipush 32, 2) := by decide +kernel
theorem d_Mod_init_49 : decode b_Mod_init 49 = .ok (.newarray .int, 2) := by decide +kernel
theorem d_Mod_init_51 : decode b_Mod_init 51 = .ok (.putfield 27, 3) := by decide +kernel
theorem d_Mod_init_54 : decode b_Mod_init 54 = .ok (.aload_n 0, 1) := by decide +kernel
theorem d_Mod_init_55 : decode b_Mod_init 55 = .ok (.ldc 30, 2) := by decide +kernel
theorem d_Mod_init_57 : decode b_Mod_init 57 = .ok (.newarray .byte, 2) := by decide +kernel
theorem d_Mod_init_59 : decode b_Mod_init 59 = .ok (.putfield 31, 3) := by decide +kernel
theorem d_Mod_init_62 : decode b_Mod_init 62 = .ok (.aload_n 0, 1) := by decide +kernel
theorem d_Mod_init_63 : decode b_Mod_init 63 = .ok (.ldc 20, 2) := by decide +kernel
theorem d_Mod_init_65 : decode b_Mod_init 65 = .ok (.newarray .byte, 2) := by decide +kernel
theorem d_Mod_init_67 : decode b_Mod_init 67 = .ok (.putfield 34, 3) := by decide +kernel
theorem d_Mod_init_70 : decode b_Mod_init 70 = .ok (.aload_n 0, 1) := by decide +kernel
theorem d_Mod_init_71 : decode b_Mod_init 71 = .ok (.iconst 4, 1) := by decide +kernel
theorem d_Mod_init_72 : decode b_Mod_init 72 = .ok (.newarray .int, 2) := by decide +kernel
theorem d_Mod_init_74 : decode b_Mod_init 74 = .ok (.putfield 37, 3) := by decide +kernel
theorem d_Mod_init_77 : decode b_Mod_init 77 = .ok (.aload_n 0, 1) := by decide +kernel
theorem d_Mod_init_78 : decode b_Mod_init 78 = .ok (.iconst 4, 1) := by decide +kernel
theorem d_Mod_init_79 : decode b_Mod_init 79 = .ok (.newarray .int, 2) := by decide +kernel
theorem d_Mod_init_81 : decode b_Mod_init 81 = .ok (.putfield 40, 3) := by decide +kernel
theorem d_Mod_init_84 : decode b_Mod_init 84 = .ok (.aload_n 0, 1) := by decide +kernel
theorem d_Mod_init_85 : decode b_Mod_init 85 = .ok (.ldc 20, 2) := by decide +kernel
theorem d_Mod_init_87 : decode b_Mod_init 87 = .ok (.newarray .byte, 2) := by decide +kernel
theorem d_Mod_init_89 : decode b_Mod_init 89 = .ok (.putfield 43, 3) := by decide +kernel
theorem d_Mod_init_92 : decode b_Mod_init 92 = .ok (.aload_n 0, 1) := by decide +kernel
theorem d_Mod_init_93 : decode b_Mod_init 93 = .ok (.ldc 46, 2) := by decide +kernel
theorem d_Mod_init_95 : decode b_Mod_init 95 = .ok (.newarray .byte, 2) := by decide +kernel
theorem d_Mod_init_97 : decode b_Mod_init 97 = .ok (.putfield 47, 3) := by decide +kernel
theorem d_Mod_init_100 : decode b_Mod_init 100 = .ok (.aload_n 0, 1) := by decide +kernel
theorem d_Mod_init_101 : decode b_Mod_init 101 = .ok (.sipush 340, 3) := by decide +kernel
theorem d_Mod_init_104 : decode b_Mod_init 104 = .ok (.newarray .int, 2) := by decide +kernel
theorem d_Mod_init_106 : decode b_Mod_init 106 = .ok (.putfield 50, 3) := by decide +kernel
theorem d_Mod_init_109 : decode b_Mod_init 109 = .ok (.aload_n 0, 1) := by decide +kernel
theorem d_Mod_init_110 : decode b_Mod_init 110 = .ok (.sipush 340, 3) := by decide +kernel
theorem d_Mod_init_113 : decode b_Mod_init 113 = .ok (.newarray .int, 2) := by decide +kernel
theorem d_Mod_init_115 : decode b_Mod_init 115 = .ok (.putfield 53, 3) := by decide +kernel
theorem d_Mod_init_118 : decode b_Mod_init 118 = .ok (.aload_n 0, 1) := by decide +kernel
theorem d_Mod_init_119 : decode b_Mod_init 119 = .ok (.sipush 340, 3) := by decide +kernel
theorem d_Mod_init_122 : decode b_Mod_init 122 = .ok (.newarray .int, 2) := by decide +kernel
theorem d_Mod_init_124 : decode b_Mod_init 124 = .ok (.putfield 56, 3) := by decide +kernel
theorem d_Mod_init_127 : decode b_Mod_init 127 = .ok (.aload_n 0, 1) := by decide +kernel
theorem d_Mod_init_128 : decode b_Mod_init 128 = .ok (.sipush 340, 3) := by decide +kernel
theorem d_Mod_init_131 : decode b_Mod_init 131 = .ok (.newarray .int, 2) := by decide +kernel
theorem d_Mod_init_133 : decode b_Mod_init 133 = .ok (.putfield 59, 3) := by decide +kernel
theorem d_Mod_init_136 : decode b_Mod_init 136 = .ok (.aload_n 0, 1) := by decide +kernel
theorem d_Mod_init_137 : decode b_Mod_init 137 = .ok (.sipush 16684, 3) := by decide +kernel
theorem d_Mod_init_140 : decode b_Mod_init 140 = .ok (.newarray .byte, 2) := by decide +kernel
theorem d_Mod_init_142 : decode b_Mod_init 142 = .ok (.putfield 62, 3) := by decide +kernel
theorem d_Mod_init_145 : decode b_Mod_init 145 = .ok (.aload_n 0, 1) := by decide +kernel
theorem d_Mod_init_146 : decode b_Mod_init 146 = .ok (.ldc 65, 2) := by decide +kernel
theorem d_Mod_init_148 : decode b_Mod_init 148 = .ok (.newarray .byte, 2) := by decide +kernel
theorem d_Mod_init_150 : decode b_Mod_init 150 = .ok (.putfield 66, 3) := by decide +kernel
theorem d_Mod_init_153 : decode b_Mod_init 153 = .ok (.aload_n 0, 1) := by decide +kernel
theorem d_Mod_init_154 : decode b_Mod_init 154 = .ok (.bipush 10, 2) := by decide +kernel
theorem d_Mod_init_156 : decode b_Mod_init 156 = .ok (.newarray .int, 2) := by decide +kernel
theorem d_Mod_init_158 : decode b_Mod_init 158 = .ok (.putfield 69, 3) := by decide +kernel
theorem d_Mod_init_161 : decode b_Mod_init 161 = .ok (.aload_n 0, 1) := by decide +kernel
theorem d_Mod_init_162 : decode b_Mod_init 162 = .ok (.sipush 16385, 3) := by decide +kernel
theorem d_Mod_init_165 : decode b_Mod_init 165 = .ok (.newarray .byte, 2) := by decide +kernel
theorem d_Mod_init_167 : decode b_Mod_init 167 = .ok (.putfield 72, 3) := by decide +kernel
theorem d_Mod_init_170 : decode b_Mod_init 170 = .ok (.aload_n 0, 1) := by decide +kernel
theorem d_Mod_init_171 : decode b_Mod_init 171 = .ok (.sipush 8300, 3) := by decide +kernel
theorem d_Mod_init_174 : decode b_Mod_init 174 = .ok (.newarray .int, 2) := by decide +kernel
theorem d_Mod_init_176 : decode b_Mod_init 176 = .ok (.putfield 75, 3) := by decide +kernel
theorem d_Mod_init_179 : decode b_Mod_init 179 = .ok (.aload_n 0, 1) := by decide +kernel
theorem d_Mod_init_180 : decode b_Mod_init 180 = .ok (.sipush 400, 3) := by decide +kernel
theorem d_Mod_init_183 : decode b_Mod_init 183 = .ok (.newarray .int, 2) := by decide +kernel
theorem d_Mod_init_185 : decode b_Mod_init 185 = .ok (.putfield 78, 3) := by decide +kernel
theorem d_Mod_init_188 : decode b_Mod_init 188 = .ok (.aload_n 0, 1) := by decide +kernel
theorem d_Mod_init_189 : decode b_Mod_init 189 = .ok (.sipush 400, 3) := by decide +kernel
theorem d_Mod_init_192 : decode b_Mod_init 192 = .ok (.newarray .int, 2) := by decide +kernel
theorem d_Mod_init_194 : decode b_Mod_init 194 = .ok (.putfield 81, 3) := by decide +kernel
theorem d_Mod_init_197 : decode b_Mod_init 197 = .ok (.aload_n 0, 1) := by decide +kernel
theorem d_Mod_init_198 : decode b_Mod_init 198 = .ok (.ldc 84, 2) := by decide +kernel
theorem d_Mod_init_200 : decode b_Mod_init 200 = .ok (.newarray .byte, 2) := by decide +kernel
theorem d_Mod_init_202 : decode b_Mod_init 202 = .ok (.putfield 85, 3) := by decide +kernel
theorem d_Mod_init_205 : decode b_Mod_init 205 = .ok (.aload_n 0, 1) := by decide +kernel
theorem d_Mod_init_206 : decode b_Mod_init 206 = .ok (.ldc 88, 2) := by decide +kernel
theorem d_Mod_init_208 : decode b_Mod_init 208 = .ok (.newarray .int, 2) := by decide +kernel
theorem d_Mod_init_210 : decode b_Mod_init 210 = .ok (.putfield 89, 3) := by decide +kernel
theorem d_Mod_init_213 : decode b_Mod_init 213 = .ok (.aload_n 0, 1) := by decide +kernel
theorem d_Mod_init_214 : decode b_Mod_init 214 = .ok (.bipush 32, 2) := by decide +kernel
theorem d_Mod_init_216 : decode b_Mod_init 216 = .ok (.newarray .int, 2) := by decide +kernel
theorem d_Mod_init_218 : decode b_Mod_init 218 = .ok (.putfield 92, 3) := by decide +kernel
theorem d_Mod_init_221 : decode b_Mod_init 221 = .ok (.aload_n 0, 1) := by decide +kernel
theorem d_Mod_init_222 : decode b_Mod_init 222 = .ok (.bipush 32, 2) := by decide +kernel
theorem d_Mod_init_224 : decode b_Mod_init 224 = .ok (.newarray .int, 2) := by decide +kernel
theorem d_Mod_init_226 : decode b_Mod_init 226 = .ok (.putfield 95, 3) := by decide +kernel
theorem d_Mod_init_229 : decode b_Mod_init 229 = .ok (.aload_n 0, 1) := by decide +kernel
theorem d_Mod_init_230 : decode b_Mod_init 230 = .ok (.ldc 98, 2) := by decide +kernel
theorem d_Mod_init_232 : decode b_Mod_init 232 = .ok (.newarray .int, 2) := by decide +kernel
theorem d_Mod_init_234 : decode b_Mod_init 234 = .ok (.putfield 99, 3) := by decide +kernel
theorem d_Mod_init_237 : decode b_Mod_init 237 = .ok (.aload_n 0, 1) := by decide +kernel
theorem d_Mod_init_238 : decode b_Mod_init 238 = .ok (.ldc 98, 2) := by decide +kernel
theorem d_Mod_init_240 : decode b_Mod_init 240 = .ok (.newarray .int, 2) := by decide +kernel
theorem d_Mod_init_242 : decode b_Mod_init 242 = .ok (.putfield 102, 3) := by decide +kernel
theorem d_Mod_init_245 : decode b_Mod_init 245 = .ok (.aload_n 0, 1) := by decide +kernel
theorem d_Mod_init_246 : decode b_Mod_init 246 = .ok (.ldc 98, 2) := by decide +kernel
theorem d_Mod_init_248 : decode b_Mod_init 248 = .ok (.newarray .int, 2) := by decide +kernel
theorem d_Mod_init_250 : decode b_Mod_init 250 = .ok (.putfield 105, 3) := by decide +kernel
theorem d_Mod_init_253 : decode b_Mod_init 253 = .ok (.aload_n 0, 1) := by decide +kernel
theorem d_Mod_init_254 : decode b_Mod_init 254 = .ok (.ldc 98, 2) := by decide +kernel
theorem d_Mod_init_256 : decode b_Mod_init 256 = .ok (.newarray .int, 2) := by decide +kernel
theorem d_Mod_init_258 : decode b_Mod_init 258 = .ok (.putfield 108, 3) := by decide +kernel
theorem d_Mod_init_261 : decode b_Mod_init 261 = .ok (.aload_n 0, 1) := by decide +kernel
theorem d_Mod_init_262 : decode b_Mod_init 262 = .ok (.ldc 98, 2) := by decide +kernel
theorem d_Mod_init_264 : decode b_Mod_init 264 = .ok (.newarray .int, 2) := by decide +kernel
theorem d_Mod_init_266 : decode b_Mod_init 266 = .ok (.putfield 111, 3) := by decide +kernel
theorem d_Mod_init_269 : decode b_Mod_init 269 = .ok (.aload_n 0, 1) := by decide +kernel
theorem d_Mod_init_270 : decode b_Mod_init 270 = .ok (.ldc 98, 2) := by decide +kernel
theorem d_Mod_init_272 : decode b_Mod_init 272 = .ok (.newarray .boolean, 2) := by decide +kernel
theorem d_Mod_init_274 : decode b_Mod_init 274 = .ok (.putfield 114, 3) := by decide +kernel
theorem d_Mod_init_277 : decode b_Mod_init 277 = .ok (.aload_n 0, 1) := by decide +kernel
theorem d_Mod_init_278 : decode b_Mod_init 278 = .ok (.ldc 98, 2) := by decide +kernel
theorem d_Mod_init_280 : decode b_Mod_init 280 = .ok (.newarray .boolean, 2) := by decide +kernel
theorem d_Mod_init_282 : decode b_Mod_init 282 = .ok (.putfield 118, 3) := by decide +kernel
theorem d_Mod_init_285 : decode b_Mod_init 285 = .ok (.aload_n 0, 1) := by decide +kernel
theorem d_Mod_init_286 : decode b_Mod_init 286 = .ok (.sipush 400, 3) := by decide +kernel
theorem d_Mod_init_289 : decode b_Mod_init 289 = .ok (.newarray .int, 2) := by decide +kernel
theorem d_Mod_init_291 : decode b_Mod_init 291 = .ok (.putfield 121, 3) := by decide +kernel
theorem d_Mod_init_294 : decode b_Mod_init 294 = .ok (.aload_n 0, 1) := by decide +kernel
theorem d_Mod_init_295 : decode b_Mod_init 295 = .ok (.sipush 400, 3) := by decide +kernel
theorem d_Mod_init_298 : decode b_Mod_init 298 = .ok (.newarray .int, 2) := by decide +kernel
theorem d_Mod_init_300 : decode b_Mod_init 300 = .ok (.putfield 124, 3) := by decide +kernel
theorem d_Mod_init_303 : decode b_Mod_init 303 = .ok (.aload_n 0, 1) := by decide +kernel
theorem d_Mod_init_304 : decode b_Mod_init 304 = .ok (.sipush 400, 3) := by decide +kernel
theorem d_Mod_init_307 : decode b_Mod_init 307 = .ok (.newarray .boolean, 2) := by decide +kernel
theorem d_Mod_init_309 : decode b_Mod_init 309 = .ok (.putfield 127, 3) := by decide +kernel
theorem d_Mod_init_312 : decode b_Mod_init 312 = .ok (.aload_n 0, 1) := by decide +kernel
theorem d_Mod_init_313 : decode b_Mod_init 313 = .ok (.sipush 400, 3) := by decide +kernel
theorem d_Mod_init_316 : decode b_Mod_init 316 = .ok (.newarray .int, 2) := by decide +kernel
theorem d_Mod_init_318 : decode b_Mod_init 318 = .ok (.putfield 130, 3) := by decide +kernel
theorem d_Mod_init_321 : decode b_Mod_init 321 = .ok (.aload_n 0, 1) := by decide +kernel
theorem d_Mod_init_322 : decode b_Mod_init 322 = .ok (.sipush 400, 3) := by decide +kernel
theorem d_Mod_init_325 : decode b_Mod_init 325 = .ok (.newarray .boolean, 2) := by decide +kernel
theorem d_Mod_init_327 : decode b_Mod_init 327 = .ok (.putfield 133, 3) := by decide +kernel
theorem d_Mod_init_330 : decode b_Mod_init 330 = .ok (.aload_n 0, 1) := by decide +kernel
theorem d_Mod_init_331 : decode b_Mod_init 331 = .ok (.sipush 12400, 3) := by decide +kernel
theorem d_Mod_init_334 : decode b_Mod_init 334 = .ok (.newarray .int, 2) := by decide +kernel
theorem d_Mod_init_336 : decode b_Mod_init 336 = .ok (.putfield 136, 3) := by decide +kernel
theorem d_Mod_init_339 : decode b_Mod_init 339 = .ok (.aload_n 0, 1) := by decide +kernel
theorem d_Mod_init_340 : decode b_Mod_init 340 = .ok (.sipush 12400, 3) := by decide +kernel
theorem d_Mod_init_343 : decode b_Mod_init 343 = .ok (.newarray .int, 2) := by decide +kernel
theorem d_Mod_init_345 : decode b_Mod_init 345 = .ok (.putfield 139, 3) := by decide +kernel
theorem d_Mod_init_348 : decode b_Mod_init 348 = .ok (.aload_n 0, 1) := by decide +kernel
theorem d_Mod_init_349 : decode b_Mod_init 349 = .ok (.sipush 8000, 3) := by decide +kernel
theorem d_Mod_init_352 : decode b_Mod_init 352 = .ok (.newarray .int, 2) := by decide +kernel
theorem d_Mod_init_354 : decode b_Mod_init 354 = .ok (.putfield 142, 3) := by decide +kernel
theorem d_Mod_init_357 : decode b_Mod_init 357 = .ok (.aload_n 0, 1) := by decide +kernel
theorem d_Mod_init_358 : decode b_Mod_init 358 = .ok (.sipush 8000, 3) := by decide +kernel
theorem d_Mod_init_361 : decode b_Mod_init 361 = .ok (.newarray .int, 2) := by decide +kernel
theorem d_Mod_init_363 : decode b_Mod_init 363 = .ok (.putfield 145, 3) := by decide +kernel
theorem d_Mod_init_366 : decode b_Mod_init 366 = .ok (.aload_n 0, 1) := by decide +kernel
theorem d_Mod_init_367 : decode b_Mod_init 367 = .ok (.sipush 8000, 3) := by decide +kernel
theorem d_Mod_init_370 : decode b_Mod_init 370 = .ok (.newarray .boolean, 2) := by decide +kernel
theorem d_Mod_init_372 : decode b_Mod_init 372 = .ok (.putfield 148, 3) := by decide +kernel
theorem d_Mod_init_375 : decode b_Mod_init 375 = .ok (.aload_n 0, 1) := by decide +kernel
theorem d_Mod_init_376 : decode b_Mod_init 376 = .ok (.sipush 400, 3) := by decide +kernel
theorem d_Mod_init_379 : decode b_Mod_init 379 = .ok (.newarray .int, 2) := by decide +kernel
theorem d_Mod_init_381 : decode b_Mod_init 381 = .ok (.putfield 151, 3) := by decide +kernel
theorem d_Mod_init_384 : decode b_Mod_init 384 = .ok (.aload_n 0, 1) := by decide +kernel
theorem d_Mod_init_385 : decode b_Mod_init 385 = .ok (.sipush 400, 3) := by decide +kernel
theorem d_Mod_init_388 : decode b_Mod_init 388 = .ok (.newarray .int, 2) := by decide +kernel
theorem d_Mod_init_390 : decode b_Mod_init 390 = .ok (.putfield 154, 3) := by decide +kernel
theorem d_Mod_init_393 : decode b_Mod_init 393 = .ok (.aload_n 0, 1) := by decide +kernel
theorem d_Mod_init_394 : decode b_Mod_init 394 = .ok (.sipush 7007, 3) := by decide +kernel
theorem d_Mod_init_397 : decode b_Mod_init 397 = .ok (.newarray .long, 2) := by decide +kernel
theorem d_Mod_init_399 : decode b_Mod_init 399 = .ok (.putfield 157, 3) := by decide +kernel
theorem d_Mod_init_402 : decode b_Mod_init 402 = .ok (.aload_n 0, 1) := by decide +kernel
theorem d_Mod_init_403 : decode b_Mod_init 403 = .ok (.bipush 7, 2) := by decide +kernel
theorem d_Mod_init_405 : decode b_Mod_init 405 = .ok (.newarray .long, 2) := by decide +kernel
theorem d_Mod_init_407 : decode b_Mod_init 407 = .ok (.putfield 161, 3) := by decide +kernel
theorem d_Mod_init_410 : decode b_Mod_init 410 = .ok (.aload_n 0, 1) := by decide +kernel
theorem d_Mod_init_411 : decode b_Mod_init 411 = .ok (.bipush 22, 2) := by decide +kernel
theorem d_Mod_init_413 : decode b_Mod_init 413 = .ok (.newarray .int, 2) := by decide +kernel
theorem d_Mod_init_415 : decode b_Mod_init 415 = .ok (.putfield 164, 3) := by decide +kernel
theorem d_Mod_init_418 : decode b_Mod_init 418 = .ok (.aload_n 0, 1) := by decide +kernel
theorem d_Mod_init_419 : decode b_Mod_init 419 = .ok (.bipush 22, 2) := by decide +kernel
theorem d_Mod_init_421 : decode b_Mod_init 421 = .ok (.newarray .int, 2) := by decide +kernel
theorem d_Mod_init_423 : decode b_Mod_init 423 = .ok (.putfield 167, 3) := by decide +kernel
theorem d_Mod_init_426 : decode b_Mod_init 426 = .ok (.aload_n 0, 1) := by decide +kernel
theorem d_Mod_init_427 : decode b_Mod_init 427 = .ok (.bipush 22, 2) := by decide +kernel
theorem d_Mod_init_429 : decode b_Mod_init 429 = .ok (.newarray .int, 2) := by decide +kernel
theorem d_Mod_init_431 : decode b_Mod_init 431 = .ok (.putfield 170, 3) := by decide +kernel
theorem d_Mod_init_434 : decode b_Mod_init 434 = .ok (.aload_n 0, 1) := by decide +kernel
theorem d_Mod_init_435 : decode b_Mod_init 435 = .ok (.bipush 22, 2) := by decide +kernel
theorem d_Mod_init_437 : decode b_Mod_init 437 = .ok (.newarray .int, 2) := by decide +kernel
theorem d_Mod_init_439 : decode b_Mod_init 439 = .ok (.putfield 173, 3) := by decide +kernel
theorem d_Mod_init_442 : decode b_Mod_init 442 = .ok (.aload_n 0, 1) := by decide +kernel
theorem d_Mod_init_443 : decode b_Mod_init 443 = .ok (.sipush 434, 3) := by decide +kernel
theorem d_Mod_init_446 : decode b_Mod_init 446 = .ok (.newarray .long, 2) := by decide +kernel
theorem d_Mod_init_448 : decode b_Mod_init 448 = .ok (.putfield 176, 3) := by decide +kernel
theorem d_Mod_init_451 : decode b_Mod_init 451 = .ok (.aload_n 0, 1) := by decide +kernel
theorem d_Mod_init_452 : decode b_Mod_init 452 = .ok (.sipush 1984, 3) := by decide +kernel
theorem d_Mod_init_455 : decode b_Mod_init 455 = .ok (.newarray .int, 2) := by decide +kernel
theorem d_Mod_init_457 : decode b_Mod_init 457 = .ok (.putfield 179, 3) := by decide +kernel
theorem d_Mod_init_460 : decode b_Mod_init 460 = .ok (.aload_n 0, 1) := by decide +kernel
theorem d_Mod_init_461 : decode b_Mod_init 461 = .ok (.sipush 1984, 3) := by decide +kernel
theorem d_Mod_init_464 : decode b_Mod_init 464 = .ok (.newarray .int, 2) := by decide +kernel
theorem d_Mod_init_466 : decode b_Mod_init 466 = .ok (.putfield 182, 3) := by decide +kernel
theorem d_Mod_init_469 : decode b_Mod_init 469 = .ok (.aload_n 0, 1) := by decide +kernel
theorem d_Mod_init_470 : decode b_Mod_init 470 = .ok (.bipush 62, 2) := by decide +kernel
theorem d_Mod_init_472 : decode b_Mod_init 472 = .ok (.newarray .int, 2) := by decide +kernel
theorem d_Mod_init_474 : decode b_Mod_init 474 = .ok (.putfield 185, 3) := by decide +kernel
theorem d_Mod_init_477 : decode b_Mod_init 477 = .ok (.aload_n 0, 1) := by decide +kernel
theorem d_Mod_init_478 : decode b_Mod_init 478 = .ok (.bipush 62, 2) := by decide +kernel
theorem d_Mod_init_480 : decode b_Mod_init 480 = .ok (.newarray .int, 2) := by decide +kernel
theorem d_Mod_init_482 : decode b_Mod_init 482 = .ok (.putfield 188, 3) := by decide +kernel
theorem d_Mod_init_485 : decode b_Mod_init 485 = .ok (.aload_n 0, 1) := by decide +kernel
theorem d_Mod_init_486 : decode b_Mod_init 486 = .ok (.bipush 62, 2) := by decide +kernel
theorem d_Mod_init_488 : decode b_Mod_init 488 = .ok (.newarray .int, 2) := by decide +kernel
theorem d_Mod_init_490 : decode b_Mod_init 490 = .ok (.putfield 191, 3) := by decide +kernel
theorem d_Mod_init_493 : decode b_Mod_init 493 = .ok (.aload_n 0, 1) := by decide +kernel
theorem d_Mod_init_494 : decode b_Mod_init 494 = .ok (.bipush 62, 2) := by decide +kernel
theorem d_Mod_init_496 : decode b_Mod_init 496 = .ok (.newarray .int, 2) := by decide +kernel
theorem d_Mod_init_498 : decode b_Mod_init 498 = .ok (.putfield 194, 3) := by decide +kernel
theorem d_Mod_init_501 : decode b_Mod_init 501 = .ok (.aload_n 0, 1) := by decide +kernel
theorem d_Mod_init_502 : decode b_Mod_init 502 = .ok (.bipush 22, 2) := by decide +kernel
theorem d_Mod_init_504 : decode b_Mod_init 504 = .ok (.newarray .int, 2) := by decide +kernel
theorem d_Mod_init_506 : decode b_Mod_init 506 = .ok (.putfield 197, 3) := by decide +kernel
theorem d_Mod_init_509 : decode b_Mod_init 509 = .ok (.aload_n 0, 1) := by decide +kernel
theorem d_Mod_init_510 : decode b_Mod_init 510 = .ok (.bipush 101, 2) := by decide +kernel
theorem d_Mod_init_512 : decode b_Mod_init 512 = .ok (.newarray .int, 2) := by decide +kernel
theorem d_Mod_init_514 : decode b_Mod_init 514 = .ok (.putfield 200, 3) := by decide +kernel
theorem d_Mod_init_517 : decode b_Mod_init 517 = .ok (.aload_n 0, 1) := by decide +kernel
theorem d_Mod_init_518 : decode b_Mod_init 518 = .ok (.bipush 101, 2) := by decide +kernel
theorem d_Mod_init_520 : decode b_Mod_init 520 = .ok (.newarray .boolean, 2) := by decide +kernel
theorem d_Mod_init_522 : decode b_Mod_init 522 = .ok (.putfield 203, 3) := by decide +kernel
theorem d_Mod_init_525 : decode b_Mod_init 525 = .ok (.aload_n 0, 1) := by decide +kernel
theorem d_Mod_init_526 : decode b_Mod_init 526 = .ok (.bipush 101, 2) := by decide +kernel
theorem d_Mod_init_528 : decode b_Mod_init 528 = .ok (.newarray .boolean, 2) := by decide +kernel
theorem d_Mod_init_530 : decode b_Mod_init 530 = .ok (.putfield 206, 3) := by decide +kernel
theorem d_Mod_init_533 : decode b_Mod_init 533 = .ok (.aload_n 0, 1) := by decide +kernel
theorem d_Mod_init_534 : decode b_Mod_init 534 = .ok (.bipush 101, 2) := by decide +kernel
theorem d_Mod_init_536 : decode b_Mod_init 536 = .ok (.newarray .boolean, 2) := by decide +kernel
theorem d_Mod_init_538 : decode b_Mod_init 538 = .ok (.putfield 209, 3) := by decide +kernel
theorem d_Mod_init_541 : decode b_Mod_init 541 = .ok (.aload_n 0, 1) := by decide +kernel
theorem d_Mod_init_542 : decode b_Mod_init 542 = .ok (.bipush 101, 2) := by decide +kernel
theorem d_Mod_init_544 : decode b_Mod_init 544 = .ok (.newarray .boolean, 2) := by decide +kernel
theorem d_Mod_init_546 : decode b_Mod_init 546 = .ok (.putfield 212, 3) := by decide +kernel
theorem d_Mod_init_549 : decode b_Mod_init 549 = .ok (.aload_n 0, 1) := by decide +kernel
theorem d_Mod_init_550 : decode b_Mod_init 550 = .ok (.bipush 31, 2) := by decide +kernel
theorem d_Mod_init_552 : decode b_Mod_init 552 = .ok (.newarray .int, 2) := by decide +kernel
theorem d_Mod_init_554 : decode b_Mod_init 554 = .ok (.putfield 215, 3) := by decide +kernel
theorem d_Mod_init_557 : decode b_Mod_init 557 = .ok (.aload_n 0, 1) := by decide +kernel
theorem d_Mod_init_558 : decode b_Mod_init 558 = .ok (.bipush 31, 2) := by decide +kernel
theorem d_Mod_init_560 : decode b_Mod_init 560 = .ok (.newarray .int, 2) := by decide +kernel
theorem d_Mod_init_562 : decode b_Mod_init 562 = .ok (.putfield 218, 3) := by decide +kernel
theorem d_Mod_init_565 : decode b_Mod_init 565 = .ok (.aload_n 0, 1) := by decide +kernel
theorem d_Mod_init_566 : decode b_Mod_init 566 = .ok (.bipush 65, 2) := by decide +kernel
theorem d_Mod_init_568 : decode b_Mod_init 568 = .ok (.newarray .byte, 2) := by decide +kernel
theorem d_Mod_init_570 : decode b_Mod_init 570 = .ok (.putfield 221, 3) := by decide +kernel
theorem d_Mod_init_573 : decode b_Mod_init 573 = .ok (.aload_n 0, 1) := by decide +kernel
theorem d_Mod_init_574 : decode b_Mod_init 574 = .ok (.sipush 800, 3) := by decide +kernel
theorem d_Mod_init_577 : decode b_Mod_init 577 = .ok (.newarray .int, 2) := by decide +kernel
theorem d_Mod_init_579 : decode b_Mod_init 579 = .ok (.putfield 224, 3) := by decide +kernel
theorem d_Mod_init_582 : decode b_Mod_init 582 = .ok (.aload_n 0, 1) := by decide +kernel
theorem d_Mod_init_583 : decode b_Mod_init 583 = .ok (.sipush 800, 3) := by decide +kernel
theorem d_Mod_init_586 : decode b_Mod_init 586 = .ok (.newarray .long, 2) := by decide +kernel
theorem d_Mod_init_588 : decode b_Mod_init 588 = .ok (.putfield 227, 3) := by decide +kernel
theorem d_Mod_init_591 : decode b_Mod_init 591 = .ok (.aload_n 0, 1) := by decide +kernel
theorem d_Mod_init_592 : decode b_Mod_init 592 = .ok (.sipush 800, 3) := by decide +kernel
theorem d_Mod_init_595 : decode b_Mod_init 595 = .ok (.newarray .boolean, 2) := by decide +kernel
theorem d_Mod_init_597 : decode b_Mod_init 597 = .ok (.putfield 230, 3) := by decide +kernel
theorem d_Mod_init_600 : decode b_Mod_init 600 = .ok (.aload_n 0, 1) := by decide +kernel
theorem d_Mod_init_601 : decode b_Mod_init 601 = .ok (.ldc 20, 2) := by decide +kernel
theorem d_Mod_init_603 : decode b_Mod_init 603 = .ok (.newarray .byte, 2) := by decide +kernel
theorem d_Mod_init_605 : decode b_Mod_init 605 = .ok (.putfield 233, 3) := by decide +kernel
theorem d_Mod_init_608 : decode b_Mod_init 608 = .ok (.return_, 1) := by decide +kernel
theorem d_Mod_astray_0 : decode b_Mod_astray 0 = .ok (.aload_n 0, 1) := by decide +kernel
theorem d_Mod_astray_1 : decode b_Mod_astray 1 = .ok (.getfield 697, 3) := by decide +kernel
theorem d_Mod_astray_4 : decode b_Mod_astray 4 = .ok (.ireturn, 1) := by decide +kernel
theorem d_Mod_clear_0 : decode b_Mod_clear 0 = .ok (.aload_n 0, 1) := by decide +kernel
theorem d_Mod_clear_1 : decode b_Mod_clear 1 = .ok (.getfield 252, 3) := by decide +kernel
theorem d_Mod_clear_4 : decode b_Mod_clear 4 = .ok (.istore_n 1, 1) := by decide +kernel
theorem d_Mod_clear_5 : decode b_Mod_clear 5 = .ok (.aload_n 0, 1) := by decide +kernel
theorem d_Mod_clear_6 : decode b_Mod_clear 6 = .ok (.iconst 0, 1) := by decide +kernel
theorem d_Mod_clear_7 : decode b_Mod_clear 7 = .ok (.putfield 252, 3) := by decide +kernel
theorem d_Mod_clear_10 : decode b_Mod_clear 10 = .ok (.aload_n 0, 1) := by decide +kernel
theorem d_Mod_clear_11 : decode b_Mod_clear 11 = .ok (.iconst 0, 1) := by decide +kernel
theorem d_Mod_clear_12 : decode b_Mod_clear 12 = .ok (.putfield 259, 3) := by decide +kernel
theorem d_Mod_clear_15 : decode b_Mod_clear 15 = .ok (.iload_n 1, 1) := by decide +kernel
theorem d_Mod_clear_16 : decode b_Mod_clear 16 = .ok (.ireturn, 1) := by decide +kernel
theorem d_Mod_end_0 : decode b_Mod_end 0 = .ok (.aload_n 0, 1) := by decide +kernel
theorem d_Mod_end_1 : decode b_Mod_end 1 = .ok (.getfield 244, 3) := by decide +kernel
theorem d_Mod_end_4 : decode b_Mod_end 4 = .ok (.ifCond .eq 13, 3) := by decide +kernel
theorem d_Mod_end_17 : decode b_Mod_end 17 = .ok (.iconst (-1), 1) := by decide +kernel
theorem d_Mod_end_18 : decode b_Mod_end 18 = .ok (.ireturn, 1) := by decide +kernel
theorem d_Mod_feed_0 : decode b_Mod_feed 0 = .ok (.aload_n 0, 1) := by decide +kernel
theorem d_Mod_feed_1 : decode b_Mod_feed 1 = .ok (.getfield 236, 3) := by decide +kernel
theorem d_Mod_feed_4 : decode b_Mod_feed 4 = .ok (.bipush 20, 2) := by decide +kernel
theorem d_Mod_feed_6 : decode b_Mod_feed 6 = .ok (.iadd, 1) := by decide +kernel
theorem d_Mod_feed_7 : decode b_Mod_feed 7 = .ok (.sipush 16384, 3) := by decide +kernel
theorem d_Mod_feed_10 : decode b_Mod_feed 10 = .ok (.if_icmp .le 6, 3) := by decide +kernel
theorem d_Mod_feed_16 : decode b_Mod_feed 16 = .ok (.aload_n 0, 1) := by decide +kernel
theorem d_Mod_feed_17 : decode b_Mod_feed 17 = .ok (.iload_n 1, 1) := by decide +kernel
theorem d_Mod_feed_18 : decode b_Mod_feed 18 = .ok (.invokevirtual 240, 3) := by decide +kernel
theorem d_Mod_feed_21 : decode b_Mod_feed 21 = .ok (.aload_n 0, 1) := by decide +kernel
theorem d_Mod_feed_22 : decode b_Mod_feed 22 = .ok (.iload_n 2, 1) := by decide +kernel
theorem d_Mod_feed_23 : decode b_Mod_feed 23 = .ok (.invokevirtual 240, 3) := by decide +kernel
theorem d_Mod_feed_26 : decode b_Mod_feed 26 = .ok (.aload_n 0, 1) := by decide +kernel
theorem d_Mod_feed_27 : decode b_Mod_feed 27 = .ok (.iload_n 3, 1) := by decide +kernel
theorem d_Mod_feed_28 : decode b_Mod_feed 28 = .ok (.invokevirtual 240, 3) := by decide +kernel
theorem d_Mod_feed_31 : decode b_Mod_feed 31 = .ok (.aload_n 0, 1) := by decide +kernel
theorem d_Mod_feed_32 : decode b_Mod_feed 32 = .ok (.iload 4, 2) := by decide +kernel
theorem d_Mod_feed_34 : decode b_Mod_feed 34 = .ok (.invokevirtual 240, 3) := by decide +kernel
theorem d_Mod_feed_37 : decode b_Mod_feed 37 = .ok (.aload_n 0, 1) := by decide +kernel
theorem d_Mod_feed_38 : decode b_Mod_feed 38 = .ok (.iload 5, 2) := by decide +kernel
theorem d_Mod_feed_40 : decode b_Mod_feed 40 = .ok (.invokevirtual 240, 3) := by decide +kernel
theorem d_Mod_feed_43 : decode b_Mod_feed 43 = .ok (.aload_n 0, 1) := by decide +kernel
theorem d_Mod_feed_44 : decode b_Mod_feed 44 = .ok (.iconst 1, 1) := by decide +kernel
theorem d_Mod_feed_45 : decode b_Mod_feed 45 = .ok (.putfield 244, 3) := by decide +kernel
theorem d_Mod_feed_48 : decode b_Mod_feed 48 = .ok (.aload_n 0, 1) := by decide +kernel
theorem d_Mod_feed_49 : decode b_Mod_feed 49 = .ok (.getfield 236, 3) := by decide +kernel
theorem d_Mod_feed_52 : decode b_Mod_feed 52 = .ok (.ireturn, 1) := by decide +kernel
theorem d_Mod_feedInt_0 : decode b_Mod_feedInt 0 = .ok (.bipush 24, 2) := by decide +kernel
theorem d_Mod_feedInt_2 : decode b_Mod_feedInt 2 = .ok (.istore_n 2, 1) := by decide +kernel
theorem d_Mod_feedInt_3 : decode b_Mod_feedInt 3 = .ok (.iload_n 2, 1) := by decide +kernel
theorem d_Mod_feedInt_4 : decode b_Mod_feedInt 4 = .ok (.ifCond .lt 32, 3) := by decide +kernel
theorem d_Mod_feedInt_7 : decode b_Mod_feedInt 7 = .ok (.aload_n 0, 1) := by decide +kernel
theorem d_Mod_feedInt_8 : decode b_Mod_feedInt 8 = .ok (.getfield 9, 3) := by decide +kernel
end
section
theorem d_Mod_feedInt_11 : decode b_Mod_feedInt 11 = .ok (.aload_n 0, 1) := by decide +kernel
theorem d_Mod_feedInt_12 : decode b_Mod_feedInt 12 = .ok (.getfield 236, 3) := by decide +kernel
theorem d_Mod_feedInt_15 : decode b_Mod_feedInt 15 = .ok (.iload_n 1, 1) := by decide +kernel
theorem d_Mod_feedInt_16 : decode b_Mod_feedInt 16 = .ok (.iload_n 2, 1) := by decide +kernel
theorem d_Mod_feedInt_17 : decode b_Mod_feedInt 17 = .ok (.ishr, 1) := by decide +kernel
theorem d_Mod_feedInt_18 : decode b_Mod_feedInt 18 = .ok (.i2b, 1) := by decide +kernel
theorem d_Mod_feedInt_19 : decode b_Mod_feedInt 19 = .ok (.bastore, 1) := by decide +kernel
theorem d_Mod_feedInt_20 : decode b_Mod_feedInt 20 = .ok (.aload_n 0, 1) := by decide +kernel
theorem d_Mod_feedInt_21 : decode b_Mod_feedInt 21 = .ok (.dup, 1) := by decide +kernel
theorem d_Mod_feedInt_22 : decode b_Mod_feedInt 22 = .ok (.getfield 236, 3) := by decide +kernel
theorem d_Mod_feedInt_25 : decode b_Mod_feedInt 25 = .ok (.iconst 1, 1) := by decide +kernel
theorem d_Mod_feedInt_26 : decode b_Mod_feedInt 26 = .ok (.iadd, 1) := by decide +kernel
theorem d_Mod_feedInt_27 : decode b_Mod_feedInt 27 = .ok (.putfield 236, 3) := by decide +kernel
theorem d_Mod_feedInt_30 : decode b_Mod_feedInt 30 = .ok (.iinc 2 (-8), 3) := by decide +kernel
theorem d_Mod_feedInt_33 : decode b_Mod_feedInt 33 = .ok (.goto (-30), 3) := by decide +kernel
theorem d_Mod_feedInt_36 : decode b_Mod_feedInt 36 = .ok (.return_, 1) := by decide +kernel
theorem d_Mod_file_0 : decode b_Mod_file 0 = .ok (.aload_n 0, 1) := by decide +kernel
theorem d_Mod_file_1 : decode b_Mod_file 1 = .ok (.invokevirtual 248, 3) := by decide +kernel
theorem d_Mod_file_4 : decode b_Mod_file 4 = .ok (.istore_n 2, 1) := by decide +kernel
theorem d_Mod_file_5 : decode b_Mod_file 5 = .ok (.iload_n 1, 1) := by decide +kernel
theorem d_Mod_file_6 : decode b_Mod_file 6 = .ok (.iconst 1, 1) := by decide +kernel
theorem d_Mod_file_7 : decode b_Mod_file 7 = .ok (.if_icmp .lt 14, 3) := by decide +kernel
theorem d_Mod_file_10 : decode b_Mod_file 10 = .ok (.iload_n 1, 1) := by decide +kernel
theorem d_Mod_file_11 : decode b_Mod_file 11 = .ok (.bipush 64, 2) := by decide +kernel
theorem d_Mod_file_13 : decode b_Mod_file 13 = .ok (.if_icmp .gt 8, 3) := by decide +kernel
theorem d_Mod_file_16 : decode b_Mod_file 16 = .ok (.iload_n 1, 1) := by decide +kernel
theorem d_Mod_file_17 : decode b_Mod_file 17 = .ok (.iload_n 2, 1) := by decide +kernel
theorem d_Mod_file_18 : decode b_Mod_file 18 = .ok (.if_icmp .le 5, 3) := by decide +kernel
theorem d_Mod_file_21 : decode b_Mod_file 21 = .ok (.iconst (-1), 1) := by decide +kernel
theorem d_Mod_file_22 : decode b_Mod_file 22 = .ok (.ireturn, 1) := by decide +kernel
theorem d_Mod_parameters_0 : decode b_Mod_parameters 0 = .ok (.aload_n 0, 1) := by decide +kernel
theorem d_Mod_parameters_1 : decode b_Mod_parameters 1 = .ok (.invokevirtual 248, 3) := by decide +kernel
theorem d_Mod_parameters_4 : decode b_Mod_parameters 4 = .ok (.istore_n 1, 1) := by decide +kernel
theorem d_Mod_parameters_5 : decode b_Mod_parameters 5 = .ok (.iconst 0, 1) := by decide +kernel
theorem d_Mod_parameters_6 : decode b_Mod_parameters 6 = .ok (.istore_n 2, 1) := by decide +kernel
theorem d_Mod_parameters_7 : decode b_Mod_parameters 7 = .ok (.iload_n 2, 1) := by decide +kernel
theorem d_Mod_parameters_8 : decode b_Mod_parameters 8 = .ok (.aload_n 0, 1) := by decide +kernel
theorem d_Mod_parameters_9 : decode b_Mod_parameters 9 = .ok (.getfield 613, 3) := by decide +kernel
theorem d_Mod_parameters_12 : decode b_Mod_parameters 12 = .ok (.if_icmp .ge 108, 3) := by decide +kernel
theorem d_Mod_parameters_120 : decode b_Mod_parameters 120 = .ok (.iconst (-1), 1) := by decide +kernel
theorem d_Mod_parameters_121 : decode b_Mod_parameters 121 = .ok (.ireturn, 1) := by decide +kernel
theorem d_Mod_run_0 : decode b_Mod_run 0 = .ok (.iload_n 1, 1) := by decide +kernel
theorem d_Mod_run_1 : decode b_Mod_run 1 = .ok (.ifCond .lt 45, 3) := by decide +kernel
theorem d_Mod_run_4 : decode b_Mod_run 4 = .ok (.iload_n 1, 1) := by decide +kernel
theorem d_Mod_run_5 : decode b_Mod_run 5 = .ok (.aload_n 0, 1) := by decide +kernel
theorem d_Mod_run_6 : decode b_Mod_run 6 = .ok (.getfield 252, 3) := by decide +kernel
theorem d_Mod_run_9 : decode b_Mod_run 9 = .ok (.if_icmp .ge 37, 3) := by decide +kernel
theorem d_Mod_run_46 : decode b_Mod_run 46 = .ok (.iconst (-1), 1) := by decide +kernel
theorem d_Mod_run_47 : decode b_Mod_run 47 = .ok (.ireturn, 1) := by decide +kernel
theorem d_Mod_size_0 : decode b_Mod_size 0 = .ok (.aload_n 0, 1) := by decide +kernel
theorem d_Mod_size_1 : decode b_Mod_size 1 = .ok (.getfield 700, 3) := by decide +kernel
theorem d_Mod_size_4 : decode b_Mod_size 4 = .ok (.ireturn, 1) := by decide +kernel
theorem d_Mod_told_0 : decode b_Mod_told 0 = .ok (.iconst 0, 1) := by decide +kernel
theorem d_Mod_told_1 : decode b_Mod_told 1 = .ok (.istore_n 2, 1) := by decide +kernel
theorem d_Mod_told_2 : decode b_Mod_told 2 = .ok (.iconst 0, 1) := by decide +kernel
theorem d_Mod_told_3 : decode b_Mod_told 3 = .ok (.istore_n 3, 1) := by decide +kernel
theorem d_Mod_told_4 : decode b_Mod_told 4 = .ok (.iload_n 3, 1) := by decide +kernel
theorem d_Mod_told_5 : decode b_Mod_told 5 = .ok (.aload_n 0, 1) := by decide +kernel
theorem d_Mod_told_6 : decode b_Mod_told 6 = .ok (.getfield 613, 3) := by decide +kernel
theorem d_Mod_told_9 : decode b_Mod_told 9 = .ok (.if_icmp .ge 26, 3) := by decide +kernel
theorem d_Mod_told_35 : decode b_Mod_told 35 = .ok (.iload_n 1, 1) := by decide +kernel
theorem d_Mod_told_36 : decode b_Mod_told 36 = .ok (.tableswitch 67 0 5 #[40, 45, 50, 55, 60, 65], 40) := by decide +kernel
theorem d_Mod_told_76 : decode b_Mod_told 76 = .ok (.aload_n 0, 1) := by decide +kernel
theorem d_Mod_told_77 : decode b_Mod_told 77 = .ok (.getfield 265, 3) := by decide +kernel
theorem d_Mod_told_80 : decode b_Mod_told 80 = .ok (.ireturn, 1) := by decide +kernel
theorem d_Mod_told_81 : decode b_Mod_told 81 = .ok (.aload_n 0, 1) := by decide +kernel
theorem d_Mod_told_82 : decode b_Mod_told 82 = .ok (.getfield 268, 3) := by decide +kernel
theorem d_Mod_told_85 : decode b_Mod_told 85 = .ok (.ireturn, 1) := by decide +kernel
theorem d_Mod_told_86 : decode b_Mod_told 86 = .ok (.aload_n 0, 1) := by decide +kernel
theorem d_Mod_told_87 : decode b_Mod_told 87 = .ok (.getfield 280, 3) := by decide +kernel
theorem d_Mod_told_90 : decode b_Mod_told 90 = .ok (.ireturn, 1) := by decide +kernel
theorem d_Mod_told_91 : decode b_Mod_told 91 = .ok (.aload_n 0, 1) := by decide +kernel
theorem d_Mod_told_92 : decode b_Mod_told 92 = .ok (.getfield 703, 3) := by decide +kernel
theorem d_Mod_told_95 : decode b_Mod_told 95 = .ok (.ireturn, 1) := by decide +kernel
theorem d_Mod_told_96 : decode b_Mod_told 96 = .ok (.aload_n 0, 1) := by decide +kernel
theorem d_Mod_told_97 : decode b_Mod_told 97 = .ok (.getfield 710, 3) := by decide +kernel
theorem d_Mod_told_100 : decode b_Mod_told 100 = .ok (.ireturn, 1) := by decide +kernel
theorem d_Mod_told_101 : decode b_Mod_told 101 = .ok (.iload_n 2, 1) := by decide +kernel
theorem d_Mod_told_102 : decode b_Mod_told 102 = .ok (.ireturn, 1) := by decide +kernel
theorem d_Mod_told_103 : decode b_Mod_told 103 = .ok (.iconst (-1), 1) := by decide +kernel
theorem d_Mod_told_104 : decode b_Mod_told 104 = .ok (.ireturn, 1) := by decide +kernel
theorem d_Mod_use_0 : decode b_Mod_use 0 = .ok (.aload_n 0, 1) := by decide +kernel
theorem d_Mod_use_1 : decode b_Mod_use 1 = .ok (.getfield 236, 3) := by decide +kernel
theorem d_Mod_use_4 : decode b_Mod_use 4 = .ok (.istore_n 1, 1) := by decide +kernel
theorem d_Mod_use_5 : decode b_Mod_use 5 = .ok (.aload_n 0, 1) := by decide +kernel
theorem d_Mod_use_6 : decode b_Mod_use 6 = .ok (.iconst 0, 1) := by decide +kernel
theorem d_Mod_use_7 : decode b_Mod_use 7 = .ok (.putfield 236, 3) := by decide +kernel
theorem d_Mod_use_10 : decode b_Mod_use 10 = .ok (.aload_n 0, 1) := by decide +kernel
theorem d_Mod_use_11 : decode b_Mod_use 11 = .ok (.iconst 0, 1) := by decide +kernel
theorem d_Mod_use_12 : decode b_Mod_use 12 = .ok (.putfield 244, 3) := by decide +kernel
theorem d_Mod_use_15 : decode b_Mod_use 15 = .ok (.iload_n 1, 1) := by decide +kernel
theorem d_Mod_use_16 : decode b_Mod_use 16 = .ok (.ireturn, 1) := by decide +kernel
theorem d_Mod_word_0 : decode b_Mod_word 0 = .ok (.lconst 0, 1) := by decide +kernel
theorem d_Mod_word_1 : decode b_Mod_word 1 = .ok (.lstore_n 2, 1) := by decide +kernel
theorem d_Mod_word_2 : decode b_Mod_word 2 = .ok (.bipush 7, 2) := by decide +kernel
theorem d_Mod_word_4 : decode b_Mod_word 4 = .ok (.istore 4, 2) := by decide +kernel
theorem d_Mod_word_6 : decode b_Mod_word 6 = .ok (.iload 4, 2) := by decide +kernel
theorem d_Mod_word_8 : decode b_Mod_word 8 = .ok (.ifCond .lt 61, 3) := by decide +kernel
theorem d_Mod_word_11 : decode b_Mod_word 11 = .ok (.iload_n 1, 1) := by decide +kernel
theorem d_Mod_word_12 : decode b_Mod_word 12 = .ok (.ifCond .lt 57, 3) := by decide +kernel
theorem d_Mod_word_15 : decode b_Mod_word 15 = .ok (.iload_n 1, 1) := by decide +kernel
theorem d_Mod_word_16 : decode b_Mod_word 16 = .ok (.sipush 8192, 3) := by decide +kernel
theorem d_Mod_word_19 : decode b_Mod_word 19 = .ok (.if_icmp .ge 50, 3) := by decide +kernel
theorem d_Mod_word_22 : decode b_Mod_word 22 = .ok (.lload_n 2, 1) := by decide +kernel
theorem d_Mod_word_23 : decode b_Mod_word 23 = .ok (.bipush 8, 2) := by decide +kernel
theorem d_Mod_word_25 : decode b_Mod_word 25 = .ok (.lshl, 1) := by decide +kernel
theorem d_Mod_word_26 : decode b_Mod_word 26 = .ok (.bipush 8, 2) := by decide +kernel
theorem d_Mod_word_28 : decode b_Mod_word 28 = .ok (.iload_n 1, 1) := by decide +kernel
theorem d_Mod_word_29 : decode b_Mod_word 29 = .ok (.imul, 1) := by decide +kernel
theorem d_Mod_word_30 : decode b_Mod_word 30 = .ok (.iload 4, 2) := by decide +kernel
theorem d_Mod_word_32 : decode b_Mod_word 32 = .ok (.iadd, 1) := by decide +kernel
theorem d_Mod_word_33 : decode b_Mod_word 33 = .ok (.aload_n 0, 1) := by decide +kernel
theorem d_Mod_word_34 : decode b_Mod_word 34 = .ok (.getfield 700, 3) := by decide +kernel
theorem d_Mod_word_37 : decode b_Mod_word 37 = .ok (.if_icmp .ge 22, 3) := by decide +kernel
theorem d_Mod_word_59 : decode b_Mod_word 59 = .ok (.iconst 0, 1) := by decide +kernel
theorem d_Mod_word_60 : decode b_Mod_word 60 = .ok (.i2l, 1) := by decide +kernel
theorem d_Mod_word_61 : decode b_Mod_word 61 = .ok (.lor, 1) := by decide +kernel
theorem d_Mod_word_62 : decode b_Mod_word 62 = .ok (.lstore_n 2, 1) := by decide +kernel
theorem d_Mod_word_63 : decode b_Mod_word 63 = .ok (.iinc 4 (-1), 3) := by decide +kernel
theorem d_Mod_word_66 : decode b_Mod_word 66 = .ok (.goto (-60), 3) := by decide +kernel
theorem d_Mod_word_69 : decode b_Mod_word 69 = .ok (.lload_n 2, 1) := by decide +kernel
theorem d_Mod_word_70 : decode b_Mod_word 70 = .ok (.lreturn, 1) := by decide +kernel
theorem d_Mod_write_0 : decode b_Mod_write 0 = .ok (.aload_n 0, 1) := by decide +kernel
theorem d_Mod_write_1 : decode b_Mod_write 1 = .ok (.invokevirtual 248, 3) := by decide +kernel
theorem d_Mod_write_4 : decode b_Mod_write 4 = .ok (.istore_n 2, 1) := by decide +kernel
theorem d_Mod_write_5 : decode b_Mod_write 5 = .ok (.iload_n 1, 1) := by decide +kernel
theorem d_Mod_write_6 : decode b_Mod_write 6 = .ok (.ifCond .lt 11, 3) := by decide +kernel
theorem d_Mod_write_9 : decode b_Mod_write 9 = .ok (.iload_n 1, 1) := by decide +kernel
theorem d_Mod_write_10 : decode b_Mod_write 10 = .ok (.aload_n 0, 1) := by decide +kernel
theorem d_Mod_write_11 : decode b_Mod_write 11 = .ok (.getfield 252, 3) := by decide +kernel
theorem d_Mod_write_14 : decode b_Mod_write 14 = .ok (.if_icmp .lt 5, 3) := by decide +kernel
theorem d_Mod_write_17 : decode b_Mod_write 17 = .ok (.iconst (-1), 1) := by decide +kernel
theorem d_Mod_write_18 : decode b_Mod_write 18 = .ok (.ireturn, 1) := by decide +kernel
theorem d_Arrays_fill_0 : decode b_Arrays_fill 0 = .ok (.iconst 0, 1) := by decide +kernel
theorem d_Arrays_fill_1 : decode b_Arrays_fill 1 = .ok (.istore_n 2, 1) := by decide +kernel
theorem d_Arrays_fill_2 : decode b_Arrays_fill 2 = .ok (.aload_n 0, 1) := by decide +kernel
theorem d_Arrays_fill_3 : decode b_Arrays_fill 3 = .ok (.arraylength, 1) := by decide +kernel
theorem d_Arrays_fill_4 : decode b_Arrays_fill 4 = .ok (.istore_n 3, 1) := by decide +kernel
theorem d_Arrays_fill_5 : decode b_Arrays_fill 5 = .ok (.iload_n 2, 1) := by decide +kernel
theorem d_Arrays_fill_6 : decode b_Arrays_fill 6 = .ok (.iload_n 3, 1) := by decide +kernel
theorem d_Arrays_fill_7 : decode b_Arrays_fill 7 = .ok (.if_icmp .ge 13, 3) := by decide +kernel
theorem d_Arrays_fill_10 : decode b_Arrays_fill 10 = .ok (.aload_n 0, 1) := by decide +kernel
theorem d_Arrays_fill_11 : decode b_Arrays_fill 11 = .ok (.iload_n 2, 1) := by decide +kernel
theorem d_Arrays_fill_12 : decode b_Arrays_fill 12 = .ok (.iload_n 1, 1) := by decide +kernel
theorem d_Arrays_fill_13 : decode b_Arrays_fill 13 = .ok (.iastore, 1) := by decide +kernel
theorem d_Arrays_fill_14 : decode b_Arrays_fill 14 = .ok (.iinc 2 1, 3) := by decide +kernel
theorem d_Arrays_fill_17 : decode b_Arrays_fill 17 = .ok (.goto (-12), 3) := by decide +kernel
theorem d_Arrays_fill_20 : decode b_Arrays_fill 20 = .ok (.return_, 1) := by decide +kernel
end
section
-- rows of my own, the same for every method: one list of words for all contracts, nest words as a premise, one class of arrays a type
abbrev gG : Type := va_G × (Nat → ClassId)
def tysG (g : gG) : List (ClassId × FieldType) := [(g.2 0, .byte), (g.2 1, .int), (g.2 2, .long), (g.2 3, .boolean), (g.2 4, .char)]
theorem good_mw {y : MethodName} {b : ByteArray} {n : Nat} {r : Option FieldType} (h : Cond.code y b n r ∈ gt) : GoodIn gt (mw y b n r) := by
  intro w hw
  rcases List.mem_cons.mp hw with rfl | hw
  · exact ⟨h, good_of_word (List.mem_filter.mp h).2⟩
  · exact ⟨hw, good_of_word (List.mem_filter.mp hw).2⟩
def nw (U : State) : Prop := (∀ q ∈ nestF, va_Nw (.fieldLinkNest q.1 q.2.1 q.2.2.1 q.2.2.2.1 q.2.2.2.2.1 q.2.2.2.2.2) U) ∧ ∀ q ∈ nestM, va_Nw (.methodLinkNest q.1 q.2.1 q.2.2.1 q.2.2.2) U
theorem nw_warm {s U : State} (hW : s.WarmedH U.vm) (h : nw s) : nw U := ⟨fun q hq => va_Nw.warmF hW (h.1 q hq), fun q hq => va_Nw.warmM hW (h.2 q hq)⟩
theorem nw_same {u U : State} (e : u.vm = U.vm) (h : nw u) : nw U := ⟨fun q hq => va_Nw.same rfl e (h.1 q hq), fun q hq => va_Nw.same rfl e (h.2 q hq)⟩
/-- a method's start: the cells of its world, the tables, the nest -/
def Wd (g : gG) (ws : va_W) (sz : Nat) (U : State) : Prop := U.heap.size = sz ∧ va_P g.1 classes ws U.heap ∧ va_K g.1 classes (tysG g) U ∧ va_D (fun _ => True) ws ∧ nw U
/-- its end: the new world -/
def We (g : gG) (A : Nat → Prop) (w : va_W) (t : State) : Prop := va_P g.1 classes w t.heap ∧ va_D A w
theorem Wd_blind {g : gG} {ws : va_W} {sz : Nat} {av : List Value} : FrameBlind (va_Pc av (Wd g ws sz)) := by
  intro a U f mk h
  obtain ⟨q0, q1, qP, qK, qD, qN⟩ := h
  exact ⟨q0, q1, qP, va_K.moved (u := U) (U := U.calling f mk a) (Vm.Alike.refl U.vm) qK, qD, nw_same (u := U) (U := U.calling f mk a) rfl qN⟩
abbrev Cv (l : Launch) (y : MethodName) (b : ByteArray) (n : Nat) (rm : Room) (g : gG) (av : List Value) (ws : va_W) (sz : Nat) (post : va_W → Prop) : Prop :=
  Met l y (mw y b n none) rm (va_Pc av (Wd g ws sz)) (va_Qv (S := va_W) post (We g (va_A ws sz)) (va_A ws sz)) rm.cells rm.slots (va_A ws sz)
abbrev Ci (l : Launch) (y : MethodName) (b : ByteArray) (n : Nat) (rm : Room) (g : gG) (av : List Value) (ws : va_W) (sz : Nat) (post : Int32 → va_W → Prop) : Prop :=
  Met l y (mw y b n (some .int)) rm (va_Pc av (Wd g ws sz)) (va_Qi (S := va_W) post (We g (va_A ws sz)) (va_A ws sz)) rm.cells rm.slots (va_A ws sz)
abbrev Cl (l : Launch) (y : MethodName) (b : ByteArray) (n : Nat) (rm : Room) (g : gG) (av : List Value) (ws : va_W) (sz : Nat) (post : Int64 → va_W → Prop) : Prop :=
  Met l y (mw y b n (some .long)) rm (va_Pc av (Wd g ws sz)) (va_Ql (S := va_W) post (We g (va_A ws sz)) (va_A ws sz)) rm.cells rm.slots (va_A ws sz)
theorem Met_start {l : Launch} {y : MethodName} {b : ByteArray} {n : Nat} {r : Option FieldType} {rm : Room} {g : gG} {av : List Value} {ws : va_W} {sz : Nat} {QA : (Nat → Prop) → Array Value → State → Outcome → State → Prop}
    (hy : plainName y.cls = true) (hn : (lg_sl av).length ≤ n)
    (body : ∀ (p : Program) (e : Env) (s : State) (m : MethodId) (below : List Frame) (meth : Method) (c : Code) (A : Nat → Prop) (ls : Array Slot),
      p.tables.exec = Jvm.exec → c.code = b → meth.sig.returnType = r → c.maxLocals = n → meth.locks = false → meth.name = y.name → s.vm.findClass y.cls = some m.cls →
      (∀ w ∈ gt, w.before av.toArray s = true) → nw s → (∀ q : Nat, s.heap.size ≤ q → A q) →
      va_P g.1 classes ws s.heap → va_K g.1 classes (tysG g) s → va_D A ws → va_S A s.heap s.heap [] → lv_has ls n (lv_args 0 av) →
      W p l e rm s m av.toArray below meth c s.heap [] 0 0 (MQ below (QA A) av.toArray s rm.cells rm.slots A) (F0 m 0 ls [])) :
    Met l y (mw y b n r) rm (va_Pc av (Wd g ws sz)) (QA (va_A ws sz)) rm.cells rm.slots (va_A ws sz) := by
  refine Met.ofW (cc := b) (maxL := n) (ret := r) hy rfl ?_
  intro p e s m args below meth c s₁ B hml hv
  obtain ⟨rfl, hsz, hP, hK, hD0, hN⟩ := hv
  have hts := atoms_spec (ws := mw y b n r) B.pre
  have hl := lv_entry av (n := n) hn
  rw [lg_entry_eq]
  generalize (lg_sl av ++ List.replicate (n - (lg_sl av).length) Slot.unset).toArray = ls at hl ⊢
  subst hsz
  exact body p e s m below meth c (va_A ws s.heap.size) ls B.exec B.bytes B.returns hml B.notSynchronized (name_of_methodNamed B.named B.method).1 (findClass_of_methodNamed B.named) (fun w h => hts w (List.mem_cons_of_mem _ h)) hN (fun q h => Or.inr h) hP hK hD0.self va_S.rf hl
theorem startV {l : Launch} {y : MethodName} {b : ByteArray} {n : Nat} {rm : Room} {g : gG} {av : List Value} {ws : va_W} {sz : Nat} {post : va_W → Prop}
    (hy : plainName y.cls = true) (hn : (lg_sl av).length ≤ n)
    (body : ∀ (p : Program) (e : Env) (s : State) (m : MethodId) (below : List Frame) (meth : Method) (c : Code) (A : Nat → Prop) (ls : Array Slot),
      p.tables.exec = Jvm.exec → c.code = b → meth.sig.returnType = none → c.maxLocals = n → meth.locks = false → meth.name = y.name → s.vm.findClass y.cls = some m.cls →
      (∀ w ∈ gt, w.before av.toArray s = true) → nw s → (∀ q : Nat, s.heap.size ≤ q → A q) →
      va_P g.1 classes ws s.heap → va_K g.1 classes (tysG g) s → va_D A ws → va_S A s.heap s.heap [] → lv_has ls n (lv_args 0 av) →
      W p l e rm s m av.toArray below meth c s.heap [] 0 0 (MQ below (va_Qv (S := va_W) post (We g A) A) av.toArray s rm.cells rm.slots A) (F0 m 0 ls [])) : Cv l y b n rm g av ws sz post :=
  Met_start (QA := fun A => va_Qv (S := va_W) post (We g A) A) hy hn body
theorem startI {l : Launch} {y : MethodName} {b : ByteArray} {n : Nat} {rm : Room} {g : gG} {av : List Value} {ws : va_W} {sz : Nat} {post : Int32 → va_W → Prop}
    (hy : plainName y.cls = true) (hn : (lg_sl av).length ≤ n)
    (body : ∀ (p : Program) (e : Env) (s : State) (m : MethodId) (below : List Frame) (meth : Method) (c : Code) (A : Nat → Prop) (ls : Array Slot),
      p.tables.exec = Jvm.exec → c.code = b → meth.sig.returnType = some .int → c.maxLocals = n → meth.locks = false → meth.name = y.name → s.vm.findClass y.cls = some m.cls →
      (∀ w ∈ gt, w.before av.toArray s = true) → nw s → (∀ q : Nat, s.heap.size ≤ q → A q) →
      va_P g.1 classes ws s.heap → va_K g.1 classes (tysG g) s → va_D A ws → va_S A s.heap s.heap [] → lv_has ls n (lv_args 0 av) →
      W p l e rm s m av.toArray below meth c s.heap [] 0 0 (MQ below (va_Qi (S := va_W) post (We g A) A) av.toArray s rm.cells rm.slots A) (F0 m 0 ls [])) : Ci l y b n rm g av ws sz post :=
  Met_start (QA := fun A => va_Qi (S := va_W) post (We g A) A) hy hn body
theorem startL {l : Launch} {y : MethodName} {b : ByteArray} {n : Nat} {rm : Room} {g : gG} {av : List Value} {ws : va_W} {sz : Nat} {post : Int64 → va_W → Prop}
    (hy : plainName y.cls = true) (hn : (lg_sl av).length ≤ n)
    (body : ∀ (p : Program) (e : Env) (s : State) (m : MethodId) (below : List Frame) (meth : Method) (c : Code) (A : Nat → Prop) (ls : Array Slot),
      p.tables.exec = Jvm.exec → c.code = b → meth.sig.returnType = some .long → c.maxLocals = n → meth.locks = false → meth.name = y.name → s.vm.findClass y.cls = some m.cls →
      (∀ w ∈ gt, w.before av.toArray s = true) → nw s → (∀ q : Nat, s.heap.size ≤ q → A q) →
      va_P g.1 classes ws s.heap → va_K g.1 classes (tysG g) s → va_D A ws → va_S A s.heap s.heap [] → lv_has ls n (lv_args 0 av) →
      W p l e rm s m av.toArray below meth c s.heap [] 0 0 (MQ below (va_Ql (S := va_W) post (We g A) A) av.toArray s rm.cells rm.slots A) (F0 m 0 ls [])) : Cl l y b n rm g av ws sz post :=
  Met_start (QA := fun A => va_Ql (S := va_W) post (We g A) A) hy hn body
theorem va_PsubM {D : va_G} {cl : List vw_C} {ws ws' : va_W} {H : Heap} (h : va_P D cl ws H) (is : List Nat) (hs : is.map (fun i => ws[i]?) = ws'.map some) : va_P D cl ws' H := by
  intro k q hk
  have h1 : (is.map (fun i => ws[i]?))[k]? = some (some q) := by rw [hs, List.getElem?_map, hk]; rfl
  rw [List.getElem?_map] at h1
  cases hi : is[k]? with
  | none => rw [hi] at h1; cases h1
  | some i => rw [hi] at h1; exact h i q (Option.some.inj h1)
theorem gE_left {ws x : va_W} {k : Nat} {q : Nat × va_E} (hk : ws[k]? = some q) : (ws ++ x)[k]? = some q := by
  rw [List.getElem?_append_left (List.getElem?_eq_some_iff.mp hk).1]; exact hk
theorem va_Pleft {D : va_G} {cl : List vw_C} {ws x : va_W} {H : Heap} (h : va_P D cl (ws ++ x) H) : va_P D cl ws H := fun k q hk => h k q (gE_left hk)
theorem va_Dleft {A : Nat → Prop} {ws x : va_W} (h : va_D A (ws ++ x)) : va_D A ws := ⟨fun i j a b hi hj => h.1 i j a b (gE_left hi) (gE_left hj), fun k q hk => h.2 k q (gE_left hk)⟩
theorem ra_uniq {U : State} {a b : ClassId} {ty : FieldType} (hn : ∀ C, ty ≠ .object C) (h1 : va_RA U a ty) (h2 : va_RA U b ty) : a = b := by
  cases ty with
  | object C => exact absurd rfl (hn C)
  | _ => exact Option.some.inj (Eq.trans (Eq.symm h1) h2)
theorem no_byte : ∀ C, (FieldType.byte) ≠ .object C := fun _ h => by cases h
theorem a0_byte (N : Nat) (cA : ClassId) : vp_cell cA (N, .inl (fun _ => 0)) = arrV cA N (fun _ => defaultValue .byte) := rfl
theorem no_int : ∀ C, (FieldType.int) ≠ .object C := fun _ h => by cases h
theorem a0_int (N : Nat) (cA : ClassId) : vp_cell cA (N, .inl (fun _ => 0)) = arrV cA N (fun _ => defaultValue .int) := rfl
theorem no_long : ∀ C, (FieldType.long) ≠ .object C := fun _ h => by cases h
theorem a0_long (N : Nat) (cA : ClassId) : vp_cell cA (N, .inr (.inl (fun _ => 0))) = arrV cA N (fun _ => defaultValue .long) := rfl
theorem no_boolean : ∀ C, (FieldType.boolean) ≠ .object C := fun _ h => by cases h
theorem a0_boolean (N : Nat) (cA : ClassId) : vp_cell cA (N, .inl (fun _ => 0)) = arrV cA N (fun _ => defaultValue .boolean) := rfl
theorem no_char : ∀ C, (FieldType.char) ≠ .object C := fun _ h => by cases h
theorem a0_char (N : Nat) (cA : ClassId) : vp_cell cA (N, .inl (fun _ => 0)) = arrV cA N (fun _ => defaultValue .char) := rfl
section B1
variable {p : Program} {l : Launch} {e : Env} {R : Room} {s : State} {m : MethodId} {args : Array Value} {below : List Frame} {meth : Method} {c : Code} {H : Heap} {locs : List Loc} {cells slots : Nat} {Q : State → Prop}
variable {cc : ByteArray} {pc : Nat} {ls : Array Slot} {rest : List Value} {g : gG} {A : Nat → Prop} {ws : va_W}
theorem toI {x y : Int32} (h : x = y) (k : W p l e R s m args below meth c H locs cells slots Q (F0 m pc ls (.int y :: rest))) : W p l e R s m args below meth c H locs cells slots Q (F0 m pc ls (.int x :: rest)) := h ▸ k
theorem toL {x y : Int64} (h : x = y) (k : W p l e R s m args below meth c H locs cells slots Q (F0 m pc ls (.long y :: rest))) : W p l e R s m args below meth c H locs cells slots Q (F0 m pc ls (.long x :: rest)) := h ▸ k
/-- a new array; its class is the one of its type -/
theorem nea (hx : p.tables.exec = Jvm.exec) (hb : c.code = cc) (htt : ∀ w ∈ gt, w.before args s = true) {atype : ArrayType} {ty : FieldType} (ix : Nat) (hty : newarray.typeOf atype = ty) (hno : ∀ C, ty ≠ .object C) (harr : Cond.arrayClass ty ∈ gt) (hi : (tysG g)[ix]? = some (g.2 ix, ty))
    (hK : va_K g.1 classes (tysG g) s) (hP : va_P g.1 classes ws H) (hD : va_D A ws) (hS : va_S A s.heap H locs) (hA : ∀ q : Nat, s.heap.size ≤ q → A q)
    {n : Int32} {N' : Nat} {a0 : vp_A} (ha : ∀ cA : ClassId, vp_cell cA a0 = arrV cA N' (fun _ => defaultValue ty)) (hn : ¬ n < 0) (hN : n.toNatClampNeg = N') (hbytes : N' * componentBytes ty ≤ 536870912) (hcells : cells + 1 ≤ R.cells) (hslots : slots + N' ≤ R.slots) (hdg : decode cc pc = .ok (.newarray atype, 2))
    (kk : ∀ (q : Nat) (H1 : Heap), va_P g.1 classes (ws ++ [(q, .inl (g.2 ix, a0))]) H1 → va_D A (ws ++ [(q, .inl (g.2 ix, a0))]) → va_S A s.heap H1 locs → W p l e R s m args below meth c H1 locs (cells + 1) (slots + N') Q (F0 m (pc + 2) ls (.ref q :: rest))) :
    W p l e R s m args below meth c H locs cells slots Q (F0 m pc ls (.int n :: rest)) := by
  refine va_newa hx hb (by rw [hty]; exact htt _ harr) hty hK hP hD hS hA ha hn hN hbytes hcells hslots hdg (fun q cA H1 hK1 hP1 hD1 hS1 => ?_)
  have e1 : va_RA s cA ty := (hK1.2 (tysG g).length (cA, ty) (by simp)).2
  have e2 : va_RA s (g.2 ix) ty := (hK.2 ix (g.2 ix, ty) hi).2
  have e3 : cA = g.2 ix := ra_uniq hno e1 e2
  subst e3
  exact kk q H1 hP1 hD1 hS1
/-- the same, the new cell not kept in the world -/
theorem nea0 (hx : p.tables.exec = Jvm.exec) (hb : c.code = cc) (htt : ∀ w ∈ gt, w.before args s = true) {atype : ArrayType} {ty : FieldType} (ix : Nat) (hty : newarray.typeOf atype = ty) (hno : ∀ C, ty ≠ .object C) (harr : Cond.arrayClass ty ∈ gt) (hi : (tysG g)[ix]? = some (g.2 ix, ty))
    (hK : va_K g.1 classes (tysG g) s) (hP : va_P g.1 classes ws H) (hD : va_D A ws) (hS : va_S A s.heap H locs) (hA : ∀ q : Nat, s.heap.size ≤ q → A q)
    {n : Int32} {N' : Nat} {a0 : vp_A} (ha : ∀ cA : ClassId, vp_cell cA a0 = arrV cA N' (fun _ => defaultValue ty)) (hn : ¬ n < 0) (hN : n.toNatClampNeg = N') (hbytes : N' * componentBytes ty ≤ 536870912) (hcells : cells + 1 ≤ R.cells) (hslots : slots + N' ≤ R.slots) (hdg : decode cc pc = .ok (.newarray atype, 2))
    (kk : ∀ (q : Nat) (H1 : Heap), va_P g.1 classes ws H1 → va_D A ws → va_S A s.heap H1 locs → W p l e R s m args below meth c H1 locs (cells + 1) (slots + N') Q (F0 m (pc + 2) ls (.ref q :: rest))) :
    W p l e R s m args below meth c H locs cells slots Q (F0 m pc ls (.int n :: rest)) :=
  nea (g := g) (ws := ws) (A := A) hx hb htt ix hty hno harr hi hK hP hD hS hA ha hn hN hbytes hcells hslots hdg (fun q H1 hP1 hD1 hS1 => kk q H1 (va_Pleft hP1) (va_Dleft hD1) hS1)
theorem preS_of {As : List Value} {wc : va_W} (isC : List Nat) (hC : isC.map (fun i => ws[i]?) = wc.map some) (hnC : va_nd isC = true)
    (hP : va_P g.1 classes ws H) (hK : va_K g.1 classes (tysG g) s) (hD : va_D A ws) (hN : nw s) : PreS s H (va_Pc As (Wd g wc H.size)) As := by
  have hPc := va_PsubM hP isC hC
  have hDc := hD.sub (ws' := wc) isC hnC hC
  exact ⟨Wd_blind, fun U hU hW => ⟨rfl, by rw [hU], by rw [hU]; exact hPc, va_K.moved hW.alike hK, hDc.weaken (fun _ _ _ _ => trivial), nw_warm hW hN⟩⟩
/-- a call that gives nothing: the callee's cells are those at isC, the rest's at isR -/
theorem go_v {wc wr : va_W} {post : va_W → Prop} {As st0 : List Value} {a : Array Value} {mc ms : Nat} (isC isR : List Nat) (hC : isC.map (fun i => ws[i]?) = wc.map some) (hR : isR.map (fun i => ws[i]?) = wr.map some) (hnC : va_nd isC = true) (hnR : va_nd isR = true) (hdis : ∀ i ∈ isR, i ∉ isC)
    (hP : va_P g.1 classes ws H) (hK : va_K g.1 classes (tysG g) s) (hD : va_D A ws) (hS : va_S A s.heap H locs) (hA : ∀ q : Nat, s.heap.size ≤ q → A q) (hN : nw s)
    (hr : PreS s H (va_Pc As (Wd g wc H.size)) As → va_Run p l e R s m args below meth c H locs cells slots mc ms (F0 m pc ls st0) rest (va_Qv (S := va_W) post (We g (va_A wc H.size)) (va_A wc H.size) a) (va_A wc H.size))
    (kk : ∀ (w1 : va_W) (H1 : Heap) (locs1 : List Loc), post w1 → va_P g.1 classes (wr ++ w1) H1 → va_D A (wr ++ w1) → va_S A s.heap H1 locs1 → W p l e R s m args below meth c H1 locs1 (cells + mc) (slots + ms) Q (F0 m (pc + 3) ls rest)) :
    W p l e R s m args below meth c H locs cells slots Q (F0 m pc ls st0) := by
  have hFc := va_free (wc := wc) hD hS hA isC hC
  refine va_callv (hr (preS_of isC hC hnC hP hK hD hN)) hS (fun q _ h => hFc q h) hFc (fun u t H1 locs1 ht hvm hw hB hz1 hk1 hS1 => ?_)
  obtain ⟨hP1, hD1⟩ := hB
  rw [ht] at hP1
  obtain ⟨hP2, hD2⟩ := va_join (wr := wr) (w1 := u) hP hD isC isR hC hR hnR hdis hk1 hFc hP1 hD1
  exact kk u H1 locs1 hw hP2 hD2 hS1
theorem go_i {wc wr : va_W} {post : Int32 → va_W → Prop} {As st0 : List Value} {a : Array Value} {mc ms : Nat} (isC isR : List Nat) (hC : isC.map (fun i => ws[i]?) = wc.map some) (hR : isR.map (fun i => ws[i]?) = wr.map some) (hnC : va_nd isC = true) (hnR : va_nd isR = true) (hdis : ∀ i ∈ isR, i ∉ isC)
    (hP : va_P g.1 classes ws H) (hK : va_K g.1 classes (tysG g) s) (hD : va_D A ws) (hS : va_S A s.heap H locs) (hA : ∀ q : Nat, s.heap.size ≤ q → A q) (hN : nw s)
    (hr : PreS s H (va_Pc As (Wd g wc H.size)) As → va_Run p l e R s m args below meth c H locs cells slots mc ms (F0 m pc ls st0) rest (va_Qi (S := va_W) post (We g (va_A wc H.size)) (va_A wc H.size) a) (va_A wc H.size))
    (kk : ∀ (r : Int32) (w1 : va_W) (H1 : Heap) (locs1 : List Loc), post r w1 → va_P g.1 classes (wr ++ w1) H1 → va_D A (wr ++ w1) → va_S A s.heap H1 locs1 → W p l e R s m args below meth c H1 locs1 (cells + mc) (slots + ms) Q (F0 m (pc + 3) ls (.int r :: rest))) :
    W p l e R s m args below meth c H locs cells slots Q (F0 m pc ls st0) := by
  have hFc := va_free (wc := wc) hD hS hA isC hC
  refine va_calli (hr (preS_of isC hC hnC hP hK hD hN)) hS (fun q _ h => hFc q h) hFc (fun r u t H1 locs1 ht hvm hw hB hz1 hk1 hS1 => ?_)
  obtain ⟨hP1, hD1⟩ := hB
  rw [ht] at hP1
  obtain ⟨hP2, hD2⟩ := va_join (wr := wr) (w1 := u) hP hD isC isR hC hR hnR hdis hk1 hFc hP1 hD1
  exact kk r u H1 locs1 hw hP2 hD2 hS1
theorem go_l {wc wr : va_W} {post : Int64 → va_W → Prop} {As st0 : List Value} {a : Array Value} {mc ms : Nat} (isC isR : List Nat) (hC : isC.map (fun i => ws[i]?) = wc.map some) (hR : isR.map (fun i => ws[i]?) = wr.map some) (hnC : va_nd isC = true) (hnR : va_nd isR = true) (hdis : ∀ i ∈ isR, i ∉ isC)
    (hP : va_P g.1 classes ws H) (hK : va_K g.1 classes (tysG g) s) (hD : va_D A ws) (hS : va_S A s.heap H locs) (hA : ∀ q : Nat, s.heap.size ≤ q → A q) (hN : nw s)
    (hr : PreS s H (va_Pc As (Wd g wc H.size)) As → va_Run p l e R s m args below meth c H locs cells slots mc ms (F0 m pc ls st0) rest (va_Ql (S := va_W) post (We g (va_A wc H.size)) (va_A wc H.size) a) (va_A wc H.size))
    (kk : ∀ (r : Int64) (w1 : va_W) (H1 : Heap) (locs1 : List Loc), post r w1 → va_P g.1 classes (wr ++ w1) H1 → va_D A (wr ++ w1) → va_S A s.heap H1 locs1 → W p l e R s m args below meth c H1 locs1 (cells + mc) (slots + ms) Q (F0 m (pc + 3) ls (.long r :: rest))) :
    W p l e R s m args below meth c H locs cells slots Q (F0 m pc ls st0) := by
  have hFc := va_free (wc := wc) hD hS hA isC hC
  refine va_calll (hr (preS_of isC hC hnC hP hK hD hN)) hS (fun q _ h => hFc q h) hFc (fun r u t H1 locs1 ht hvm hw hB hz1 hk1 hS1 => ?_)
  obtain ⟨hP1, hD1⟩ := hB
  rw [ht] at hP1
  obtain ⟨hP2, hD2⟩ := va_join (wr := wr) (w1 := u) hP hD isC isR hC hR hnR hdis hk1 hFc hP1 hD1
  exact kk r u H1 locs1 hw hP2 hD2 hS1
/-- the words and the room of a call by an ordinary link -/
theorem cb_L {own : String} {index n k : Nat} {y : MethodName} {b : ByteArray} {r : Option FieldType} {rm : Room} (htt : ∀ w ∈ gt, w.before args s = true) (hc : Cond.code y b n r ∈ gt) (hini : Cond.initialized y.cls ∈ gt) (hl : Cond.methodLink own index y ∈ gt)
    (hd : y.cls ≠ "java/lang/invoke/MethodHandle" ∧ y.cls ≠ "java/lang/invoke/VarHandle" ∧ (parseMethodDescriptor y.desc).map (fun d => d.parameters.length) = some k) (hR : rm.frames + 1 ≤ R.frames ∧ 8 + (n + 11) + rm.locals ≤ R.locals) : CallB R s args own index y b n r (mw y b n r) rm rm.cells rm.slots k :=
  callB_of k htt (good_mw hc) rfl rfl rfl (htt _ hini) (htt _ hl) hd hR
/-- the same, of a nest mate's private method -/
theorem cb_N {own host : String} {index n k : Nat} {y : MethodName} {b : ByteArray} {r : Option FieldType} {rm : Room} (htt : ∀ w ∈ gt, w.before args s = true) (hc : Cond.code y b n r ∈ gt) (hini : Cond.initialized y.cls ∈ gt) (hN : nw s) (hl : (own, index, y, host) ∈ nestM)
    (hd : y.cls ≠ "java/lang/invoke/MethodHandle" ∧ y.cls ≠ "java/lang/invoke/VarHandle" ∧ (parseMethodDescriptor y.desc).map (fun d => d.parameters.length) = some k) (hR : rm.frames + 1 ≤ R.frames ∧ 8 + (n + 11) + rm.locals ≤ R.locals) : va_CN R s args own index y host b n r (mw y b n r) rm rm.cells rm.slots k :=
  va_cnB k htt (good_mw hc) rfl rfl rfl (hN.2 _ hl) (htt _ hini) hd hR
/-- ends -/
theorem fin_v {post : va_W → Prop} {rc rs : Nat} (hx : p.tables.exec = Jvm.exec) (hb : c.code = cc) (hr : meth.sig.returnType = none) (hlocks : meth.locks = false) (hc : cells ≤ rc) (hs : slots ≤ rs) (hP : va_P g.1 classes ws H) (hD : va_D A ws) (hS : va_S A s.heap H locs) (hp : post ws) (hdg : decode cc pc = .ok (.return_, 1)) :
    W p l e R s m args below meth c H locs cells slots (MQ below (va_Qv (S := va_W) post (We g A) A) args s rc rs A) (F0 m pc ls []) := by
  refine W.widen (k := rc) (n := rs) hc hs ?_
  exact W.vret hx hb hr (fun t ht hW => ⟨⟨ws, rfl, hp, by rw [ht]; exact hP, hD⟩, hS.F ht⟩) hS.2.2 hdg
theorem fin_i {post : Int32 → va_W → Prop} {rc rs : Nat} {v : Int32} (hx : p.tables.exec = Jvm.exec) (hb : c.code = cc) (hr : meth.sig.returnType = some .int) (hlocks : meth.locks = false) (hc : cells ≤ rc) (hs : slots ≤ rs) (hP : va_P g.1 classes ws H) (hD : va_D A ws) (hS : va_S A s.heap H locs) (hp : post v ws) (hdg : decode cc pc = .ok (.ireturn, 1)) :
    W p l e R s m args below meth c H locs cells slots (MQ below (va_Qi (S := va_W) post (We g A) A) args s rc rs A) (F0 m pc ls [.int v]) := by
  refine W.widen (k := rc) (n := rs) hc hs ?_
  exact W.iret hx hb hr (fun t ht hW => ⟨⟨v, ws, rfl, hp, by rw [ht]; exact hP, hD⟩, hS.F ht⟩) hS.2.2 hdg
theorem fin_l {post : Int64 → va_W → Prop} {rc rs : Nat} {v : Int64} (hx : p.tables.exec = Jvm.exec) (hb : c.code = cc) (hr : meth.sig.returnType = some .long) (hlocks : meth.locks = false) (hc : cells ≤ rc) (hs : slots ≤ rs) (hP : va_P g.1 classes ws H) (hD : va_D A ws) (hS : va_S A s.heap H locs) (hp : post v ws) (hdg : decode cc pc = .ok (.lreturn, 1)) :
    W p l e R s m args below meth c H locs cells slots (MQ below (va_Ql (S := va_W) post (We g A) A) args s rc rs A) (F0 m pc ls [.long v]) := by
  refine W.widen (k := rc) (n := rs) hc hs ?_
  exact W.lret hx hb hr (fun t ht hW => ⟨⟨v, ws, rfl, hp, by rw [ht]; exact hP, hD⟩, hS.F ht⟩) hS.2.2 hdg
end B1
end
section
-- small numbers
theorem x_nle0 {x : Int32} (h : ¬ x < 1) : ¬ x ≤ 0 := by
  intro h2
  apply h
  rw [Int32.lt_iff_toInt_lt]
  rw [Int32.le_iff_toInt_le] at h2
  have e1 : (1 : Int32).toInt = 1 := by decide
  have e0 : (0 : Int32).toInt = 0 := by decide
  omega
theorem x_ge0 {x : Int32} (h : ¬ x < 0) : 0 ≤ x := by
  rw [Int32.lt_iff_toInt_lt] at h
  rw [Int32.le_iff_toInt_le]
  have e0 : (0 : Int32).toInt = 0 := by decide
  omega
theorem x_w1 {x : Int32} (hv : ¬ x = 0) (h : ¬ x < 0) : ¬ x ≤ 0 := by
  intro h2
  apply hv
  rw [Int32.lt_iff_toInt_lt] at h
  rw [Int32.le_iff_toInt_le] at h2
  have e0 : (0 : Int32).toInt = 0 := by decide
  apply Int32.toInt_inj.mp
  omega
theorem x_w2 {x k : Int32} (h1 : ¬ x < 0) (h2 : ¬ 8192 ≤ x) (hk0 : 0 ≤ k.toInt) (hk : k.toInt < 8) : (0 : Int32) ≤ 8 * x + k := by
  rcases pk_ix x (n := 8192) (by decide) with h | h | ⟨j, hj, rfl⟩
  · exact absurd h h1
  · exact absurd h h2
  · obtain ⟨i, hi, rfl⟩ : ∃ i : Nat, i < 8 ∧ k = nI i := by
      rcases pk_ix k (n := 8) (by decide) with h | h | h
      · rw [Int32.lt_iff_toInt_lt] at h
        have e0 : (0 : Int32).toInt = 0 := by decide
        omega
      · rw [Int32.le_iff_toInt_le] at h
        have e8 : (nI 8).toInt = 8 := by decide
        omega
      · exact h
    have e : (8 : Int32) * nI j + nI i = nI (8 * j + i) := by
      rw [show (8 : Int32) = nI 8 from rfl, pk_mul, nI_add]
    rw [e]
    exact nI_pos' (by omega)
def tl (x : Int32) : Int32 := if x.toInt < 0 ∨ 5 < x.toInt then (-1) else 0
theorem tl_out {x : Int32} (h : x.toInt < 0 ∨ 5 < x.toInt) : (-1) = tl x := by unfold tl; rw [if_pos h]
theorem tl_in {x : Int32} (h : ¬ (x.toInt < 0 ∨ 5 < x.toInt)) : 0 = tl x := by unfold tl; rw [if_neg h]
theorem law_lt {L : Nat} (h : L < 6) : Int32.ofNat L - 6 < 0 := by
  rcases (show L = 0 ∨ L = 1 ∨ L = 2 ∨ L = 3 ∨ L = 4 ∨ L = 5 by omega) with rfl | rfl | rfl | rfl | rfl | rfl <;> decide
theorem arr_of {args : Array Value} {s : State} {ty : FieldType} (hno : ∀ C, ty ≠ .object C) (h : (Cond.arrayClass ty).before args s = true) : ∃ cA : ClassId, ArrOfT s cA ty ∧ va_RA s cA ty := by
  obtain ⟨cA, kA, comp, h1, h2, h3⟩ := Cond.arrayClass_spec h
  refine ⟨cA, fun n z => ⟨fun k h => (by cases h), kA, h2, comp, h3⟩, ?_⟩
  cases ty with
  | object C => exact absurd rfl (hno C)
  | _ => exact h1
-- Arrays.fill(int[], int)
section FILL
variable {p : Program} {l : Launch} {e : Env} {R : Room} {s : State} {m : MethodId} {args : Array Value} {below : List Frame} {meth : Method} {c : Code} {cells slots : Nat} {Q : State → Prop} {g : gG} {A : Nat → Prop} {h0 n : Nat} {v : Int32}
theorem fill_loop (hx : p.tables.exec = Jvm.exec) (hb : c.code = b_Arrays_fill) (hK : va_K g.1 classes (tysG g) s) (hn : n < 2 ^ 31)
    (kx : ∀ (f : Nat → Int32) (ls : Array Slot) (H : Heap) (locs : List Loc), (∀ j, j < n → f j = v) → va_P g.1 classes [(h0, .inl (g.2 1, n, .inl f))] H → va_D A [(h0, .inl (g.2 1, n, .inl f))] → va_S A s.heap H locs → W p l e R s m args below meth c H locs cells slots Q (F0 m 20 ls [])) :
    ∀ (k i : Nat) (f : Nat → Int32) (ls : Array Slot) (H : Heap) (locs : List Loc), i + k = n → (∀ j, j < i → f j = v) → lv_has ls 4 [(2, .int (nI i)), (3, .int (nI n)), (0, .ref h0), (1, .int v)] → va_P g.1 classes [(h0, .inl (g.2 1, n, .inl f))] H → va_D A [(h0, .inl (g.2 1, n, .inl f))] → va_S A s.heap H locs → W p l e R s m args below meth c H locs cells slots Q (F0 m 5 ls []) := by
  intro k
  induction k with
  | zero =>
    intro i f ls H locs hi hf hl hP hD hS
    refine lv_iload_n hx hb d_Arrays_fill_5 rfl (lv_at hl 0 rfl) ?_
    refine lv_iload_n hx hb d_Arrays_fill_6 rfl (lv_at hl 1 rfl) ?_
    refine lv_icmp_ge (tgt := 20) hx hb d_Arrays_fill_7 (by decide) (fun _ => ?_) (fun h9 => absurd (nI_le (by omega) (by omega)) h9)
    exact kx f ls H locs (fun j hj => hf j (by omega)) hP hD hS
  | succ k ih =>
    intro i f ls H locs hi hf hl hP hD hS
    refine lv_iload_n hx hb d_Arrays_fill_5 rfl (lv_at hl 0 rfl) ?_
    refine lv_iload_n hx hb d_Arrays_fill_6 rfl (lv_at hl 1 rfl) ?_
    refine lv_icmp_ge (tgt := 20) hx hb d_Arrays_fill_7 (by decide) (fun h9 => absurd h9 (nI_ge (by omega) (by omega))) (fun _ => ?_)
    refine lv_aload_n hx hb d_Arrays_fill_10 rfl (lv_at hl 2 rfl) ?_
    refine lv_iload_n hx hb d_Arrays_fill_11 rfl (lv_at hl 0 rfl) ?_
    refine lv_iload_n hx hb d_Arrays_fill_12 rfl (lv_at hl 3 rfl) ?_
    refine va_iast (i := nI i) (x := v) hx hb hK hP hD hS 0 1 rfl rfl (vp_in_nI (by omega) hn) d_Arrays_fill_13 (fun H locs hP hD hS => ?_)
    refine lv_iinc (k := 0) (v := nI (i + 1)) (lv' := [(2, .int (nI (i + 1))), (3, .int (nI n)), (0, .ref h0), (1, .int v)]) hx hb d_Arrays_fill_14 hl rfl (nI_succ i).symm (by decide) rfl (fun ls hl => ?_)
    refine lv_goto (tgt := 5) hx hb d_Arrays_fill_17 (by decide) ?_
    refine ih (i + 1) (upd f (nI i).toNatClampNeg v) ls H locs (by omega) (fun j hj => ?_) hl hP hD hS
    unfold upd
    rw [nI_clamp (by omega : i < 2 ^ 31)]
    split
    · rfl
    · exact hf j (by omega)
end FILL
set_option maxHeartbeats 4000000 in
set_option maxRecDepth 100000 in
theorem c_fill (l : Launch) (g : gG) (sz h0 n : Nat) (f : Nat → Int32) (v : Int32) (hn : n < 2 ^ 31) : Cv l y_Arrays_fill b_Arrays_fill 4 { frames := 0, cells := 0, slots := 0, locals := 0 } g [.ref h0, .int v] [(h0, .inl (g.2 1, n, .inl f))] sz (fun w => ∃ f' : Nat → Int32, w = [(h0, .inl (g.2 1, n, .inl f'))] ∧ ∀ j, j < n → f' j = v) := by
  refine startV (by decide) (Nat.le_of_ble_eq_true rfl) ?_
  intro p e s m below meth c A ls hx hb hr hml hlocks hmn hown htt hN hA hP hK hD hS hl
  have hl : lv_has ls 4 [(0, .ref h0), (1, .int v)] := hl
  refine lv_iconst (v := 0) hx hb d_Arrays_fill_0 (by decide) ?_
  refine lv_istore_n (lv' := [(2, .int 0), (0, .ref h0), (1, .int v)]) hx hb d_Arrays_fill_1 rfl hl (by decide) rfl (fun ls hl => ?_)
  refine lv_aload_n hx hb d_Arrays_fill_2 rfl (lv_at hl 1 rfl) ?_
  refine va_alen (v := nI n) hx hb hK hP 0 1 rfl rfl rfl d_Arrays_fill_3 ?_
  refine lv_istore_n (lv' := [(3, .int (nI n)), (2, .int 0), (0, .ref h0), (1, .int v)]) hx hb d_Arrays_fill_4 rfl hl (by decide) rfl (fun ls hl => ?_)
  exact fill_loop hx hb hK hn (fun f' ls H locs hf hP hD hS => fin_v (g := g) (ws := [(h0, .inl (g.2 1, n, .inl f'))]) hx hb hr hlocks (Nat.le_of_ble_eq_true rfl) (Nat.le_of_ble_eq_true rfl) hP hD hS ⟨f', rfl, hf⟩ d_Arrays_fill_20) n 0 f ls _ _ (by omega) (fun j h => absurd h (Nat.not_lt_zero j)) (lv_sub hl [1, 0, 2, 3] rfl) hP hD hS
end
section
abbrev rm_Files_init : Room := { frames := 1, cells := 4, slots := 34881, locals := 12 }
set_option maxHeartbeats 4000000 in
set_option maxRecDepth 100000 in
theorem c_Files_init (l : Launch) (g : gG) (sz : Nat) (h0 : Nat) : Cv l y_Files_init b_Files_init 1 rm_Files_init g [.ref h0] [(h0, .inr (1, [.null, .null, .null, .null, .int 0]))] sz (fun w => ∃ (a7 : Nat) (a16 : Nat) (a24 : Nat) (a32 : Nat), w = [(h0, .inr (1, [.ref a7, .ref a16, .ref a24, .ref a32, .int 0]))]) := by
  refine startV (by decide) (Nat.le_of_ble_eq_true rfl) ?_
  intro p e s m below meth c A ls hx hb hr hml hlocks hmn hown htt hN hA hP hK hD hS hl
  have hin : meth.name = "<init>" := hmn
  have hown : s.vm.findClass "MacroMill$Files" = some m.cls := hown
  have hl : lv_has ls 1 [(0, .ref h0)] := hl
  refine lv_aload_n hx hb d_Files_init_0 rfl (lv_at hl 0 rfl) ?_
  refine W.objInit hx hb hown (htt _ k_0) (htt _ k_1) (htt _ k_2) rfl (by rw [hml]; exact hl.1) rfl d_Files_init_1 (Nat.le_of_ble_eq_true rfl) (Nat.le_of_ble_eq_true rfl) ?_
  refine W.eq (g2 := F0 m 4 ls []) rfl ?_
  refine lv_aload_n hx hb d_Files_init_4 rfl (lv_at hl 0 rfl) ?_
  refine lv_ldc (v := 32768) hx hb hown (htt _ k_3) d_Files_init_5 ?_
  refine nea0 (g := g) (A := A) (atype := .byte) (ty := .byte) (a0 := (32768, .inl (fun _ => 0))) (N' := 32768) hx hb htt 0 rfl no_byte k_4 rfl hK hP hD hS hA (a0_byte 32768) (by decide +kernel) (by decide +kernel) (by decide +kernel) (by decide +kernel) (by decide +kernel) d_Files_init_7 (fun a7 H hP hD hS => ?_)
  refine W.widen (k := 1) (n := 32768) (by decide +kernel) (by decide +kernel) ?_
  refine va_putF (D := g.1) (ci := 1) (v := .ref a7) (ty := t_Files 0) (C := "MacroMill$Files") (T := F_Files) (N := 5) hx hb htt in_Files t_Files t_Files_ok n_Files hown hK hP hD hS 0 rfl rfl 0 (by decide) (htt _ k_5) (fun _ h9 => h9) rfl hin rfl (t_Files_ok 0 (by decide)) rfl rfl (Nat.le_of_ble_eq_true rfl) d_Files_init_9 (fun H locs hP hD hS => ?_)
  have hP : va_P g.1 classes [(h0, .inr (1, [.ref a7, .null, .null, .null, .int 0]))] H := hP
  have hD : va_D A [(h0, .inr (1, [.ref a7, .null, .null, .null, .int 0]))] := hD
  refine lv_aload_n hx hb d_Files_init_12 rfl (lv_at hl 0 rfl) ?_
  refine lv_sipush (v := 2048) hx hb d_Files_init_13 (by decide) ?_
  refine nea0 (g := g) (A := A) (atype := .byte) (ty := .byte) (a0 := (2048, .inl (fun _ => 0))) (N' := 2048) hx hb htt 0 rfl no_byte k_4 rfl hK hP hD hS hA (a0_byte 2048) (by decide +kernel) (by decide +kernel) (by decide +kernel) (by decide +kernel) (by decide +kernel) d_Files_init_16 (fun a16 H hP hD hS => ?_)
  refine W.widen (k := 2) (n := 34816) (by decide +kernel) (by decide +kernel) ?_
  refine va_putF (D := g.1) (ci := 1) (v := .ref a16) (ty := t_Files 1) (C := "MacroMill$Files") (T := F_Files) (N := 5) hx hb htt in_Files t_Files t_Files_ok n_Files hown hK hP hD hS 0 rfl rfl 1 (by decide) (htt _ k_6) (fun _ h9 => h9) rfl hin rfl (t_Files_ok 1 (by decide)) rfl rfl (Nat.le_of_ble_eq_true rfl) d_Files_init_18 (fun H locs hP hD hS => ?_)
  have hP : va_P g.1 classes [(h0, .inr (1, [.ref a7, .ref a16, .null, .null, .int 0]))] H := hP
  have hD : va_D A [(h0, .inr (1, [.ref a7, .ref a16, .null, .null, .int 0]))] := hD
  refine lv_aload_n hx hb d_Files_init_21 rfl (lv_at hl 0 rfl) ?_
  show W _ _ _ _ _ _ _ _ _ _ _ _ _ _ _ (F0 _ 22 _ _)
  refine lv_bipush (v := 32) hx hb d_Files_init_22 (by decide) ?_
  refine nea0 (g := g) (A := A) (atype := .int) (ty := .int) (a0 := (32, .inl (fun _ => 0))) (N' := 32) hx hb htt 1 rfl no_int k_7 rfl hK hP hD hS hA (a0_int 32) (by decide +kernel) (by decide +kernel) (by decide +kernel) (by decide +kernel) (by decide +kernel) d_Files_init_24 (fun a24 H hP hD hS => ?_)
  refine W.widen (k := 3) (n := 34848) (by decide +kernel) (by decide +kernel) ?_
  refine va_putF (D := g.1) (ci := 1) (v := .ref a24) (ty := t_Files 2) (C := "MacroMill$Files") (T := F_Files) (N := 5) hx hb htt in_Files t_Files t_Files_ok n_Files hown hK hP hD hS 0 rfl rfl 2 (by decide) (htt _ k_8) (fun _ h9 => h9) rfl hin rfl (t_Files_ok 2 (by decide)) rfl rfl (Nat.le_of_ble_eq_true rfl) d_Files_init_26 (fun H locs hP hD hS => ?_)
  have hP : va_P g.1 classes [(h0, .inr (1, [.ref a7, .ref a16, .ref a24, .null, .int 0]))] H := hP
  have hD : va_D A [(h0, .inr (1, [.ref a7, .ref a16, .ref a24, .null, .int 0]))] := hD
  refine lv_aload_n hx hb d_Files_init_29 rfl (lv_at hl 0 rfl) ?_
  refine lv_bipush (v := 33) hx hb d_Files_init_30 (by decide) ?_
  refine nea0 (g := g) (A := A) (atype := .int) (ty := .int) (a0 := (33, .inl (fun _ => 0))) (N' := 33) hx hb htt 1 rfl no_int k_7 rfl hK hP hD hS hA (a0_int 33) (by decide +kernel) (by decide +kernel) (by decide +kernel) (by decide +kernel) (by decide +kernel) d_Files_init_32 (fun a32 H hP hD hS => ?_)
  refine W.widen (k := 4) (n := 34881) (by decide +kernel) (by decide +kernel) ?_
  refine va_putF (D := g.1) (ci := 1) (v := .ref a32) (ty := t_Files 3) (C := "MacroMill$Files") (T := F_Files) (N := 5) hx hb htt in_Files t_Files t_Files_ok n_Files hown hK hP hD hS 0 rfl rfl 3 (by decide) (htt _ k_9) (fun _ h9 => h9) rfl hin rfl (t_Files_ok 3 (by decide)) rfl rfl (Nat.le_of_ble_eq_true rfl) d_Files_init_34 (fun H locs hP hD hS => ?_)
  have hP : va_P g.1 classes [(h0, .inr (1, [.ref a7, .ref a16, .ref a24, .ref a32, .int 0]))] H := hP
  have hD : va_D A [(h0, .inr (1, [.ref a7, .ref a16, .ref a24, .ref a32, .int 0]))] := hD
  exact fin_v (g := g) (ws := [(h0, .inr (1, [.ref a7, .ref a16, .ref a24, .ref a32, .int 0]))]) hx hb hr hlocks (by decide +kernel) (by decide +kernel) hP hD hS ⟨a7, a16, a24, a32, rfl⟩ d_Files_init_37
abbrev rm_Outcome_init : Room := { frames := 1, cells := 1, slots := 65536, locals := 12 }
set_option maxHeartbeats 4000000 in
set_option maxRecDepth 100000 in
theorem c_Outcome_init (l : Launch) (g : gG) (sz : Nat) (h0 : Nat) : Cv l y_Outcome_init b_Outcome_init 1 rm_Outcome_init g [.ref h0] [(h0, .inr (2, [.null, .int 0, .int 0, .int 0, .int 0, .int 0, .int 0, .int 0, .int 0, .int 0]))] sz (fun w => ∃ (a7 : Nat), w = [(h0, .inr (2, [.ref a7, .int 0, .int 0, .int 0, .int 0, .int 0, .int 0, .int 0, .int 0, .int 0]))]) := by
  refine startV (by decide) (Nat.le_of_ble_eq_true rfl) ?_
  intro p e s m below meth c A ls hx hb hr hml hlocks hmn hown htt hN hA hP hK hD hS hl
  have hin : meth.name = "<init>" := hmn
  have hown : s.vm.findClass "MacroMill$Outcome" = some m.cls := hown
  have hl : lv_has ls 1 [(0, .ref h0)] := hl
  refine lv_aload_n hx hb d_Outcome_init_0 rfl (lv_at hl 0 rfl) ?_
  refine W.objInit hx hb hown (htt _ k_10) (htt _ k_1) (htt _ k_2) rfl (by rw [hml]; exact hl.1) rfl d_Outcome_init_1 (Nat.le_of_ble_eq_true rfl) (Nat.le_of_ble_eq_true rfl) ?_
  refine W.eq (g2 := F0 m 4 ls []) rfl ?_
  refine lv_aload_n hx hb d_Outcome_init_4 rfl (lv_at hl 0 rfl) ?_
  refine lv_ldc (v := 65536) hx hb hown (htt _ k_11) d_Outcome_init_5 ?_
  refine nea0 (g := g) (A := A) (atype := .byte) (ty := .byte) (a0 := (65536, .inl (fun _ => 0))) (N' := 65536) hx hb htt 0 rfl no_byte k_4 rfl hK hP hD hS hA (a0_byte 65536) (by decide +kernel) (by decide +kernel) (by decide +kernel) (by decide +kernel) (by decide +kernel) d_Outcome_init_7 (fun a7 H hP hD hS => ?_)
  refine W.widen (k := 1) (n := 65536) (by decide +kernel) (by decide +kernel) ?_
  refine va_putF (D := g.1) (ci := 2) (v := .ref a7) (ty := t_Outcome 0) (C := "MacroMill$Outcome") (T := F_Outcome) (N := 10) hx hb htt in_Outcome t_Outcome t_Outcome_ok n_Outcome hown hK hP hD hS 0 rfl rfl 0 (by decide) (htt _ k_12) (fun _ h9 => h9) rfl hin rfl (t_Outcome_ok 0 (by decide)) rfl rfl (Nat.le_of_ble_eq_true rfl) d_Outcome_init_9 (fun H locs hP hD hS => ?_)
  have hP : va_P g.1 classes [(h0, .inr (2, [.ref a7, .int 0, .int 0, .int 0, .int 0, .int 0, .int 0, .int 0, .int 0, .int 0]))] H := hP
  have hD : va_D A [(h0, .inr (2, [.ref a7, .int 0, .int 0, .int 0, .int 0, .int 0, .int 0, .int 0, .int 0, .int 0]))] := hD
  exact fin_v (g := g) (ws := [(h0, .inr (2, [.ref a7, .int 0, .int 0, .int 0, .int 0, .int 0, .int 0, .int 0, .int 0, .int 0]))]) hx hb hr hlocks (by decide +kernel) (by decide +kernel) hP hD hS ⟨a7, rfl⟩ d_Outcome_init_12
abbrev rm_Reckoner_init : Room := { frames := 1, cells := 5, slots := 5000, locals := 12 }
set_option maxHeartbeats 4000000 in
set_option maxRecDepth 100000 in
theorem c_Reckoner_init (l : Launch) (g : gG) (sz : Nat) (h0 : Nat) : Cv l y_Reckoner_init b_Reckoner_init 1 rm_Reckoner_init g [.ref h0] [(h0, .inr (3, [.null, .null, .int 0, .null, .null, .null, .int 0, .int 0, .int 0, .int 0, .int 0, .int 0, .int 0]))] sz (fun w => ∃ (a8 : Nat) (a17 : Nat) (a26 : Nat) (a35 : Nat) (a44 : Nat), w = [(h0, .inr (3, [.ref a8, .ref a17, .int 0, .ref a26, .ref a35, .ref a44, .int 0, .int 0, .int 0, .int 0, .int 0, .int 0, .int 0]))]) := by
  refine startV (by decide) (Nat.le_of_ble_eq_true rfl) ?_
  intro p e s m below meth c A ls hx hb hr hml hlocks hmn hown htt hN hA hP hK hD hS hl
  have hin : meth.name = "<init>" := hmn
  have hown : s.vm.findClass "MacroMill$Reckoner" = some m.cls := hown
  have hl : lv_has ls 1 [(0, .ref h0)] := hl
  refine lv_aload_n hx hb d_Reckoner_init_0 rfl (lv_at hl 0 rfl) ?_
  refine W.objInit hx hb hown (htt _ k_13) (htt _ k_1) (htt _ k_2) rfl (by rw [hml]; exact hl.1) rfl d_Reckoner_init_1 (Nat.le_of_ble_eq_true rfl) (Nat.le_of_ble_eq_true rfl) ?_
  refine W.eq (g2 := F0 m 4 ls []) rfl ?_
  refine lv_aload_n hx hb d_Reckoner_init_4 rfl (lv_at hl 0 rfl) ?_
  refine lv_sipush (v := 1000) hx hb d_Reckoner_init_5 (by decide) ?_
  refine nea0 (g := g) (A := A) (atype := .long) (ty := .long) (a0 := (1000, .inr (.inl (fun _ => 0)))) (N' := 1000) hx hb htt 2 rfl no_long k_14 rfl hK hP hD hS hA (a0_long 1000) (by decide +kernel) (by decide +kernel) (by decide +kernel) (by decide +kernel) (by decide +kernel) d_Reckoner_init_8 (fun a8 H hP hD hS => ?_)
  refine W.widen (k := 1) (n := 1000) (by decide +kernel) (by decide +kernel) ?_
  refine va_putF (D := g.1) (ci := 3) (v := .ref a8) (ty := t_Reckoner 0) (C := "MacroMill$Reckoner") (T := F_Reckoner) (N := 13) hx hb htt in_Reckoner t_Reckoner t_Reckoner_ok n_Reckoner hown hK hP hD hS 0 rfl rfl 0 (by decide) (htt _ k_15) (fun _ h9 => h9) rfl hin rfl (t_Reckoner_ok 0 (by decide)) rfl rfl (Nat.le_of_ble_eq_true rfl) d_Reckoner_init_10 (fun H locs hP hD hS => ?_)
  have hP : va_P g.1 classes [(h0, .inr (3, [.ref a8, .null, .int 0, .null, .null, .null, .int 0, .int 0, .int 0, .int 0, .int 0, .int 0, .int 0]))] H := hP
  have hD : va_D A [(h0, .inr (3, [.ref a8, .null, .int 0, .null, .null, .null, .int 0, .int 0, .int 0, .int 0, .int 0, .int 0, .int 0]))] := hD
  refine lv_aload_n hx hb d_Reckoner_init_13 rfl (lv_at hl 0 rfl) ?_
  refine lv_sipush (v := 1000) hx hb d_Reckoner_init_14 (by decide) ?_
  refine nea0 (g := g) (A := A) (atype := .boolean) (ty := .boolean) (a0 := (1000, .inl (fun _ => 0))) (N' := 1000) hx hb htt 3 rfl no_boolean k_16 rfl hK hP hD hS hA (a0_boolean 1000) (by decide +kernel) (by decide +kernel) (by decide +kernel) (by decide +kernel) (by decide +kernel) d_Reckoner_init_17 (fun a17 H hP hD hS => ?_)
  refine W.widen (k := 2) (n := 2000) (by decide +kernel) (by decide +kernel) ?_
  refine va_putF (D := g.1) (ci := 3) (v := .ref a17) (ty := t_Reckoner 1) (C := "MacroMill$Reckoner") (T := F_Reckoner) (N := 13) hx hb htt in_Reckoner t_Reckoner t_Reckoner_ok n_Reckoner hown hK hP hD hS 0 rfl rfl 1 (by decide) (htt _ k_17) (fun _ h9 => h9) rfl hin rfl (t_Reckoner_ok 1 (by decide)) rfl rfl (Nat.le_of_ble_eq_true rfl) d_Reckoner_init_19 (fun H locs hP hD hS => ?_)
  have hP : va_P g.1 classes [(h0, .inr (3, [.ref a8, .ref a17, .int 0, .null, .null, .null, .int 0, .int 0, .int 0, .int 0, .int 0, .int 0, .int 0]))] H := hP
  have hD : va_D A [(h0, .inr (3, [.ref a8, .ref a17, .int 0, .null, .null, .null, .int 0, .int 0, .int 0, .int 0, .int 0, .int 0, .int 0]))] := hD
  refine lv_aload_n hx hb d_Reckoner_init_22 rfl (lv_at hl 0 rfl) ?_
  show W _ _ _ _ _ _ _ _ _ _ _ _ _ _ _ (F0 _ 23 _ _)
  refine lv_sipush (v := 1000) hx hb d_Reckoner_init_23 (by decide) ?_
  refine nea0 (g := g) (A := A) (atype := .int) (ty := .int) (a0 := (1000, .inl (fun _ => 0))) (N' := 1000) hx hb htt 1 rfl no_int k_7 rfl hK hP hD hS hA (a0_int 1000) (by decide +kernel) (by decide +kernel) (by decide +kernel) (by decide +kernel) (by decide +kernel) d_Reckoner_init_26 (fun a26 H hP hD hS => ?_)
  refine W.widen (k := 3) (n := 3000) (by decide +kernel) (by decide +kernel) ?_
  refine va_putF (D := g.1) (ci := 3) (v := .ref a26) (ty := t_Reckoner 3) (C := "MacroMill$Reckoner") (T := F_Reckoner) (N := 13) hx hb htt in_Reckoner t_Reckoner t_Reckoner_ok n_Reckoner hown hK hP hD hS 0 rfl rfl 3 (by decide) (htt _ k_18) (fun _ h9 => h9) rfl hin rfl (t_Reckoner_ok 3 (by decide)) rfl rfl (Nat.le_of_ble_eq_true rfl) d_Reckoner_init_28 (fun H locs hP hD hS => ?_)
  have hP : va_P g.1 classes [(h0, .inr (3, [.ref a8, .ref a17, .int 0, .ref a26, .null, .null, .int 0, .int 0, .int 0, .int 0, .int 0, .int 0, .int 0]))] H := hP
  have hD : va_D A [(h0, .inr (3, [.ref a8, .ref a17, .int 0, .ref a26, .null, .null, .int 0, .int 0, .int 0, .int 0, .int 0, .int 0, .int 0]))] := hD
  refine lv_aload_n hx hb d_Reckoner_init_31 rfl (lv_at hl 0 rfl) ?_
  refine lv_sipush (v := 1000) hx hb d_Reckoner_init_32 (by decide) ?_
  refine nea0 (g := g) (A := A) (atype := .int) (ty := .int) (a0 := (1000, .inl (fun _ => 0))) (N' := 1000) hx hb htt 1 rfl no_int k_7 rfl hK hP hD hS hA (a0_int 1000) (by decide +kernel) (by decide +kernel) (by decide +kernel) (by decide +kernel) (by decide +kernel) d_Reckoner_init_35 (fun a35 H hP hD hS => ?_)
  refine W.widen (k := 4) (n := 4000) (by decide +kernel) (by decide +kernel) ?_
  refine va_putF (D := g.1) (ci := 3) (v := .ref a35) (ty := t_Reckoner 4) (C := "MacroMill$Reckoner") (T := F_Reckoner) (N := 13) hx hb htt in_Reckoner t_Reckoner t_Reckoner_ok n_Reckoner hown hK hP hD hS 0 rfl rfl 4 (by decide) (htt _ k_19) (fun _ h9 => h9) rfl hin rfl (t_Reckoner_ok 4 (by decide)) rfl rfl (Nat.le_of_ble_eq_true rfl) d_Reckoner_init_37 (fun H locs hP hD hS => ?_)
  have hP : va_P g.1 classes [(h0, .inr (3, [.ref a8, .ref a17, .int 0, .ref a26, .ref a35, .null, .int 0, .int 0, .int 0, .int 0, .int 0, .int 0, .int 0]))] H := hP
  have hD : va_D A [(h0, .inr (3, [.ref a8, .ref a17, .int 0, .ref a26, .ref a35, .null, .int 0, .int 0, .int 0, .int 0, .int 0, .int 0, .int 0]))] := hD
  refine lv_aload_n hx hb d_Reckoner_init_40 rfl (lv_at hl 0 rfl) ?_
  refine lv_sipush (v := 1000) hx hb d_Reckoner_init_41 (by decide) ?_
  refine nea0 (g := g) (A := A) (atype := .boolean) (ty := .boolean) (a0 := (1000, .inl (fun _ => 0))) (N' := 1000) hx hb htt 3 rfl no_boolean k_16 rfl hK hP hD hS hA (a0_boolean 1000) (by decide +kernel) (by decide +kernel) (by decide +kernel) (by decide +kernel) (by decide +kernel) d_Reckoner_init_44 (fun a44 H hP hD hS => ?_)
  refine W.widen (k := 5) (n := 5000) (by decide +kernel) (by decide +kernel) ?_
  refine va_putF (D := g.1) (ci := 3) (v := .ref a44) (ty := t_Reckoner 5) (C := "MacroMill$Reckoner") (T := F_Reckoner) (N := 13) hx hb htt in_Reckoner t_Reckoner t_Reckoner_ok n_Reckoner hown hK hP hD hS 0 rfl rfl 5 (by decide) (htt _ k_20) (fun _ h9 => h9) rfl hin rfl (t_Reckoner_ok 5 (by decide)) rfl rfl (Nat.le_of_ble_eq_true rfl) d_Reckoner_init_46 (fun H locs hP hD hS => ?_)
  have hP : va_P g.1 classes [(h0, .inr (3, [.ref a8, .ref a17, .int 0, .ref a26, .ref a35, .ref a44, .int 0, .int 0, .int 0, .int 0, .int 0, .int 0, .int 0]))] H := hP
  have hD : va_D A [(h0, .inr (3, [.ref a8, .ref a17, .int 0, .ref a26, .ref a35, .ref a44, .int 0, .int 0, .int 0, .int 0, .int 0, .int 0, .int 0]))] := hD
  exact fin_v (g := g) (ws := [(h0, .inr (3, [.ref a8, .ref a17, .int 0, .ref a26, .ref a35, .ref a44, .int 0, .int 0, .int 0, .int 0, .int 0, .int 0, .int 0]))]) hx hb hr hlocks (by decide +kernel) (by decide +kernel) hP hD hS ⟨a8, a17, a26, a35, a44, rfl⟩ d_Reckoner_init_49
abbrev rm_Calls_init : Room := { frames := 1, cells := 7, slots := 24826, locals := 12 }
set_option maxHeartbeats 4000000 in
set_option maxRecDepth 100000 in
theorem c_Calls_init (l : Launch) (g : gG) (sz : Nat) (h0 : Nat) : Cv l y_Calls_init b_Calls_init 1 rm_Calls_init g [.ref h0] [(h0, .inr (6, [.null, .int 0, .null, .int 0, .null, .null, .null, .null, .null, .int 0]))] sz (fun w => ∃ (a8 : Nat) (a17 : Nat) (a25 : Nat) (a33 : Nat) (a41 : Nat) (a49 : Nat) (a57 : Nat), w = [(h0, .inr (6, [.ref a8, .int 0, .ref a17, .int 0, .ref a25, .ref a33, .ref a41, .ref a49, .ref a57, .int 0]))]) := by
  refine startV (by decide) (Nat.le_of_ble_eq_true rfl) ?_
  intro p e s m below meth c A ls hx hb hr hml hlocks hmn hown htt hN hA hP hK hD hS hl
  have hin : meth.name = "<init>" := hmn
  have hown : s.vm.findClass "MacroMill$Calls" = some m.cls := hown
  have hl : lv_has ls 1 [(0, .ref h0)] := hl
  refine lv_aload_n hx hb d_Calls_init_0 rfl (lv_at hl 0 rfl) ?_
  refine W.objInit hx hb hown (htt _ k_21) (htt _ k_1) (htt _ k_2) rfl (by rw [hml]; exact hl.1) rfl d_Calls_init_1 (Nat.le_of_ble_eq_true rfl) (Nat.le_of_ble_eq_true rfl) ?_
  refine W.eq (g2 := F0 m 4 ls []) rfl ?_
  refine lv_aload_n hx hb d_Calls_init_4 rfl (lv_at hl 0 rfl) ?_
  refine lv_sipush (v := 16384) hx hb d_Calls_init_5 (by decide) ?_
  refine nea0 (g := g) (A := A) (atype := .byte) (ty := .byte) (a0 := (16384, .inl (fun _ => 0))) (N' := 16384) hx hb htt 0 rfl no_byte k_4 rfl hK hP hD hS hA (a0_byte 16384) (by decide +kernel) (by decide +kernel) (by decide +kernel) (by decide +kernel) (by decide +kernel) d_Calls_init_8 (fun a8 H hP hD hS => ?_)
  refine W.widen (k := 1) (n := 16384) (by decide +kernel) (by decide +kernel) ?_
  refine va_putF (D := g.1) (ci := 6) (v := .ref a8) (ty := t_Calls 0) (C := "MacroMill$Calls") (T := F_Calls) (N := 10) hx hb htt in_Calls t_Calls t_Calls_ok n_Calls hown hK hP hD hS 0 rfl rfl 0 (by decide) (htt _ k_22) (fun _ h9 => h9) rfl hin rfl (t_Calls_ok 0 (by decide)) rfl rfl (Nat.le_of_ble_eq_true rfl) d_Calls_init_10 (fun H locs hP hD hS => ?_)
  have hP : va_P g.1 classes [(h0, .inr (6, [.ref a8, .int 0, .null, .int 0, .null, .null, .null, .null, .null, .int 0]))] H := hP
  have hD : va_D A [(h0, .inr (6, [.ref a8, .int 0, .null, .int 0, .null, .null, .null, .null, .null, .int 0]))] := hD
  refine lv_aload_n hx hb d_Calls_init_13 rfl (lv_at hl 0 rfl) ?_
  refine lv_sipush (v := 8192) hx hb d_Calls_init_14 (by decide) ?_
  refine nea0 (g := g) (A := A) (atype := .int) (ty := .int) (a0 := (8192, .inl (fun _ => 0))) (N' := 8192) hx hb htt 1 rfl no_int k_7 rfl hK hP hD hS hA (a0_int 8192) (by decide +kernel) (by decide +kernel) (by decide +kernel) (by decide +kernel) (by decide +kernel) d_Calls_init_17 (fun a17 H hP hD hS => ?_)
  refine W.widen (k := 2) (n := 24576) (by decide +kernel) (by decide +kernel) ?_
  refine va_putF (D := g.1) (ci := 6) (v := .ref a17) (ty := t_Calls 2) (C := "MacroMill$Calls") (T := F_Calls) (N := 10) hx hb htt in_Calls t_Calls t_Calls_ok n_Calls hown hK hP hD hS 0 rfl rfl 2 (by decide) (htt _ k_23) (fun _ h9 => h9) rfl hin rfl (t_Calls_ok 2 (by decide)) rfl rfl (Nat.le_of_ble_eq_true rfl) d_Calls_init_19 (fun H locs hP hD hS => ?_)
  have hP : va_P g.1 classes [(h0, .inr (6, [.ref a8, .int 0, .ref a17, .int 0, .null, .null, .null, .null, .null, .int 0]))] H := hP
  have hD : va_D A [(h0, .inr (6, [.ref a8, .int 0, .ref a17, .int 0, .null, .null, .null, .null, .null, .int 0]))] := hD
  refine lv_aload_n hx hb d_Calls_init_22 rfl (lv_at hl 0 rfl) ?_
  show W _ _ _ _ _ _ _ _ _ _ _ _ _ _ _ (F0 _ 23 _ _)
  refine lv_bipush (v := 50) hx hb d_Calls_init_23 (by decide) ?_
  refine nea0 (g := g) (A := A) (atype := .int) (ty := .int) (a0 := (50, .inl (fun _ => 0))) (N' := 50) hx hb htt 1 rfl no_int k_7 rfl hK hP hD hS hA (a0_int 50) (by decide +kernel) (by decide +kernel) (by decide +kernel) (by decide +kernel) (by decide +kernel) d_Calls_init_25 (fun a25 H hP hD hS => ?_)
  refine W.widen (k := 3) (n := 24626) (by decide +kernel) (by decide +kernel) ?_
  refine va_putF (D := g.1) (ci := 6) (v := .ref a25) (ty := t_Calls 4) (C := "MacroMill$Calls") (T := F_Calls) (N := 10) hx hb htt in_Calls t_Calls t_Calls_ok n_Calls hown hK hP hD hS 0 rfl rfl 4 (by decide) (htt _ k_24) (fun _ h9 => h9) rfl hin rfl (t_Calls_ok 4 (by decide)) rfl rfl (Nat.le_of_ble_eq_true rfl) d_Calls_init_27 (fun H locs hP hD hS => ?_)
  have hP : va_P g.1 classes [(h0, .inr (6, [.ref a8, .int 0, .ref a17, .int 0, .ref a25, .null, .null, .null, .null, .int 0]))] H := hP
  have hD : va_D A [(h0, .inr (6, [.ref a8, .int 0, .ref a17, .int 0, .ref a25, .null, .null, .null, .null, .int 0]))] := hD
  refine lv_aload_n hx hb d_Calls_init_30 rfl (lv_at hl 0 rfl) ?_
  refine lv_bipush (v := 50) hx hb d_Calls_init_31 (by decide) ?_
  refine nea0 (g := g) (A := A) (atype := .int) (ty := .int) (a0 := (50, .inl (fun _ => 0))) (N' := 50) hx hb htt 1 rfl no_int k_7 rfl hK hP hD hS hA (a0_int 50) (by decide +kernel) (by decide +kernel) (by decide +kernel) (by decide +kernel) (by decide +kernel) d_Calls_init_33 (fun a33 H hP hD hS => ?_)
  refine W.widen (k := 4) (n := 24676) (by decide +kernel) (by decide +kernel) ?_
  refine va_putF (D := g.1) (ci := 6) (v := .ref a33) (ty := t_Calls 5) (C := "MacroMill$Calls") (T := F_Calls) (N := 10) hx hb htt in_Calls t_Calls t_Calls_ok n_Calls hown hK hP hD hS 0 rfl rfl 5 (by decide) (htt _ k_25) (fun _ h9 => h9) rfl hin rfl (t_Calls_ok 5 (by decide)) rfl rfl (Nat.le_of_ble_eq_true rfl) d_Calls_init_35 (fun H locs hP hD hS => ?_)
  have hP : va_P g.1 classes [(h0, .inr (6, [.ref a8, .int 0, .ref a17, .int 0, .ref a25, .ref a33, .null, .null, .null, .int 0]))] H := hP
  have hD : va_D A [(h0, .inr (6, [.ref a8, .int 0, .ref a17, .int 0, .ref a25, .ref a33, .null, .null, .null, .int 0]))] := hD
  refine lv_aload_n hx hb d_Calls_init_38 rfl (lv_at hl 0 rfl) ?_
  refine lv_bipush (v := 50) hx hb d_Calls_init_39 (by decide) ?_
  refine nea0 (g := g) (A := A) (atype := .int) (ty := .int) (a0 := (50, .inl (fun _ => 0))) (N' := 50) hx hb htt 1 rfl no_int k_7 rfl hK hP hD hS hA (a0_int 50) (by decide +kernel) (by decide +kernel) (by decide +kernel) (by decide +kernel) (by decide +kernel) d_Calls_init_41 (fun a41 H hP hD hS => ?_)
  refine W.widen (k := 5) (n := 24726) (by decide +kernel) (by decide +kernel) ?_
  refine va_putF (D := g.1) (ci := 6) (v := .ref a41) (ty := t_Calls 6) (C := "MacroMill$Calls") (T := F_Calls) (N := 10) hx hb htt in_Calls t_Calls t_Calls_ok n_Calls hown hK hP hD hS 0 rfl rfl 6 (by decide) (htt _ k_26) (fun _ h9 => h9) rfl hin rfl (t_Calls_ok 6 (by decide)) rfl rfl (Nat.le_of_ble_eq_true rfl) d_Calls_init_43 (fun H locs hP hD hS => ?_)
  have hP : va_P g.1 classes [(h0, .inr (6, [.ref a8, .int 0, .ref a17, .int 0, .ref a25, .ref a33, .ref a41, .null, .null, .int 0]))] H := hP
  have hD : va_D A [(h0, .inr (6, [.ref a8, .int 0, .ref a17, .int 0, .ref a25, .ref a33, .ref a41, .null, .null, .int 0]))] := hD
  refine lv_aload_n hx hb d_Calls_init_46 rfl (lv_at hl 0 rfl) ?_
  show W _ _ _ _ _ _ _ _ _ _ _ _ _ _ _ (F0 _ 47 _ _)
  refine lv_bipush (v := 50) hx hb d_Calls_init_47 (by decide) ?_
  refine nea0 (g := g) (A := A) (atype := .int) (ty := .int) (a0 := (50, .inl (fun _ => 0))) (N' := 50) hx hb htt 1 rfl no_int k_7 rfl hK hP hD hS hA (a0_int 50) (by decide +kernel) (by decide +kernel) (by decide +kernel) (by decide +kernel) (by decide +kernel) d_Calls_init_49 (fun a49 H hP hD hS => ?_)
  refine W.widen (k := 6) (n := 24776) (by decide +kernel) (by decide +kernel) ?_
  refine va_putF (D := g.1) (ci := 6) (v := .ref a49) (ty := t_Calls 7) (C := "MacroMill$Calls") (T := F_Calls) (N := 10) hx hb htt in_Calls t_Calls t_Calls_ok n_Calls hown hK hP hD hS 0 rfl rfl 7 (by decide) (htt _ k_27) (fun _ h9 => h9) rfl hin rfl (t_Calls_ok 7 (by decide)) rfl rfl (Nat.le_of_ble_eq_true rfl) d_Calls_init_51 (fun H locs hP hD hS => ?_)
  have hP : va_P g.1 classes [(h0, .inr (6, [.ref a8, .int 0, .ref a17, .int 0, .ref a25, .ref a33, .ref a41, .ref a49, .null, .int 0]))] H := hP
  have hD : va_D A [(h0, .inr (6, [.ref a8, .int 0, .ref a17, .int 0, .ref a25, .ref a33, .ref a41, .ref a49, .null, .int 0]))] := hD
  refine lv_aload_n hx hb d_Calls_init_54 rfl (lv_at hl 0 rfl) ?_
  refine lv_bipush (v := 50) hx hb d_Calls_init_55 (by decide) ?_
  refine nea0 (g := g) (A := A) (atype := .boolean) (ty := .boolean) (a0 := (50, .inl (fun _ => 0))) (N' := 50) hx hb htt 3 rfl no_boolean k_16 rfl hK hP hD hS hA (a0_boolean 50) (by decide +kernel) (by decide +kernel) (by decide +kernel) (by decide +kernel) (by decide +kernel) d_Calls_init_57 (fun a57 H hP hD hS => ?_)
  refine W.widen (k := 7) (n := 24826) (by decide +kernel) (by decide +kernel) ?_
  refine va_putF (D := g.1) (ci := 6) (v := .ref a57) (ty := t_Calls 8) (C := "MacroMill$Calls") (T := F_Calls) (N := 10) hx hb htt in_Calls t_Calls t_Calls_ok n_Calls hown hK hP hD hS 0 rfl rfl 8 (by decide) (htt _ k_28) (fun _ h9 => h9) rfl hin rfl (t_Calls_ok 8 (by decide)) rfl rfl (Nat.le_of_ble_eq_true rfl) d_Calls_init_59 (fun H locs hP hD hS => ?_)
  have hP : va_P g.1 classes [(h0, .inr (6, [.ref a8, .int 0, .ref a17, .int 0, .ref a25, .ref a33, .ref a41, .ref a49, .ref a57, .int 0]))] H := hP
  have hD : va_D A [(h0, .inr (6, [.ref a8, .int 0, .ref a17, .int 0, .ref a25, .ref a33, .ref a41, .ref a49, .ref a57, .int 0]))] := hD
  exact fin_v (g := g) (ws := [(h0, .inr (6, [.ref a8, .int 0, .ref a17, .int 0, .ref a25, .ref a33, .ref a41, .ref a49, .ref a57, .int 0]))]) hx hb hr hlocks (by decide +kernel) (by decide +kernel) hP hD hS ⟨a8, a17, a25, a33, a41, a49, a57, rfl⟩ d_Calls_init_62
abbrev rm_Meanings_init : Room := { frames := 1, cells := 7, slots := 35121, locals := 12 }
set_option maxHeartbeats 4000000 in
set_option maxRecDepth 100000 in
theorem c_Meanings_init (l : Launch) (g : gG) (sz : Nat) (h0 : Nat) : Cv l y_Meanings_init b_Meanings_init 1 rm_Meanings_init g [.ref h0] [(h0, .inr (7, [.null, .int 0, .null, .null, .int 0, .null, .null, .null, .null, .int 0, .int 0]))] sz (fun w => ∃ (a7 : Nat) (a16 : Nat) (a25 : Nat) (a34 : Nat) (a43 : Nat) (a52 : Nat) (a61 : Nat), w = [(h0, .inr (7, [.ref a7, .int 0, .ref a16, .ref a25, .int 0, .ref a34, .ref a43, .ref a52, .ref a61, .int 0, .int 0]))]) := by
  refine startV (by decide) (Nat.le_of_ble_eq_true rfl) ?_
  intro p e s m below meth c A ls hx hb hr hml hlocks hmn hown htt hN hA hP hK hD hS hl
  have hin : meth.name = "<init>" := hmn
  have hown : s.vm.findClass "MacroMill$Meanings" = some m.cls := hown
  have hl : lv_has ls 1 [(0, .ref h0)] := hl
  refine lv_aload_n hx hb d_Meanings_init_0 rfl (lv_at hl 0 rfl) ?_
  refine W.objInit hx hb hown (htt _ k_29) (htt _ k_1) (htt _ k_2) rfl (by rw [hml]; exact hl.1) rfl d_Meanings_init_1 (Nat.le_of_ble_eq_true rfl) (Nat.le_of_ble_eq_true rfl) ?_
  refine W.eq (g2 := F0 m 4 ls []) rfl ?_
  refine lv_aload_n hx hb d_Meanings_init_4 rfl (lv_at hl 0 rfl) ?_
  refine lv_ldc (v := 33280) hx hb hown (htt _ k_30) d_Meanings_init_5 ?_
  refine nea0 (g := g) (A := A) (atype := .byte) (ty := .byte) (a0 := (33280, .inl (fun _ => 0))) (N' := 33280) hx hb htt 0 rfl no_byte k_4 rfl hK hP hD hS hA (a0_byte 33280) (by decide +kernel) (by decide +kernel) (by decide +kernel) (by decide +kernel) (by decide +kernel) d_Meanings_init_7 (fun a7 H hP hD hS => ?_)
  refine W.widen (k := 1) (n := 33280) (by decide +kernel) (by decide +kernel) ?_
  refine va_putF (D := g.1) (ci := 7) (v := .ref a7) (ty := t_Meanings 0) (C := "MacroMill$Meanings") (T := F_Meanings) (N := 11) hx hb htt in_Meanings t_Meanings t_Meanings_ok n_Meanings hown hK hP hD hS 0 rfl rfl 0 (by decide) (htt _ k_31) (fun _ h9 => h9) rfl hin rfl (t_Meanings_ok 0 (by decide)) rfl rfl (Nat.le_of_ble_eq_true rfl) d_Meanings_init_9 (fun H locs hP hD hS => ?_)
  have hP : va_P g.1 classes [(h0, .inr (7, [.ref a7, .int 0, .null, .null, .int 0, .null, .null, .null, .null, .int 0, .int 0]))] H := hP
  have hD : va_D A [(h0, .inr (7, [.ref a7, .int 0, .null, .null, .int 0, .null, .null, .null, .null, .int 0, .int 0]))] := hD
  refine lv_aload_n hx hb d_Meanings_init_12 rfl (lv_at hl 0 rfl) ?_
  refine lv_sipush (v := 256) hx hb d_Meanings_init_13 (by decide) ?_
  refine nea0 (g := g) (A := A) (atype := .int) (ty := .int) (a0 := (256, .inl (fun _ => 0))) (N' := 256) hx hb htt 1 rfl no_int k_7 rfl hK hP hD hS hA (a0_int 256) (by decide +kernel) (by decide +kernel) (by decide +kernel) (by decide +kernel) (by decide +kernel) d_Meanings_init_16 (fun a16 H hP hD hS => ?_)
  refine W.widen (k := 2) (n := 33536) (by decide +kernel) (by decide +kernel) ?_
  refine va_putF (D := g.1) (ci := 7) (v := .ref a16) (ty := t_Meanings 2) (C := "MacroMill$Meanings") (T := F_Meanings) (N := 11) hx hb htt in_Meanings t_Meanings t_Meanings_ok n_Meanings hown hK hP hD hS 0 rfl rfl 2 (by decide) (htt _ k_32) (fun _ h9 => h9) rfl hin rfl (t_Meanings_ok 2 (by decide)) rfl rfl (Nat.le_of_ble_eq_true rfl) d_Meanings_init_18 (fun H locs hP hD hS => ?_)
  have hP : va_P g.1 classes [(h0, .inr (7, [.ref a7, .int 0, .ref a16, .null, .int 0, .null, .null, .null, .null, .int 0, .int 0]))] H := hP
  have hD : va_D A [(h0, .inr (7, [.ref a7, .int 0, .ref a16, .null, .int 0, .null, .null, .null, .null, .int 0, .int 0]))] := hD
  refine lv_aload_n hx hb d_Meanings_init_21 rfl (lv_at hl 0 rfl) ?_
  show W _ _ _ _ _ _ _ _ _ _ _ _ _ _ _ (F0 _ 22 _ _)
  refine lv_sipush (v := 317) hx hb d_Meanings_init_22 (by decide) ?_
  refine nea0 (g := g) (A := A) (atype := .int) (ty := .int) (a0 := (317, .inl (fun _ => 0))) (N' := 317) hx hb htt 1 rfl no_int k_7 rfl hK hP hD hS hA (a0_int 317) (by decide +kernel) (by decide +kernel) (by decide +kernel) (by decide +kernel) (by decide +kernel) d_Meanings_init_25 (fun a25 H hP hD hS => ?_)
  refine W.widen (k := 3) (n := 33853) (by decide +kernel) (by decide +kernel) ?_
  refine va_putF (D := g.1) (ci := 7) (v := .ref a25) (ty := t_Meanings 3) (C := "MacroMill$Meanings") (T := F_Meanings) (N := 11) hx hb htt in_Meanings t_Meanings t_Meanings_ok n_Meanings hown hK hP hD hS 0 rfl rfl 3 (by decide) (htt _ k_33) (fun _ h9 => h9) rfl hin rfl (t_Meanings_ok 3 (by decide)) rfl rfl (Nat.le_of_ble_eq_true rfl) d_Meanings_init_27 (fun H locs hP hD hS => ?_)
  have hP : va_P g.1 classes [(h0, .inr (7, [.ref a7, .int 0, .ref a16, .ref a25, .int 0, .null, .null, .null, .null, .int 0, .int 0]))] H := hP
  have hD : va_D A [(h0, .inr (7, [.ref a7, .int 0, .ref a16, .ref a25, .int 0, .null, .null, .null, .null, .int 0, .int 0]))] := hD
  refine lv_aload_n hx hb d_Meanings_init_30 rfl (lv_at hl 0 rfl) ?_
  refine lv_sipush (v := 317) hx hb d_Meanings_init_31 (by decide) ?_
  refine nea0 (g := g) (A := A) (atype := .int) (ty := .int) (a0 := (317, .inl (fun _ => 0))) (N' := 317) hx hb htt 1 rfl no_int k_7 rfl hK hP hD hS hA (a0_int 317) (by decide +kernel) (by decide +kernel) (by decide +kernel) (by decide +kernel) (by decide +kernel) d_Meanings_init_34 (fun a34 H hP hD hS => ?_)
  refine W.widen (k := 4) (n := 34170) (by decide +kernel) (by decide +kernel) ?_
  refine va_putF (D := g.1) (ci := 7) (v := .ref a34) (ty := t_Meanings 5) (C := "MacroMill$Meanings") (T := F_Meanings) (N := 11) hx hb htt in_Meanings t_Meanings t_Meanings_ok n_Meanings hown hK hP hD hS 0 rfl rfl 5 (by decide) (htt _ k_34) (fun _ h9 => h9) rfl hin rfl (t_Meanings_ok 5 (by decide)) rfl rfl (Nat.le_of_ble_eq_true rfl) d_Meanings_init_36 (fun H locs hP hD hS => ?_)
  have hP : va_P g.1 classes [(h0, .inr (7, [.ref a7, .int 0, .ref a16, .ref a25, .int 0, .ref a34, .null, .null, .null, .int 0, .int 0]))] H := hP
  have hD : va_D A [(h0, .inr (7, [.ref a7, .int 0, .ref a16, .ref a25, .int 0, .ref a34, .null, .null, .null, .int 0, .int 0]))] := hD
  refine lv_aload_n hx hb d_Meanings_init_39 rfl (lv_at hl 0 rfl) ?_
  refine lv_sipush (v := 317) hx hb d_Meanings_init_40 (by decide) ?_
  refine nea0 (g := g) (A := A) (atype := .int) (ty := .int) (a0 := (317, .inl (fun _ => 0))) (N' := 317) hx hb htt 1 rfl no_int k_7 rfl hK hP hD hS hA (a0_int 317) (by decide +kernel) (by decide +kernel) (by decide +kernel) (by decide +kernel) (by decide +kernel) d_Meanings_init_43 (fun a43 H hP hD hS => ?_)
  refine W.widen (k := 5) (n := 34487) (by decide +kernel) (by decide +kernel) ?_
  refine va_putF (D := g.1) (ci := 7) (v := .ref a43) (ty := t_Meanings 6) (C := "MacroMill$Meanings") (T := F_Meanings) (N := 11) hx hb htt in_Meanings t_Meanings t_Meanings_ok n_Meanings hown hK hP hD hS 0 rfl rfl 6 (by decide) (htt _ k_35) (fun _ h9 => h9) rfl hin rfl (t_Meanings_ok 6 (by decide)) rfl rfl (Nat.le_of_ble_eq_true rfl) d_Meanings_init_45 (fun H locs hP hD hS => ?_)
  have hP : va_P g.1 classes [(h0, .inr (7, [.ref a7, .int 0, .ref a16, .ref a25, .int 0, .ref a34, .ref a43, .null, .null, .int 0, .int 0]))] H := hP
  have hD : va_D A [(h0, .inr (7, [.ref a7, .int 0, .ref a16, .ref a25, .int 0, .ref a34, .ref a43, .null, .null, .int 0, .int 0]))] := hD
  refine lv_aload_n hx hb d_Meanings_init_48 rfl (lv_at hl 0 rfl) ?_
  show W _ _ _ _ _ _ _ _ _ _ _ _ _ _ _ (F0 _ 49 _ _)
  refine lv_sipush (v := 317) hx hb d_Meanings_init_49 (by decide) ?_
  refine nea0 (g := g) (A := A) (atype := .int) (ty := .int) (a0 := (317, .inl (fun _ => 0))) (N' := 317) hx hb htt 1 rfl no_int k_7 rfl hK hP hD hS hA (a0_int 317) (by decide +kernel) (by decide +kernel) (by decide +kernel) (by decide +kernel) (by decide +kernel) d_Meanings_init_52 (fun a52 H hP hD hS => ?_)
  refine W.widen (k := 6) (n := 34804) (by decide +kernel) (by decide +kernel) ?_
  refine va_putF (D := g.1) (ci := 7) (v := .ref a52) (ty := t_Meanings 7) (C := "MacroMill$Meanings") (T := F_Meanings) (N := 11) hx hb htt in_Meanings t_Meanings t_Meanings_ok n_Meanings hown hK hP hD hS 0 rfl rfl 7 (by decide) (htt _ k_36) (fun _ h9 => h9) rfl hin rfl (t_Meanings_ok 7 (by decide)) rfl rfl (Nat.le_of_ble_eq_true rfl) d_Meanings_init_54 (fun H locs hP hD hS => ?_)
  have hP : va_P g.1 classes [(h0, .inr (7, [.ref a7, .int 0, .ref a16, .ref a25, .int 0, .ref a34, .ref a43, .ref a52, .null, .int 0, .int 0]))] H := hP
  have hD : va_D A [(h0, .inr (7, [.ref a7, .int 0, .ref a16, .ref a25, .int 0, .ref a34, .ref a43, .ref a52, .null, .int 0, .int 0]))] := hD
  refine lv_aload_n hx hb d_Meanings_init_57 rfl (lv_at hl 0 rfl) ?_
  refine lv_sipush (v := 317) hx hb d_Meanings_init_58 (by decide) ?_
  refine nea0 (g := g) (A := A) (atype := .int) (ty := .int) (a0 := (317, .inl (fun _ => 0))) (N' := 317) hx hb htt 1 rfl no_int k_7 rfl hK hP hD hS hA (a0_int 317) (by decide +kernel) (by decide +kernel) (by decide +kernel) (by decide +kernel) (by decide +kernel) d_Meanings_init_61 (fun a61 H hP hD hS => ?_)
  refine W.widen (k := 7) (n := 35121) (by decide +kernel) (by decide +kernel) ?_
  refine va_putF (D := g.1) (ci := 7) (v := .ref a61) (ty := t_Meanings 8) (C := "MacroMill$Meanings") (T := F_Meanings) (N := 11) hx hb htt in_Meanings t_Meanings t_Meanings_ok n_Meanings hown hK hP hD hS 0 rfl rfl 8 (by decide) (htt _ k_37) (fun _ h9 => h9) rfl hin rfl (t_Meanings_ok 8 (by decide)) rfl rfl (Nat.le_of_ble_eq_true rfl) d_Meanings_init_63 (fun H locs hP hD hS => ?_)
  have hP : va_P g.1 classes [(h0, .inr (7, [.ref a7, .int 0, .ref a16, .ref a25, .int 0, .ref a34, .ref a43, .ref a52, .ref a61, .int 0, .int 0]))] H := hP
  have hD : va_D A [(h0, .inr (7, [.ref a7, .int 0, .ref a16, .ref a25, .int 0, .ref a34, .ref a43, .ref a52, .ref a61, .int 0, .int 0]))] := hD
  exact fin_v (g := g) (ws := [(h0, .inr (7, [.ref a7, .int 0, .ref a16, .ref a25, .int 0, .ref a34, .ref a43, .ref a52, .ref a61, .int 0, .int 0]))]) hx hb hr hlocks (by decide +kernel) (by decide +kernel) hP hD hS ⟨a7, a16, a25, a34, a43, a52, a61, rfl⟩ d_Meanings_init_66
abbrev rm_Input_init : Room := { frames := 1, cells := 2, slots := 32776, locals := 12 }
set_option maxHeartbeats 4000000 in
set_option maxRecDepth 100000 in
theorem c_Input_init (l : Launch) (g : gG) (sz : Nat) (h0 : Nat) (o1 : Nat) : Cv l y_Input_init b_Input_init 2 rm_Input_init g [.ref h0, .ref o1] [(h0, .inr (5, [.null, .null, .int 0, .int 0, .int 0, .int 0, .null, .int 0, .int 0, .int 0, .int 0, .int 0]))] sz (fun w => ∃ (a7 : Nat) (a15 : Nat), w = [(h0, .inr (5, [.ref a7, .ref o1, .int 0, .int 0, .int 0, .int 0, .ref a15, .int 0, .int 0, .int 0, .int 0, .int 0]))]) := by
  refine startV (by decide) (Nat.le_of_ble_eq_true rfl) ?_
  intro p e s m below meth c A ls hx hb hr hml hlocks hmn hown htt hN hA hP hK hD hS hl
  have hin : meth.name = "<init>" := hmn
  have hown : s.vm.findClass "MacroMill$Input" = some m.cls := hown
  have hl : lv_has ls 2 [(0, .ref h0), (1, .ref o1)] := hl
  refine lv_aload_n hx hb d_Input_init_0 rfl (lv_at hl 0 rfl) ?_
  refine W.objInit hx hb hown (htt _ k_38) (htt _ k_1) (htt _ k_2) rfl (by rw [hml]; exact hl.1) rfl d_Input_init_1 (Nat.le_of_ble_eq_true rfl) (Nat.le_of_ble_eq_true rfl) ?_
  refine W.eq (g2 := F0 m 4 ls []) rfl ?_
  refine lv_aload_n hx hb d_Input_init_4 rfl (lv_at hl 0 rfl) ?_
  refine lv_ldc (v := 32768) hx hb hown (htt _ k_39) d_Input_init_5 ?_
  refine nea0 (g := g) (A := A) (atype := .byte) (ty := .byte) (a0 := (32768, .inl (fun _ => 0))) (N' := 32768) hx hb htt 0 rfl no_byte k_4 rfl hK hP hD hS hA (a0_byte 32768) (by decide +kernel) (by decide +kernel) (by decide +kernel) (by decide +kernel) (by decide +kernel) d_Input_init_7 (fun a7 H hP hD hS => ?_)
  refine W.widen (k := 1) (n := 32768) (by decide +kernel) (by decide +kernel) ?_
  refine va_putF (D := g.1) (ci := 5) (v := .ref a7) (ty := t_Input 0) (C := "MacroMill$Input") (T := F_Input) (N := 12) hx hb htt in_Input t_Input t_Input_ok n_Input hown hK hP hD hS 0 rfl rfl 0 (by decide) (htt _ k_40) (fun _ h9 => h9) rfl hin rfl (t_Input_ok 0 (by decide)) rfl rfl (Nat.le_of_ble_eq_true rfl) d_Input_init_9 (fun H locs hP hD hS => ?_)
  have hP : va_P g.1 classes [(h0, .inr (5, [.ref a7, .null, .int 0, .int 0, .int 0, .int 0, .null, .int 0, .int 0, .int 0, .int 0, .int 0]))] H := hP
  have hD : va_D A [(h0, .inr (5, [.ref a7, .null, .int 0, .int 0, .int 0, .int 0, .null, .int 0, .int 0, .int 0, .int 0, .int 0]))] := hD
  refine lv_aload_n hx hb d_Input_init_12 rfl (lv_at hl 0 rfl) ?_
  refine lv_bipush (v := 8) hx hb d_Input_init_13 (by decide) ?_
  refine nea0 (g := g) (A := A) (atype := .byte) (ty := .byte) (a0 := (8, .inl (fun _ => 0))) (N' := 8) hx hb htt 0 rfl no_byte k_4 rfl hK hP hD hS hA (a0_byte 8) (by decide +kernel) (by decide +kernel) (by decide +kernel) (by decide +kernel) (by decide +kernel) d_Input_init_15 (fun a15 H hP hD hS => ?_)
  refine W.widen (k := 2) (n := 32776) (by decide +kernel) (by decide +kernel) ?_
  refine va_putF (D := g.1) (ci := 5) (v := .ref a15) (ty := t_Input 6) (C := "MacroMill$Input") (T := F_Input) (N := 12) hx hb htt in_Input t_Input t_Input_ok n_Input hown hK hP hD hS 0 rfl rfl 6 (by decide) (htt _ k_41) (fun _ h9 => h9) rfl hin rfl (t_Input_ok 6 (by decide)) rfl rfl (Nat.le_of_ble_eq_true rfl) d_Input_init_17 (fun H locs hP hD hS => ?_)
  have hP : va_P g.1 classes [(h0, .inr (5, [.ref a7, .null, .int 0, .int 0, .int 0, .int 0, .ref a15, .int 0, .int 0, .int 0, .int 0, .int 0]))] H := hP
  have hD : va_D A [(h0, .inr (5, [.ref a7, .null, .int 0, .int 0, .int 0, .int 0, .ref a15, .int 0, .int 0, .int 0, .int 0, .int 0]))] := hD
  refine lv_aload_n hx hb d_Input_init_20 rfl (lv_at hl 0 rfl) ?_
  show W _ _ _ _ _ _ _ _ _ _ _ _ _ _ _ (F0 _ 21 _ _)
  refine lv_aload_n hx hb d_Input_init_21 rfl (lv_at hl 1 rfl) ?_
  refine va_putF (D := g.1) (ci := 5) (v := .ref o1) (ty := t_Input 1) (C := "MacroMill$Input") (T := F_Input) (N := 12) hx hb htt in_Input t_Input t_Input_ok n_Input hown hK hP hD hS 0 rfl rfl 1 (by decide) (htt _ k_42) (fun _ h9 => h9) rfl hin rfl (t_Input_ok 1 (by decide)) rfl rfl (Nat.le_of_ble_eq_true rfl) d_Input_init_22 (fun H locs hP hD hS => ?_)
  have hP : va_P g.1 classes [(h0, .inr (5, [.ref a7, .ref o1, .int 0, .int 0, .int 0, .int 0, .ref a15, .int 0, .int 0, .int 0, .int 0, .int 0]))] H := hP
  have hD : va_D A [(h0, .inr (5, [.ref a7, .ref o1, .int 0, .int 0, .int 0, .int 0, .ref a15, .int 0, .int 0, .int 0, .int 0, .int 0]))] := hD
  exact fin_v (g := g) (ws := [(h0, .inr (5, [.ref a7, .ref o1, .int 0, .int 0, .int 0, .int 0, .ref a15, .int 0, .int 0, .int 0, .int 0, .int 0]))]) hx hb hr hlocks (by decide +kernel) (by decide +kernel) hP hD hS ⟨a7, a15, rfl⟩ d_Input_init_25
abbrev rm_First_init : Room := { frames := 2, cells := 24, slots := 191080, locals := 33 }
set_option maxHeartbeats 4000000 in
set_option maxRecDepth 100000 in
theorem c_First_init (l : Launch) (g : gG) (sz : Nat) (h0 : Nat) (o1 : Nat) (o2 : Nat) : Cv l y_First_init b_First_init 3 rm_First_init g [.ref h0, .ref o1, .ref o2] [(h0, .inr (4, [.null, .null, .null, .null, .null, .null, .int 0, .null, .null, .null, .null, .int 0, .int 0, .int 0, .int 0]))] sz (fun w => ∃ (q5 : Nat) (q16 : Nat) (a29 : Nat) (a37 : Nat) (a45 : Nat) (a53 : Nat) (a61_2 : Nat) (q77 : Nat), w = [(h0, .inr (4, [.ref o1, .ref o2, .ref q77, .ref q5, .ref q16, .ref a29, .int 0, .ref a37, .ref a45, .ref a53, .ref a61_2, .int 0, .int 0, .int 0, .int 0]))]) := by
  refine startV (by decide) (Nat.le_of_ble_eq_true rfl) ?_
  intro p e s m below meth c A ls hx hb hr hml hlocks hmn hown htt hN hA hP hK hD hS hl
  have hin : meth.name = "<init>" := hmn
  have hown : s.vm.findClass "MacroMill$First" = some m.cls := hown
  have hl : lv_has ls 3 [(0, .ref h0), (1, .ref o1), (2, .ref o2)] := hl
  refine lv_aload_n hx hb d_First_init_0 rfl (lv_at hl 0 rfl) ?_
  refine W.objInit hx hb hown (htt _ k_43) (htt _ k_1) (htt _ k_2) rfl (by rw [hml]; exact hl.1) rfl d_First_init_1 (Nat.le_of_ble_eq_true rfl) (Nat.le_of_ble_eq_true rfl) ?_
  refine W.eq (g2 := F0 m 4 ls []) rfl ?_
  refine lv_aload_n hx hb d_First_init_4 rfl (lv_at hl 0 rfl) ?_
  refine va_new (D := g.1) (ci := 6) (fs := [.null, .int 0, .null, .int 0, .null, .null, .null, .null, .null, .int 0]) (C := "MacroMill$Calls") (T := F_Calls) (N := 10) hx hb htt in_Calls t_Calls t_Calls_ok hown (htt _ k_44) (htt _ k_45) (htt _ k_46) hK hP hD hS hA rfl z_Calls (by decide +kernel) (by decide +kernel) d_First_init_5 (fun q5 H hP hD hS => ?_)
  refine W.widen (k := 1) (n := 10) (by decide +kernel) (by decide +kernel) ?_
  have hP : va_P g.1 classes [(h0, .inr (4, [.null, .null, .null, .null, .null, .null, .int 0, .null, .null, .null, .null, .int 0, .int 0, .int 0, .int 0])), (q5, .inr (6, [.null, .int 0, .null, .int 0, .null, .null, .null, .null, .null, .int 0]))] H := hP
  have hD : va_D A [(h0, .inr (4, [.null, .null, .null, .null, .null, .null, .int 0, .null, .null, .null, .null, .int 0, .int 0, .int 0, .int 0])), (q5, .inr (6, [.null, .int 0, .null, .int 0, .null, .null, .null, .null, .null, .int 0]))] := hD
  refine lv_dup hx hb d_First_init_8 rfl ?_
  refine go_v (As := [.ref q5]) (g := g) (A := A) (wc := [(q5, .inr (6, [.null, .int 0, .null, .int 0, .null, .null, .null, .null, .null, .int 0]))]) (wr := [(h0, .inr (4, [.null, .null, .null, .null, .null, .null, .int 0, .null, .null, .null, .null, .int 0, .int 0, .int 0, .int 0]))]) [1] [0] rfl rfl rfl rfl (by decide) hP hK hD hS hA hN (fun hp => va_runIN (As := []) (rest := [.ref q5, .ref h0]) ⟨hx, hb, hml, hown, htt⟩ (c_Calls_init l g _ q5) ⟨(cb_N (host := "MacroMill") htt k_47 k_46 hN nM_0 hd_Calls_init ⟨(by decide +kernel), (by decide +kernel)⟩), rfl, htt _ k_48⟩ hp rfl rfl hl.1 rfl (lv_room (Nat.le_of_ble_eq_true rfl)) d_First_init_9 ⟨(by decide +kernel), (by decide +kernel)⟩) (fun w9 H locs hw9 hP hD hS => ?_)
  obtain ⟨a8, a17, a25, a33, a41, a49, a57, rfl⟩ := hw9
  refine W.widen (k := 8) (n := 24836) (by decide +kernel) (by decide +kernel) ?_
  have hP : va_P g.1 classes [(h0, .inr (4, [.null, .null, .null, .null, .null, .null, .int 0, .null, .null, .null, .null, .int 0, .int 0, .int 0, .int 0])), (q5, .inr (6, [.ref a8, .int 0, .ref a17, .int 0, .ref a25, .ref a33, .ref a41, .ref a49, .ref a57, .int 0]))] H := hP
  have hD : va_D A [(h0, .inr (4, [.null, .null, .null, .null, .null, .null, .int 0, .null, .null, .null, .null, .int 0, .int 0, .int 0, .int 0])), (q5, .inr (6, [.ref a8, .int 0, .ref a17, .int 0, .ref a25, .ref a33, .ref a41, .ref a49, .ref a57, .int 0]))] := hD
  refine va_putF (D := g.1) (ci := 4) (v := .ref q5) (ty := t_First 3) (C := "MacroMill$First") (T := F_First) (N := 15) hx hb htt in_First t_First t_First_ok n_First hown hK hP hD hS 0 rfl rfl 3 (by decide) (htt _ k_49) (fun _ h9 => h9) rfl hin rfl (t_First_ok 3 (by decide)) rfl rfl (Nat.le_of_ble_eq_true rfl) d_First_init_12 (fun H locs hP hD hS => ?_)
  have hP : va_P g.1 classes [(h0, .inr (4, [.null, .null, .null, .ref q5, .null, .null, .int 0, .null, .null, .null, .null, .int 0, .int 0, .int 0, .int 0])), (q5, .inr (6, [.ref a8, .int 0, .ref a17, .int 0, .ref a25, .ref a33, .ref a41, .ref a49, .ref a57, .int 0]))] H := hP
  have hD : va_D A [(h0, .inr (4, [.null, .null, .null, .ref q5, .null, .null, .int 0, .null, .null, .null, .null, .int 0, .int 0, .int 0, .int 0])), (q5, .inr (6, [.ref a8, .int 0, .ref a17, .int 0, .ref a25, .ref a33, .ref a41, .ref a49, .ref a57, .int 0]))] := hD
  refine lv_aload_n hx hb d_First_init_15 rfl (lv_at hl 0 rfl) ?_
  refine va_new (D := g.1) (ci := 7) (fs := [.null, .int 0, .null, .null, .int 0, .null, .null, .null, .null, .int 0, .int 0]) (C := "MacroMill$Meanings") (T := F_Meanings) (N := 11) hx hb htt in_Meanings t_Meanings t_Meanings_ok hown (htt _ k_50) (htt _ k_51) (htt _ k_52) hK hP hD hS hA rfl z_Meanings (by decide +kernel) (by decide +kernel) d_First_init_16 (fun q16 H hP hD hS => ?_)
  refine W.widen (k := 9) (n := 24847) (by decide +kernel) (by decide +kernel) ?_
  have hP : va_P g.1 classes [(h0, .inr (4, [.null, .null, .null, .ref q5, .null, .null, .int 0, .null, .null, .null, .null, .int 0, .int 0, .int 0, .int 0])), (q5, .inr (6, [.ref a8, .int 0, .ref a17, .int 0, .ref a25, .ref a33, .ref a41, .ref a49, .ref a57, .int 0])), (q16, .inr (7, [.null, .int 0, .null, .null, .int 0, .null, .null, .null, .null, .int 0, .int 0]))] H := hP
  have hD : va_D A [(h0, .inr (4, [.null, .null, .null, .ref q5, .null, .null, .int 0, .null, .null, .null, .null, .int 0, .int 0, .int 0, .int 0])), (q5, .inr (6, [.ref a8, .int 0, .ref a17, .int 0, .ref a25, .ref a33, .ref a41, .ref a49, .ref a57, .int 0])), (q16, .inr (7, [.null, .int 0, .null, .null, .int 0, .null, .null, .null, .null, .int 0, .int 0]))] := hD
  refine lv_dup hx hb d_First_init_19 rfl ?_
  refine go_v (As := [.ref q16]) (g := g) (A := A) (wc := [(q16, .inr (7, [.null, .int 0, .null, .null, .int 0, .null, .null, .null, .null, .int 0, .int 0]))]) (wr := [(h0, .inr (4, [.null, .null, .null, .ref q5, .null, .null, .int 0, .null, .null, .null, .null, .int 0, .int 0, .int 0, .int 0])), (q5, .inr (6, [.ref a8, .int 0, .ref a17, .int 0, .ref a25, .ref a33, .ref a41, .ref a49, .ref a57, .int 0]))]) [2] [0, 1] rfl rfl rfl rfl (by decide) hP hK hD hS hA hN (fun hp => va_runIN (As := []) (rest := [.ref q16, .ref h0]) ⟨hx, hb, hml, hown, htt⟩ (c_Meanings_init l g _ q16) ⟨(cb_N (host := "MacroMill") htt k_53 k_52 hN nM_1 hd_Meanings_init ⟨(by decide +kernel), (by decide +kernel)⟩), rfl, htt _ k_54⟩ hp rfl rfl hl.1 rfl (lv_room (Nat.le_of_ble_eq_true rfl)) d_First_init_20 ⟨(by decide +kernel), (by decide +kernel)⟩) (fun w9 H locs hw9 hP hD hS => ?_)
  obtain ⟨a7, a16, a25_2, a34, a43, a52, a61, rfl⟩ := hw9
  refine W.widen (k := 16) (n := 59968) (by decide +kernel) (by decide +kernel) ?_
  have hP : va_P g.1 classes [(h0, .inr (4, [.null, .null, .null, .ref q5, .null, .null, .int 0, .null, .null, .null, .null, .int 0, .int 0, .int 0, .int 0])), (q5, .inr (6, [.ref a8, .int 0, .ref a17, .int 0, .ref a25, .ref a33, .ref a41, .ref a49, .ref a57, .int 0])), (q16, .inr (7, [.ref a7, .int 0, .ref a16, .ref a25_2, .int 0, .ref a34, .ref a43, .ref a52, .ref a61, .int 0, .int 0]))] H := hP
  have hD : va_D A [(h0, .inr (4, [.null, .null, .null, .ref q5, .null, .null, .int 0, .null, .null, .null, .null, .int 0, .int 0, .int 0, .int 0])), (q5, .inr (6, [.ref a8, .int 0, .ref a17, .int 0, .ref a25, .ref a33, .ref a41, .ref a49, .ref a57, .int 0])), (q16, .inr (7, [.ref a7, .int 0, .ref a16, .ref a25_2, .int 0, .ref a34, .ref a43, .ref a52, .ref a61, .int 0, .int 0]))] := hD
  show W _ _ _ _ _ _ _ _ _ _ _ _ _ _ _ (F0 _ 23 _ _)
  refine va_putF (D := g.1) (ci := 4) (v := .ref q16) (ty := t_First 4) (C := "MacroMill$First") (T := F_First) (N := 15) hx hb htt in_First t_First t_First_ok n_First hown hK hP hD hS 0 rfl rfl 4 (by decide) (htt _ k_55) (fun _ h9 => h9) rfl hin rfl (t_First_ok 4 (by decide)) rfl rfl (Nat.le_of_ble_eq_true rfl) d_First_init_23 (fun H locs hP hD hS => ?_)
  have hP : va_P g.1 classes [(h0, .inr (4, [.null, .null, .null, .ref q5, .ref q16, .null, .int 0, .null, .null, .null, .null, .int 0, .int 0, .int 0, .int 0])), (q5, .inr (6, [.ref a8, .int 0, .ref a17, .int 0, .ref a25, .ref a33, .ref a41, .ref a49, .ref a57, .int 0])), (q16, .inr (7, [.ref a7, .int 0, .ref a16, .ref a25_2, .int 0, .ref a34, .ref a43, .ref a52, .ref a61, .int 0, .int 0]))] H := hP
  have hD : va_D A [(h0, .inr (4, [.null, .null, .null, .ref q5, .ref q16, .null, .int 0, .null, .null, .null, .null, .int 0, .int 0, .int 0, .int 0])), (q5, .inr (6, [.ref a8, .int 0, .ref a17, .int 0, .ref a25, .ref a33, .ref a41, .ref a49, .ref a57, .int 0])), (q16, .inr (7, [.ref a7, .int 0, .ref a16, .ref a25_2, .int 0, .ref a34, .ref a43, .ref a52, .ref a61, .int 0, .int 0]))] := hD
  refine lv_aload_n hx hb d_First_init_26 rfl (lv_at hl 0 rfl) ?_
  refine lv_ldc (v := 32768) hx hb hown (htt _ k_56) d_First_init_27 ?_
  refine nea0 (g := g) (A := A) (atype := .byte) (ty := .byte) (a0 := (32768, .inl (fun _ => 0))) (N' := 32768) hx hb htt 0 rfl no_byte k_4 rfl hK hP hD hS hA (a0_byte 32768) (by decide +kernel) (by decide +kernel) (by decide +kernel) (by decide +kernel) (by decide +kernel) d_First_init_29 (fun a29 H hP hD hS => ?_)
  refine W.widen (k := 17) (n := 92736) (by decide +kernel) (by decide +kernel) ?_
  refine va_putF (D := g.1) (ci := 4) (v := .ref a29) (ty := t_First 5) (C := "MacroMill$First") (T := F_First) (N := 15) hx hb htt in_First t_First t_First_ok n_First hown hK hP hD hS 0 rfl rfl 5 (by decide) (htt _ k_57) (fun _ h9 => h9) rfl hin rfl (t_First_ok 5 (by decide)) rfl rfl (Nat.le_of_ble_eq_true rfl) d_First_init_31 (fun H locs hP hD hS => ?_)
  have hP : va_P g.1 classes [(h0, .inr (4, [.null, .null, .null, .ref q5, .ref q16, .ref a29, .int 0, .null, .null, .null, .null, .int 0, .int 0, .int 0, .int 0])), (q5, .inr (6, [.ref a8, .int 0, .ref a17, .int 0, .ref a25, .ref a33, .ref a41, .ref a49, .ref a57, .int 0])), (q16, .inr (7, [.ref a7, .int 0, .ref a16, .ref a25_2, .int 0, .ref a34, .ref a43, .ref a52, .ref a61, .int 0, .int 0]))] H := hP
  have hD : va_D A [(h0, .inr (4, [.null, .null, .null, .ref q5, .ref q16, .ref a29, .int 0, .null, .null, .null, .null, .int 0, .int 0, .int 0, .int 0])), (q5, .inr (6, [.ref a8, .int 0, .ref a17, .int 0, .ref a25, .ref a33, .ref a41, .ref a49, .ref a57, .int 0])), (q16, .inr (7, [.ref a7, .int 0, .ref a16, .ref a25_2, .int 0, .ref a34, .ref a43, .ref a52, .ref a61, .int 0, .int 0]))] := hD
  refine lv_aload_n hx hb d_First_init_34 rfl (lv_at hl 0 rfl) ?_
  refine lv_ldc (v := 32768) hx hb hown (htt _ k_56) d_First_init_35 ?_
  refine nea0 (g := g) (A := A) (atype := .byte) (ty := .byte) (a0 := (32768, .inl (fun _ => 0))) (N' := 32768) hx hb htt 0 rfl no_byte k_4 rfl hK hP hD hS hA (a0_byte 32768) (by decide +kernel) (by decide +kernel) (by decide +kernel) (by decide +kernel) (by decide +kernel) d_First_init_37 (fun a37 H hP hD hS => ?_)
  refine W.widen (k := 18) (n := 125504) (by decide +kernel) (by decide +kernel) ?_
  refine va_putF (D := g.1) (ci := 4) (v := .ref a37) (ty := t_First 7) (C := "MacroMill$First") (T := F_First) (N := 15) hx hb htt in_First t_First t_First_ok n_First hown hK hP hD hS 0 rfl rfl 7 (by decide) (htt _ k_58) (fun _ h9 => h9) rfl hin rfl (t_First_ok 7 (by decide)) rfl rfl (Nat.le_of_ble_eq_true rfl) d_First_init_39 (fun H locs hP hD hS => ?_)
  have hP : va_P g.1 classes [(h0, .inr (4, [.null, .null, .null, .ref q5, .ref q16, .ref a29, .int 0, .ref a37, .null, .null, .null, .int 0, .int 0, .int 0, .int 0])), (q5, .inr (6, [.ref a8, .int 0, .ref a17, .int 0, .ref a25, .ref a33, .ref a41, .ref a49, .ref a57, .int 0])), (q16, .inr (7, [.ref a7, .int 0, .ref a16, .ref a25_2, .int 0, .ref a34, .ref a43, .ref a52, .ref a61, .int 0, .int 0]))] H := hP
  have hD : va_D A [(h0, .inr (4, [.null, .null, .null, .ref q5, .ref q16, .ref a29, .int 0, .ref a37, .null, .null, .null, .int 0, .int 0, .int 0, .int 0])), (q5, .inr (6, [.ref a8, .int 0, .ref a17, .int 0, .ref a25, .ref a33, .ref a41, .ref a49, .ref a57, .int 0])), (q16, .inr (7, [.ref a7, .int 0, .ref a16, .ref a25_2, .int 0, .ref a34, .ref a43, .ref a52, .ref a61, .int 0, .int 0]))] := hD
  refine lv_aload_n hx hb d_First_init_42 rfl (lv_at hl 0 rfl) ?_
  refine lv_ldc (v := 32768) hx hb hown (htt _ k_56) d_First_init_43 ?_
  refine nea0 (g := g) (A := A) (atype := .int) (ty := .int) (a0 := (32768, .inl (fun _ => 0))) (N' := 32768) hx hb htt 1 rfl no_int k_7 rfl hK hP hD hS hA (a0_int 32768) (by decide +kernel) (by decide +kernel) (by decide +kernel) (by decide +kernel) (by decide +kernel) d_First_init_45 (fun a45 H hP hD hS => ?_)
  refine W.widen (k := 19) (n := 158272) (by decide +kernel) (by decide +kernel) ?_
  show W _ _ _ _ _ _ _ _ _ _ _ _ _ _ _ (F0 _ 47 _ _)
  refine va_putF (D := g.1) (ci := 4) (v := .ref a45) (ty := t_First 8) (C := "MacroMill$First") (T := F_First) (N := 15) hx hb htt in_First t_First t_First_ok n_First hown hK hP hD hS 0 rfl rfl 8 (by decide) (htt _ k_59) (fun _ h9 => h9) rfl hin rfl (t_First_ok 8 (by decide)) rfl rfl (Nat.le_of_ble_eq_true rfl) d_First_init_47 (fun H locs hP hD hS => ?_)
  have hP : va_P g.1 classes [(h0, .inr (4, [.null, .null, .null, .ref q5, .ref q16, .ref a29, .int 0, .ref a37, .ref a45, .null, .null, .int 0, .int 0, .int 0, .int 0])), (q5, .inr (6, [.ref a8, .int 0, .ref a17, .int 0, .ref a25, .ref a33, .ref a41, .ref a49, .ref a57, .int 0])), (q16, .inr (7, [.ref a7, .int 0, .ref a16, .ref a25_2, .int 0, .ref a34, .ref a43, .ref a52, .ref a61, .int 0, .int 0]))] H := hP
  have hD : va_D A [(h0, .inr (4, [.null, .null, .null, .ref q5, .ref q16, .ref a29, .int 0, .ref a37, .ref a45, .null, .null, .int 0, .int 0, .int 0, .int 0])), (q5, .inr (6, [.ref a8, .int 0, .ref a17, .int 0, .ref a25, .ref a33, .ref a41, .ref a49, .ref a57, .int 0])), (q16, .inr (7, [.ref a7, .int 0, .ref a16, .ref a25_2, .int 0, .ref a34, .ref a43, .ref a52, .ref a61, .int 0, .int 0]))] := hD
  refine lv_aload_n hx hb d_First_init_50 rfl (lv_at hl 0 rfl) ?_
  refine lv_bipush (v := 10) hx hb d_First_init_51 (by decide) ?_
  refine nea0 (g := g) (A := A) (atype := .int) (ty := .int) (a0 := (10, .inl (fun _ => 0))) (N' := 10) hx hb htt 1 rfl no_int k_7 rfl hK hP hD hS hA (a0_int 10) (by decide +kernel) (by decide +kernel) (by decide +kernel) (by decide +kernel) (by decide +kernel) d_First_init_53 (fun a53 H hP hD hS => ?_)
  refine W.widen (k := 20) (n := 158282) (by decide +kernel) (by decide +kernel) ?_
  refine va_putF (D := g.1) (ci := 4) (v := .ref a53) (ty := t_First 9) (C := "MacroMill$First") (T := F_First) (N := 15) hx hb htt in_First t_First t_First_ok n_First hown hK hP hD hS 0 rfl rfl 9 (by decide) (htt _ k_60) (fun _ h9 => h9) rfl hin rfl (t_First_ok 9 (by decide)) rfl rfl (Nat.le_of_ble_eq_true rfl) d_First_init_55 (fun H locs hP hD hS => ?_)
  have hP : va_P g.1 classes [(h0, .inr (4, [.null, .null, .null, .ref q5, .ref q16, .ref a29, .int 0, .ref a37, .ref a45, .ref a53, .null, .int 0, .int 0, .int 0, .int 0])), (q5, .inr (6, [.ref a8, .int 0, .ref a17, .int 0, .ref a25, .ref a33, .ref a41, .ref a49, .ref a57, .int 0])), (q16, .inr (7, [.ref a7, .int 0, .ref a16, .ref a25_2, .int 0, .ref a34, .ref a43, .ref a52, .ref a61, .int 0, .int 0]))] H := hP
  have hD : va_D A [(h0, .inr (4, [.null, .null, .null, .ref q5, .ref q16, .ref a29, .int 0, .ref a37, .ref a45, .ref a53, .null, .int 0, .int 0, .int 0, .int 0])), (q5, .inr (6, [.ref a8, .int 0, .ref a17, .int 0, .ref a25, .ref a33, .ref a41, .ref a49, .ref a57, .int 0])), (q16, .inr (7, [.ref a7, .int 0, .ref a16, .ref a25_2, .int 0, .ref a34, .ref a43, .ref a52, .ref a61, .int 0, .int 0]))] := hD
  refine lv_aload_n hx hb d_First_init_58 rfl (lv_at hl 0 rfl) ?_
  refine lv_bipush (v := 10) hx hb d_First_init_59 (by decide) ?_
  refine nea0 (g := g) (A := A) (atype := .int) (ty := .int) (a0 := (10, .inl (fun _ => 0))) (N' := 10) hx hb htt 1 rfl no_int k_7 rfl hK hP hD hS hA (a0_int 10) (by decide +kernel) (by decide +kernel) (by decide +kernel) (by decide +kernel) (by decide +kernel) d_First_init_61 (fun a61_2 H hP hD hS => ?_)
  refine W.widen (k := 21) (n := 158292) (by decide +kernel) (by decide +kernel) ?_
  refine va_putF (D := g.1) (ci := 4) (v := .ref a61_2) (ty := t_First 10) (C := "MacroMill$First") (T := F_First) (N := 15) hx hb htt in_First t_First t_First_ok n_First hown hK hP hD hS 0 rfl rfl 10 (by decide) (htt _ k_61) (fun _ h9 => h9) rfl hin rfl (t_First_ok 10 (by decide)) rfl rfl (Nat.le_of_ble_eq_true rfl) d_First_init_63 (fun H locs hP hD hS => ?_)
  have hP : va_P g.1 classes [(h0, .inr (4, [.null, .null, .null, .ref q5, .ref q16, .ref a29, .int 0, .ref a37, .ref a45, .ref a53, .ref a61_2, .int 0, .int 0, .int 0, .int 0])), (q5, .inr (6, [.ref a8, .int 0, .ref a17, .int 0, .ref a25, .ref a33, .ref a41, .ref a49, .ref a57, .int 0])), (q16, .inr (7, [.ref a7, .int 0, .ref a16, .ref a25_2, .int 0, .ref a34, .ref a43, .ref a52, .ref a61, .int 0, .int 0]))] H := hP
  have hD : va_D A [(h0, .inr (4, [.null, .null, .null, .ref q5, .ref q16, .ref a29, .int 0, .ref a37, .ref a45, .ref a53, .ref a61_2, .int 0, .int 0, .int 0, .int 0])), (q5, .inr (6, [.ref a8, .int 0, .ref a17, .int 0, .ref a25, .ref a33, .ref a41, .ref a49, .ref a57, .int 0])), (q16, .inr (7, [.ref a7, .int 0, .ref a16, .ref a25_2, .int 0, .ref a34, .ref a43, .ref a52, .ref a61, .int 0, .int 0]))] := hD
  refine lv_aload_n hx hb d_First_init_66 rfl (lv_at hl 0 rfl) ?_
  refine lv_aload_n hx hb d_First_init_67 rfl (lv_at hl 1 rfl) ?_
  refine va_putF (D := g.1) (ci := 4) (v := .ref o1) (ty := t_First 0) (C := "MacroMill$First") (T := F_First) (N := 15) hx hb htt in_First t_First t_First_ok n_First hown hK hP hD hS 0 rfl rfl 0 (by decide) (htt _ k_62) (fun _ h9 => h9) rfl hin rfl (t_First_ok 0 (by decide)) rfl rfl (Nat.le_of_ble_eq_true rfl) d_First_init_68 (fun H locs hP hD hS => ?_)
  have hP : va_P g.1 classes [(h0, .inr (4, [.ref o1, .null, .null, .ref q5, .ref q16, .ref a29, .int 0, .ref a37, .ref a45, .ref a53, .ref a61_2, .int 0, .int 0, .int 0, .int 0])), (q5, .inr (6, [.ref a8, .int 0, .ref a17, .int 0, .ref a25, .ref a33, .ref a41, .ref a49, .ref a57, .int 0])), (q16, .inr (7, [.ref a7, .int 0, .ref a16, .ref a25_2, .int 0, .ref a34, .ref a43, .ref a52, .ref a61, .int 0, .int 0]))] H := hP
  have hD : va_D A [(h0, .inr (4, [.ref o1, .null, .null, .ref q5, .ref q16, .ref a29, .int 0, .ref a37, .ref a45, .ref a53, .ref a61_2, .int 0, .int 0, .int 0, .int 0])), (q5, .inr (6, [.ref a8, .int 0, .ref a17, .int 0, .ref a25, .ref a33, .ref a41, .ref a49, .ref a57, .int 0])), (q16, .inr (7, [.ref a7, .int 0, .ref a16, .ref a25_2, .int 0, .ref a34, .ref a43, .ref a52, .ref a61, .int 0, .int 0]))] := hD
  show W _ _ _ _ _ _ _ _ _ _ _ _ _ _ _ (F0 _ 71 _ _)
  refine lv_aload_n hx hb d_First_init_71 rfl (lv_at hl 0 rfl) ?_
  refine lv_aload_n hx hb d_First_init_72 rfl (lv_at hl 2 rfl) ?_
  refine va_putF (D := g.1) (ci := 4) (v := .ref o2) (ty := t_First 1) (C := "MacroMill$First") (T := F_First) (N := 15) hx hb htt in_First t_First t_First_ok n_First hown hK hP hD hS 0 rfl rfl 1 (by decide) (htt _ k_63) (fun _ h9 => h9) rfl hin rfl (t_First_ok 1 (by decide)) rfl rfl (Nat.le_of_ble_eq_true rfl) d_First_init_73 (fun H locs hP hD hS => ?_)
  have hP : va_P g.1 classes [(h0, .inr (4, [.ref o1, .ref o2, .null, .ref q5, .ref q16, .ref a29, .int 0, .ref a37, .ref a45, .ref a53, .ref a61_2, .int 0, .int 0, .int 0, .int 0])), (q5, .inr (6, [.ref a8, .int 0, .ref a17, .int 0, .ref a25, .ref a33, .ref a41, .ref a49, .ref a57, .int 0])), (q16, .inr (7, [.ref a7, .int 0, .ref a16, .ref a25_2, .int 0, .ref a34, .ref a43, .ref a52, .ref a61, .int 0, .int 0]))] H := hP
  have hD : va_D A [(h0, .inr (4, [.ref o1, .ref o2, .null, .ref q5, .ref q16, .ref a29, .int 0, .ref a37, .ref a45, .ref a53, .ref a61_2, .int 0, .int 0, .int 0, .int 0])), (q5, .inr (6, [.ref a8, .int 0, .ref a17, .int 0, .ref a25, .ref a33, .ref a41, .ref a49, .ref a57, .int 0])), (q16, .inr (7, [.ref a7, .int 0, .ref a16, .ref a25_2, .int 0, .ref a34, .ref a43, .ref a52, .ref a61, .int 0, .int 0]))] := hD
  refine lv_aload_n hx hb d_First_init_76 rfl (lv_at hl 0 rfl) ?_
  refine va_new (D := g.1) (ci := 5) (fs := [.null, .null, .int 0, .int 0, .int 0, .int 0, .null, .int 0, .int 0, .int 0, .int 0, .int 0]) (C := "MacroMill$Input") (T := F_Input) (N := 12) hx hb htt in_Input t_Input t_Input_ok hown (htt _ k_64) (htt _ k_65) (htt _ k_66) hK hP hD hS hA rfl z_Input (by decide +kernel) (by decide +kernel) d_First_init_77 (fun q77 H hP hD hS => ?_)
  refine W.widen (k := 22) (n := 158304) (by decide +kernel) (by decide +kernel) ?_
  have hP : va_P g.1 classes [(h0, .inr (4, [.ref o1, .ref o2, .null, .ref q5, .ref q16, .ref a29, .int 0, .ref a37, .ref a45, .ref a53, .ref a61_2, .int 0, .int 0, .int 0, .int 0])), (q5, .inr (6, [.ref a8, .int 0, .ref a17, .int 0, .ref a25, .ref a33, .ref a41, .ref a49, .ref a57, .int 0])), (q16, .inr (7, [.ref a7, .int 0, .ref a16, .ref a25_2, .int 0, .ref a34, .ref a43, .ref a52, .ref a61, .int 0, .int 0])), (q77, .inr (5, [.null, .null, .int 0, .int 0, .int 0, .int 0, .null, .int 0, .int 0, .int 0, .int 0, .int 0]))] H := hP
  have hD : va_D A [(h0, .inr (4, [.ref o1, .ref o2, .null, .ref q5, .ref q16, .ref a29, .int 0, .ref a37, .ref a45, .ref a53, .ref a61_2, .int 0, .int 0, .int 0, .int 0])), (q5, .inr (6, [.ref a8, .int 0, .ref a17, .int 0, .ref a25, .ref a33, .ref a41, .ref a49, .ref a57, .int 0])), (q16, .inr (7, [.ref a7, .int 0, .ref a16, .ref a25_2, .int 0, .ref a34, .ref a43, .ref a52, .ref a61, .int 0, .int 0])), (q77, .inr (5, [.null, .null, .int 0, .int 0, .int 0, .int 0, .null, .int 0, .int 0, .int 0, .int 0, .int 0]))] := hD
  refine lv_dup hx hb d_First_init_80 rfl ?_
  refine lv_aload_n hx hb d_First_init_81 rfl (lv_at hl 1 rfl) ?_
  refine go_v (As := [.ref q77, .ref o1]) (g := g) (A := A) (wc := [(q77, .inr (5, [.null, .null, .int 0, .int 0, .int 0, .int 0, .null, .int 0, .int 0, .int 0, .int 0, .int 0]))]) (wr := [(h0, .inr (4, [.ref o1, .ref o2, .null, .ref q5, .ref q16, .ref a29, .int 0, .ref a37, .ref a45, .ref a53, .ref a61_2, .int 0, .int 0, .int 0, .int 0])), (q5, .inr (6, [.ref a8, .int 0, .ref a17, .int 0, .ref a25, .ref a33, .ref a41, .ref a49, .ref a57, .int 0])), (q16, .inr (7, [.ref a7, .int 0, .ref a16, .ref a25_2, .int 0, .ref a34, .ref a43, .ref a52, .ref a61, .int 0, .int 0]))]) [3] [0, 1, 2] rfl rfl rfl rfl (by decide) hP hK hD hS hA hN (fun hp => va_runI (As := [.ref o1]) (rest := [.ref q77, .ref h0]) ⟨hx, hb, hml, hown, htt⟩ (c_Input_init l g _ q77 o1) ⟨(cb_L htt k_67 k_66 k_68 hd_Input_init ⟨(by decide +kernel), (by decide +kernel)⟩), rfl, htt _ k_69⟩ hp rfl rfl hl.1 rfl (lv_room (Nat.le_of_ble_eq_true rfl)) d_First_init_82 ⟨(by decide +kernel), (by decide +kernel)⟩) (fun w9 H locs hw9 hP hD hS => ?_)
  obtain ⟨a7_2, a15, rfl⟩ := hw9
  refine W.widen (k := 24) (n := 191080) (by decide +kernel) (by decide +kernel) ?_
  have hP : va_P g.1 classes [(h0, .inr (4, [.ref o1, .ref o2, .null, .ref q5, .ref q16, .ref a29, .int 0, .ref a37, .ref a45, .ref a53, .ref a61_2, .int 0, .int 0, .int 0, .int 0])), (q5, .inr (6, [.ref a8, .int 0, .ref a17, .int 0, .ref a25, .ref a33, .ref a41, .ref a49, .ref a57, .int 0])), (q16, .inr (7, [.ref a7, .int 0, .ref a16, .ref a25_2, .int 0, .ref a34, .ref a43, .ref a52, .ref a61, .int 0, .int 0])), (q77, .inr (5, [.ref a7_2, .ref o1, .int 0, .int 0, .int 0, .int 0, .ref a15, .int 0, .int 0, .int 0, .int 0, .int 0]))] H := hP
  have hD : va_D A [(h0, .inr (4, [.ref o1, .ref o2, .null, .ref q5, .ref q16, .ref a29, .int 0, .ref a37, .ref a45, .ref a53, .ref a61_2, .int 0, .int 0, .int 0, .int 0])), (q5, .inr (6, [.ref a8, .int 0, .ref a17, .int 0, .ref a25, .ref a33, .ref a41, .ref a49, .ref a57, .int 0])), (q16, .inr (7, [.ref a7, .int 0, .ref a16, .ref a25_2, .int 0, .ref a34, .ref a43, .ref a52, .ref a61, .int 0, .int 0])), (q77, .inr (5, [.ref a7_2, .ref o1, .int 0, .int 0, .int 0, .int 0, .ref a15, .int 0, .int 0, .int 0, .int 0, .int 0]))] := hD
  refine va_putF (D := g.1) (ci := 4) (v := .ref q77) (ty := t_First 2) (C := "MacroMill$First") (T := F_First) (N := 15) hx hb htt in_First t_First t_First_ok n_First hown hK hP hD hS 0 rfl rfl 2 (by decide) (htt _ k_70) (fun _ h9 => h9) rfl hin rfl (t_First_ok 2 (by decide)) rfl rfl (Nat.le_of_ble_eq_true rfl) d_First_init_85 (fun H locs hP hD hS => ?_)
  have hP : va_P g.1 classes [(h0, .inr (4, [.ref o1, .ref o2, .ref q77, .ref q5, .ref q16, .ref a29, .int 0, .ref a37, .ref a45, .ref a53, .ref a61_2, .int 0, .int 0, .int 0, .int 0])), (q5, .inr (6, [.ref a8, .int 0, .ref a17, .int 0, .ref a25, .ref a33, .ref a41, .ref a49, .ref a57, .int 0])), (q16, .inr (7, [.ref a7, .int 0, .ref a16, .ref a25_2, .int 0, .ref a34, .ref a43, .ref a52, .ref a61, .int 0, .int 0])), (q77, .inr (5, [.ref a7_2, .ref o1, .int 0, .int 0, .int 0, .int 0, .ref a15, .int 0, .int 0, .int 0, .int 0, .int 0]))] H := hP
  have hD : va_D A [(h0, .inr (4, [.ref o1, .ref o2, .ref q77, .ref q5, .ref q16, .ref a29, .int 0, .ref a37, .ref a45, .ref a53, .ref a61_2, .int 0, .int 0, .int 0, .int 0])), (q5, .inr (6, [.ref a8, .int 0, .ref a17, .int 0, .ref a25, .ref a33, .ref a41, .ref a49, .ref a57, .int 0])), (q16, .inr (7, [.ref a7, .int 0, .ref a16, .ref a25_2, .int 0, .ref a34, .ref a43, .ref a52, .ref a61, .int 0, .int 0])), (q77, .inr (5, [.ref a7_2, .ref o1, .int 0, .int 0, .int 0, .int 0, .ref a15, .int 0, .int 0, .int 0, .int 0, .int 0]))] := hD
  have hP := va_PsubM (ws' := [(h0, .inr (4, [.ref o1, .ref o2, .ref q77, .ref q5, .ref q16, .ref a29, .int 0, .ref a37, .ref a45, .ref a53, .ref a61_2, .int 0, .int 0, .int 0, .int 0]))]) hP [0] rfl
  have hD := hD.sub (ws' := [(h0, .inr (4, [.ref o1, .ref o2, .ref q77, .ref q5, .ref q16, .ref a29, .int 0, .ref a37, .ref a45, .ref a53, .ref a61_2, .int 0, .int 0, .int 0, .int 0]))]) [0] rfl rfl
  exact fin_v (g := g) (ws := [(h0, .inr (4, [.ref o1, .ref o2, .ref q77, .ref q5, .ref q16, .ref a29, .int 0, .ref a37, .ref a45, .ref a53, .ref a61_2, .int 0, .int 0, .int 0, .int 0]))]) hx hb hr hlocks (by decide +kernel) (by decide +kernel) hP hD hS ⟨q5, q16, a29, a37, a45, a53, a61_2, q77, rfl⟩ d_First_init_88
abbrev rm_Tokens_init : Room := { frames := 1, cells := 5, slots := 553426, locals := 12 }
set_option maxHeartbeats 4000000 in
set_option maxRecDepth 100000 in
theorem c_Tokens_init (l : Launch) (g : gG) (sz : Nat) (h0 : Nat) : Cv l y_Tokens_init b_Tokens_init 1 rm_Tokens_init g [.ref h0] [(h0, .inr (9, [.null, .null, .int 0, .int 0, .int 0, .null, .null, .null, .int 0, .int 0]))] sz (fun w => ∃ (ab : Nat) (a15 : Nat) (a23 : Nat) (a31 : Nat) (a39 : Nat), w = [(h0, .inr (9, [.ref ab, .ref a15, .int 0, .int 0, .int 0, .ref a23, .ref a31, .ref a39, .int 0, .int 0]))]) := by
  refine startV (by decide) (Nat.le_of_ble_eq_true rfl) ?_
  intro p e s m below meth c A ls hx hb hr hml hlocks hmn hown htt hN hA hP hK hD hS hl
  have hin : meth.name = "<init>" := hmn
  have hown : s.vm.findClass "MacroMill$Tokens" = some m.cls := hown
  have hl : lv_has ls 1 [(0, .ref h0)] := hl
  refine lv_aload_n hx hb d_Tokens_init_0 rfl (lv_at hl 0 rfl) ?_
  refine W.objInit hx hb hown (htt _ k_71) (htt _ k_1) (htt _ k_2) rfl (by rw [hml]; exact hl.1) rfl d_Tokens_init_1 (Nat.le_of_ble_eq_true rfl) (Nat.le_of_ble_eq_true rfl) ?_
  refine W.eq (g2 := F0 m 4 ls []) rfl ?_
  refine lv_aload_n hx hb d_Tokens_init_4 rfl (lv_at hl 0 rfl) ?_
  refine lv_ldc (v := 125538) hx hb hown (htt _ k_72) d_Tokens_init_5 ?_
  refine nea (g := g) (A := A) (atype := .byte) (ty := .byte) (a0 := (125538, .inl (fun _ => 0))) (N' := 125538) hx hb htt 0 rfl no_byte k_4 rfl hK hP hD hS hA (a0_byte 125538) (by decide +kernel) (by decide +kernel) (by decide +kernel) (by decide +kernel) (by decide +kernel) d_Tokens_init_7 (fun ab H hP hD hS => ?_)
  refine W.widen (k := 1) (n := 125538) (by decide +kernel) (by decide +kernel) ?_
  have hP : va_P g.1 classes [(h0, .inr (9, [.null, .null, .int 0, .int 0, .int 0, .null, .null, .null, .int 0, .int 0])), (ab, .inl (g.2 0, 125538, .inl (fun _ => 0)))] H := hP
  have hD : va_D A [(h0, .inr (9, [.null, .null, .int 0, .int 0, .int 0, .null, .null, .null, .int 0, .int 0])), (ab, .inl (g.2 0, 125538, .inl (fun _ => 0)))] := hD
  refine va_putF (D := g.1) (ci := 9) (v := .ref ab) (ty := t_Tokens 0) (C := "MacroMill$Tokens") (T := F_Tokens) (N := 10) hx hb htt in_Tokens t_Tokens t_Tokens_ok n_Tokens hown hK hP hD hS 0 rfl rfl 0 (by decide) (htt _ k_73) (fun _ h9 => h9) rfl hin rfl (t_Tokens_ok 0 (by decide)) rfl rfl (Nat.le_of_ble_eq_true rfl) d_Tokens_init_9 (fun H locs hP hD hS => ?_)
  have hP : va_P g.1 classes [(h0, .inr (9, [.ref ab, .null, .int 0, .int 0, .int 0, .null, .null, .null, .int 0, .int 0])), (ab, .inl (g.2 0, 125538, .inl (fun _ => 0)))] H := hP
  have hD : va_D A [(h0, .inr (9, [.ref ab, .null, .int 0, .int 0, .int 0, .null, .null, .null, .int 0, .int 0])), (ab, .inl (g.2 0, 125538, .inl (fun _ => 0)))] := hD
  refine lv_aload_n hx hb d_Tokens_init_12 rfl (lv_at hl 0 rfl) ?_
  refine lv_ldc (v := 65536) hx hb hown (htt _ k_74) d_Tokens_init_13 ?_
  refine nea0 (g := g) (A := A) (atype := .char) (ty := .char) (a0 := (65536, .inl (fun _ => 0))) (N' := 65536) hx hb htt 4 rfl no_char k_75 rfl hK hP hD hS hA (a0_char 65536) (by decide +kernel) (by decide +kernel) (by decide +kernel) (by decide +kernel) (by decide +kernel) d_Tokens_init_15 (fun a15 H hP hD hS => ?_)
  refine W.widen (k := 2) (n := 191074) (by decide +kernel) (by decide +kernel) ?_
  refine va_putF (D := g.1) (ci := 9) (v := .ref a15) (ty := t_Tokens 1) (C := "MacroMill$Tokens") (T := F_Tokens) (N := 10) hx hb htt in_Tokens t_Tokens t_Tokens_ok n_Tokens hown hK hP hD hS 0 rfl rfl 1 (by decide) (htt _ k_76) (fun _ h9 => h9) rfl hin rfl (t_Tokens_ok 1 (by decide)) rfl rfl (Nat.le_of_ble_eq_true rfl) d_Tokens_init_17 (fun H locs hP hD hS => ?_)
  have hP : va_P g.1 classes [(h0, .inr (9, [.ref ab, .ref a15, .int 0, .int 0, .int 0, .null, .null, .null, .int 0, .int 0])), (ab, .inl (g.2 0, 125538, .inl (fun _ => 0)))] H := hP
  have hD : va_D A [(h0, .inr (9, [.ref ab, .ref a15, .int 0, .int 0, .int 0, .null, .null, .null, .int 0, .int 0])), (ab, .inl (g.2 0, 125538, .inl (fun _ => 0)))] := hD
  refine lv_aload_n hx hb d_Tokens_init_20 rfl (lv_at hl 0 rfl) ?_
  show W _ _ _ _ _ _ _ _ _ _ _ _ _ _ _ (F0 _ 21 _ _)
  refine lv_ldc (v := 120784) hx hb hown (htt _ k_77) d_Tokens_init_21 ?_
  refine nea0 (g := g) (A := A) (atype := .long) (ty := .long) (a0 := (120784, .inr (.inl (fun _ => 0)))) (N' := 120784) hx hb htt 2 rfl no_long k_14 rfl hK hP hD hS hA (a0_long 120784) (by decide +kernel) (by decide +kernel) (by decide +kernel) (by decide +kernel) (by decide +kernel) d_Tokens_init_23 (fun a23 H hP hD hS => ?_)
  refine W.widen (k := 3) (n := 311858) (by decide +kernel) (by decide +kernel) ?_
  refine va_putF (D := g.1) (ci := 9) (v := .ref a23) (ty := t_Tokens 5) (C := "MacroMill$Tokens") (T := F_Tokens) (N := 10) hx hb htt in_Tokens t_Tokens t_Tokens_ok n_Tokens hown hK hP hD hS 0 rfl rfl 5 (by decide) (htt _ k_78) (fun _ h9 => h9) rfl hin rfl (t_Tokens_ok 5 (by decide)) rfl rfl (Nat.le_of_ble_eq_true rfl) d_Tokens_init_25 (fun H locs hP hD hS => ?_)
  have hP : va_P g.1 classes [(h0, .inr (9, [.ref ab, .ref a15, .int 0, .int 0, .int 0, .ref a23, .null, .null, .int 0, .int 0])), (ab, .inl (g.2 0, 125538, .inl (fun _ => 0)))] H := hP
  have hD : va_D A [(h0, .inr (9, [.ref ab, .ref a15, .int 0, .int 0, .int 0, .ref a23, .null, .null, .int 0, .int 0])), (ab, .inl (g.2 0, 125538, .inl (fun _ => 0)))] := hD
  refine lv_aload_n hx hb d_Tokens_init_28 rfl (lv_at hl 0 rfl) ?_
  refine lv_ldc (v := 120784) hx hb hown (htt _ k_77) d_Tokens_init_29 ?_
  refine nea0 (g := g) (A := A) (atype := .int) (ty := .int) (a0 := (120784, .inl (fun _ => 0))) (N' := 120784) hx hb htt 1 rfl no_int k_7 rfl hK hP hD hS hA (a0_int 120784) (by decide +kernel) (by decide +kernel) (by decide +kernel) (by decide +kernel) (by decide +kernel) d_Tokens_init_31 (fun a31 H hP hD hS => ?_)
  refine W.widen (k := 4) (n := 432642) (by decide +kernel) (by decide +kernel) ?_
  refine va_putF (D := g.1) (ci := 9) (v := .ref a31) (ty := t_Tokens 6) (C := "MacroMill$Tokens") (T := F_Tokens) (N := 10) hx hb htt in_Tokens t_Tokens t_Tokens_ok n_Tokens hown hK hP hD hS 0 rfl rfl 6 (by decide) (htt _ k_79) (fun _ h9 => h9) rfl hin rfl (t_Tokens_ok 6 (by decide)) rfl rfl (Nat.le_of_ble_eq_true rfl) d_Tokens_init_33 (fun H locs hP hD hS => ?_)
  have hP : va_P g.1 classes [(h0, .inr (9, [.ref ab, .ref a15, .int 0, .int 0, .int 0, .ref a23, .ref a31, .null, .int 0, .int 0])), (ab, .inl (g.2 0, 125538, .inl (fun _ => 0)))] H := hP
  have hD : va_D A [(h0, .inr (9, [.ref ab, .ref a15, .int 0, .int 0, .int 0, .ref a23, .ref a31, .null, .int 0, .int 0])), (ab, .inl (g.2 0, 125538, .inl (fun _ => 0)))] := hD
  refine lv_aload_n hx hb d_Tokens_init_36 rfl (lv_at hl 0 rfl) ?_
  refine lv_ldc (v := 120784) hx hb hown (htt _ k_77) d_Tokens_init_37 ?_
  refine nea0 (g := g) (A := A) (atype := .int) (ty := .int) (a0 := (120784, .inl (fun _ => 0))) (N' := 120784) hx hb htt 1 rfl no_int k_7 rfl hK hP hD hS hA (a0_int 120784) (by decide +kernel) (by decide +kernel) (by decide +kernel) (by decide +kernel) (by decide +kernel) d_Tokens_init_39 (fun a39 H hP hD hS => ?_)
  refine W.widen (k := 5) (n := 553426) (by decide +kernel) (by decide +kernel) ?_
  refine va_putF (D := g.1) (ci := 9) (v := .ref a39) (ty := t_Tokens 7) (C := "MacroMill$Tokens") (T := F_Tokens) (N := 10) hx hb htt in_Tokens t_Tokens t_Tokens_ok n_Tokens hown hK hP hD hS 0 rfl rfl 7 (by decide) (htt _ k_80) (fun _ h9 => h9) rfl hin rfl (t_Tokens_ok 7 (by decide)) rfl rfl (Nat.le_of_ble_eq_true rfl) d_Tokens_init_41 (fun H locs hP hD hS => ?_)
  have hP : va_P g.1 classes [(h0, .inr (9, [.ref ab, .ref a15, .int 0, .int 0, .int 0, .ref a23, .ref a31, .ref a39, .int 0, .int 0])), (ab, .inl (g.2 0, 125538, .inl (fun _ => 0)))] H := hP
  have hD : va_D A [(h0, .inr (9, [.ref ab, .ref a15, .int 0, .int 0, .int 0, .ref a23, .ref a31, .ref a39, .int 0, .int 0])), (ab, .inl (g.2 0, 125538, .inl (fun _ => 0)))] := hD
  refine lv_aload_n hx hb d_Tokens_init_44 rfl (lv_at hl 0 rfl) ?_
  show W _ _ _ _ _ _ _ _ _ _ _ _ _ _ _ (F0 _ 45 _ _)
  refine va_get (D := g.1) (ci := 9) (v := .ref ab) (C := "MacroMill$Tokens") (T := F_Tokens) (N := 10) hx hb htt in_Tokens hown hK hP 0 rfl rfl 0 (by decide) (htt _ k_73) (fun _ h9 => h9) rfl d_Tokens_init_45 ?_
  refine lv_ldc (v := 60000) hx hb hown (htt _ k_81) d_Tokens_init_48 ?_
  refine lv_bipush (v := 48) hx hb d_Tokens_init_50 (by decide) ?_
  refine va_bast (i := 60000) (x := 48) hx hb hK hP hD hS 1 0 rfl rfl (by unfold vp_in; decide) d_Tokens_init_52 (fun H locs hP hD hS => ?_)
  have hP : va_P g.1 classes [(h0, .inr (9, [.ref ab, .ref a15, .int 0, .int 0, .int 0, .ref a23, .ref a31, .ref a39, .int 0, .int 0])), (ab, .inl (g.2 0, 125538, .inl (upd (fun _ => 0) ((60000 : Int32).toNatClampNeg) (vp_nar .byte 48))))] H := hP
  have hD : va_D A [(h0, .inr (9, [.ref ab, .ref a15, .int 0, .int 0, .int 0, .ref a23, .ref a31, .ref a39, .int 0, .int 0])), (ab, .inl (g.2 0, 125538, .inl (upd (fun _ => 0) ((60000 : Int32).toNatClampNeg) (vp_nar .byte 48))))] := hD
  refine lv_aload_n hx hb d_Tokens_init_53 rfl (lv_at hl 0 rfl) ?_
  refine va_get (D := g.1) (ci := 9) (v := .ref ab) (C := "MacroMill$Tokens") (T := F_Tokens) (N := 10) hx hb htt in_Tokens hown hK hP 0 rfl rfl 0 (by decide) (htt _ k_73) (fun _ h9 => h9) rfl d_Tokens_init_54 ?_
  refine lv_ldc (v := 60001) hx hb hown (htt _ k_82) d_Tokens_init_57 ?_
  refine lv_bipush (v := 49) hx hb d_Tokens_init_59 (by decide) ?_
  refine va_bast (i := 60001) (x := 49) hx hb hK hP hD hS 1 0 rfl rfl (by unfold vp_in; decide) d_Tokens_init_61 (fun H locs hP hD hS => ?_)
  have hP : va_P g.1 classes [(h0, .inr (9, [.ref ab, .ref a15, .int 0, .int 0, .int 0, .ref a23, .ref a31, .ref a39, .int 0, .int 0])), (ab, .inl (g.2 0, 125538, .inl (upd (upd (fun _ => 0) ((60000 : Int32).toNatClampNeg) (vp_nar .byte 48)) ((60001 : Int32).toNatClampNeg) (vp_nar .byte 49))))] H := hP
  have hD : va_D A [(h0, .inr (9, [.ref ab, .ref a15, .int 0, .int 0, .int 0, .ref a23, .ref a31, .ref a39, .int 0, .int 0])), (ab, .inl (g.2 0, 125538, .inl (upd (upd (fun _ => 0) ((60000 : Int32).toNatClampNeg) (vp_nar .byte 48)) ((60001 : Int32).toNatClampNeg) (vp_nar .byte 49))))] := hD
  have hP := va_PsubM (ws' := [(h0, .inr (9, [.ref ab, .ref a15, .int 0, .int 0, .int 0, .ref a23, .ref a31, .ref a39, .int 0, .int 0]))]) hP [0] rfl
  have hD := hD.sub (ws' := [(h0, .inr (9, [.ref ab, .ref a15, .int 0, .int 0, .int 0, .ref a23, .ref a31, .ref a39, .int 0, .int 0]))]) [0] rfl rfl
  exact fin_v (g := g) (ws := [(h0, .inr (9, [.ref ab, .ref a15, .int 0, .int 0, .int 0, .ref a23, .ref a31, .ref a39, .int 0, .int 0]))]) hx hb hr hlocks (by decide +kernel) (by decide +kernel) hP hD hS ⟨ab, a15, a23, a31, a39, rfl⟩ d_Tokens_init_62
abbrev rm_Macros_init : Room := { frames := 1, cells := 14, slots := 28982, locals := 12 }
set_option maxHeartbeats 4000000 in
set_option maxRecDepth 100000 in
theorem c_Macros_init (l : Launch) (g : gG) (sz : Nat) (h0 : Nat) (o1 : Nat) : Cv l y_Macros_init b_Macros_init 2 rm_Macros_init g [.ref h0, .ref o1] [(h0, .inr (10, [.null, .null, .null, .null, .int 0, .int 0, .null, .null, .null, .null, .null, .null, .int 0, .null, .null, .null, .int 0, .null, .null]))] sz (fun w => ∃ (a8 : Nat) (ab : Nat) (a26 : Nat) (a35 : Nat) (a44 : Nat) (a53 : Nat) (a62 : Nat) (a71 : Nat) (a80 : Nat) (a89 : Nat) (asb : Nat) (a107 : Nat) (a115 : Nat) (a123 : Nat), w = [(h0, .inr (10, [.ref o1, .ref a8, .ref ab, .ref a26, .int 0, .int 0, .ref a35, .ref a44, .ref a53, .ref a62, .ref a71, .ref a80, .int 0, .ref a89, .ref asb, .ref a107, .int 0, .ref a115, .ref a123])), (ab, .inl (g.2 1, 512, .inl (fun _ => 0))), (asb, .inl (g.2 1, 2048, .inl (fun _ => 0)))]) := by
  refine startV (by decide) (Nat.le_of_ble_eq_true rfl) ?_
  intro p e s m below meth c A ls hx hb hr hml hlocks hmn hown htt hN hA hP hK hD hS hl
  have hin : meth.name = "<init>" := hmn
  have hown : s.vm.findClass "MacroMill$Macros" = some m.cls := hown
  have hl : lv_has ls 2 [(0, .ref h0), (1, .ref o1)] := hl
  refine lv_aload_n hx hb d_Macros_init_0 rfl (lv_at hl 0 rfl) ?_
  refine W.objInit hx hb hown (htt _ k_83) (htt _ k_1) (htt _ k_2) rfl (by rw [hml]; exact hl.1) rfl d_Macros_init_1 (Nat.le_of_ble_eq_true rfl) (Nat.le_of_ble_eq_true rfl) ?_
  refine W.eq (g2 := F0 m 4 ls []) rfl ?_
  refine lv_aload_n hx hb d_Macros_init_4 rfl (lv_at hl 0 rfl) ?_
  refine lv_sipush (v := 400) hx hb d_Macros_init_5 (by decide) ?_
  refine nea0 (g := g) (A := A) (atype := .long) (ty := .long) (a0 := (400, .inr (.inl (fun _ => 0)))) (N' := 400) hx hb htt 2 rfl no_long k_14 rfl hK hP hD hS hA (a0_long 400) (by decide +kernel) (by decide +kernel) (by decide +kernel) (by decide +kernel) (by decide +kernel) d_Macros_init_8 (fun a8 H hP hD hS => ?_)
  refine W.widen (k := 1) (n := 400) (by decide +kernel) (by decide +kernel) ?_
  refine va_putF (D := g.1) (ci := 10) (v := .ref a8) (ty := t_Macros 1) (C := "MacroMill$Macros") (T := F_Macros) (N := 19) hx hb htt in_Macros t_Macros t_Macros_ok n_Macros hown hK hP hD hS 0 rfl rfl 1 (by decide) (htt _ k_84) (fun _ h9 => h9) rfl hin rfl (t_Macros_ok 1 (by decide)) rfl rfl (Nat.le_of_ble_eq_true rfl) d_Macros_init_10 (fun H locs hP hD hS => ?_)
  have hP : va_P g.1 classes [(h0, .inr (10, [.null, .ref a8, .null, .null, .int 0, .int 0, .null, .null, .null, .null, .null, .null, .int 0, .null, .null, .null, .int 0, .null, .null]))] H := hP
  have hD : va_D A [(h0, .inr (10, [.null, .ref a8, .null, .null, .int 0, .int 0, .null, .null, .null, .null, .null, .null, .int 0, .null, .null, .null, .int 0, .null, .null]))] := hD
  refine lv_aload_n hx hb d_Macros_init_13 rfl (lv_at hl 0 rfl) ?_
  refine lv_sipush (v := 512) hx hb d_Macros_init_14 (by decide) ?_
  refine nea (g := g) (A := A) (atype := .int) (ty := .int) (a0 := (512, .inl (fun _ => 0))) (N' := 512) hx hb htt 1 rfl no_int k_7 rfl hK hP hD hS hA (a0_int 512) (by decide +kernel) (by decide +kernel) (by decide +kernel) (by decide +kernel) (by decide +kernel) d_Macros_init_17 (fun ab H hP hD hS => ?_)
  refine W.widen (k := 2) (n := 912) (by decide +kernel) (by decide +kernel) ?_
  have hP : va_P g.1 classes [(h0, .inr (10, [.null, .ref a8, .null, .null, .int 0, .int 0, .null, .null, .null, .null, .null, .null, .int 0, .null, .null, .null, .int 0, .null, .null])), (ab, .inl (g.2 1, 512, .inl (fun _ => 0)))] H := hP
  have hD : va_D A [(h0, .inr (10, [.null, .ref a8, .null, .null, .int 0, .int 0, .null, .null, .null, .null, .null, .null, .int 0, .null, .null, .null, .int 0, .null, .null])), (ab, .inl (g.2 1, 512, .inl (fun _ => 0)))] := hD
  refine va_putF (D := g.1) (ci := 10) (v := .ref ab) (ty := t_Macros 2) (C := "MacroMill$Macros") (T := F_Macros) (N := 19) hx hb htt in_Macros t_Macros t_Macros_ok n_Macros hown hK hP hD hS 0 rfl rfl 2 (by decide) (htt _ k_85) (fun _ h9 => h9) rfl hin rfl (t_Macros_ok 2 (by decide)) rfl rfl (Nat.le_of_ble_eq_true rfl) d_Macros_init_19 (fun H locs hP hD hS => ?_)
  have hP : va_P g.1 classes [(h0, .inr (10, [.null, .ref a8, .ref ab, .null, .int 0, .int 0, .null, .null, .null, .null, .null, .null, .int 0, .null, .null, .null, .int 0, .null, .null])), (ab, .inl (g.2 1, 512, .inl (fun _ => 0)))] H := hP
  have hD : va_D A [(h0, .inr (10, [.null, .ref a8, .ref ab, .null, .int 0, .int 0, .null, .null, .null, .null, .null, .null, .int 0, .null, .null, .null, .int 0, .null, .null])), (ab, .inl (g.2 1, 512, .inl (fun _ => 0)))] := hD
  refine lv_aload_n hx hb d_Macros_init_22 rfl (lv_at hl 0 rfl) ?_
  show W _ _ _ _ _ _ _ _ _ _ _ _ _ _ _ (F0 _ 23 _ _)
  refine lv_sipush (v := 400) hx hb d_Macros_init_23 (by decide) ?_
  refine nea0 (g := g) (A := A) (atype := .int) (ty := .int) (a0 := (400, .inl (fun _ => 0))) (N' := 400) hx hb htt 1 rfl no_int k_7 rfl hK hP hD hS hA (a0_int 400) (by decide +kernel) (by decide +kernel) (by decide +kernel) (by decide +kernel) (by decide +kernel) d_Macros_init_26 (fun a26 H hP hD hS => ?_)
  refine W.widen (k := 3) (n := 1312) (by decide +kernel) (by decide +kernel) ?_
  refine va_putF (D := g.1) (ci := 10) (v := .ref a26) (ty := t_Macros 3) (C := "MacroMill$Macros") (T := F_Macros) (N := 19) hx hb htt in_Macros t_Macros t_Macros_ok n_Macros hown hK hP hD hS 0 rfl rfl 3 (by decide) (htt _ k_86) (fun _ h9 => h9) rfl hin rfl (t_Macros_ok 3 (by decide)) rfl rfl (Nat.le_of_ble_eq_true rfl) d_Macros_init_28 (fun H locs hP hD hS => ?_)
  have hP : va_P g.1 classes [(h0, .inr (10, [.null, .ref a8, .ref ab, .ref a26, .int 0, .int 0, .null, .null, .null, .null, .null, .null, .int 0, .null, .null, .null, .int 0, .null, .null])), (ab, .inl (g.2 1, 512, .inl (fun _ => 0)))] H := hP
  have hD : va_D A [(h0, .inr (10, [.null, .ref a8, .ref ab, .ref a26, .int 0, .int 0, .null, .null, .null, .null, .null, .null, .int 0, .null, .null, .null, .int 0, .null, .null])), (ab, .inl (g.2 1, 512, .inl (fun _ => 0)))] := hD
  refine lv_aload_n hx hb d_Macros_init_31 rfl (lv_at hl 0 rfl) ?_
  refine lv_sipush (v := 400) hx hb d_Macros_init_32 (by decide) ?_
  refine nea0 (g := g) (A := A) (atype := .int) (ty := .int) (a0 := (400, .inl (fun _ => 0))) (N' := 400) hx hb htt 1 rfl no_int k_7 rfl hK hP hD hS hA (a0_int 400) (by decide +kernel) (by decide +kernel) (by decide +kernel) (by decide +kernel) (by decide +kernel) d_Macros_init_35 (fun a35 H hP hD hS => ?_)
  refine W.widen (k := 4) (n := 1712) (by decide +kernel) (by decide +kernel) ?_
  refine va_putF (D := g.1) (ci := 10) (v := .ref a35) (ty := t_Macros 6) (C := "MacroMill$Macros") (T := F_Macros) (N := 19) hx hb htt in_Macros t_Macros t_Macros_ok n_Macros hown hK hP hD hS 0 rfl rfl 6 (by decide) (htt _ k_87) (fun _ h9 => h9) rfl hin rfl (t_Macros_ok 6 (by decide)) rfl rfl (Nat.le_of_ble_eq_true rfl) d_Macros_init_37 (fun H locs hP hD hS => ?_)
  have hP : va_P g.1 classes [(h0, .inr (10, [.null, .ref a8, .ref ab, .ref a26, .int 0, .int 0, .ref a35, .null, .null, .null, .null, .null, .int 0, .null, .null, .null, .int 0, .null, .null])), (ab, .inl (g.2 1, 512, .inl (fun _ => 0)))] H := hP
  have hD : va_D A [(h0, .inr (10, [.null, .ref a8, .ref ab, .ref a26, .int 0, .int 0, .ref a35, .null, .null, .null, .null, .null, .int 0, .null, .null, .null, .int 0, .null, .null])), (ab, .inl (g.2 1, 512, .inl (fun _ => 0)))] := hD
  refine lv_aload_n hx hb d_Macros_init_40 rfl (lv_at hl 0 rfl) ?_
  refine lv_sipush (v := 400) hx hb d_Macros_init_41 (by decide) ?_
  refine nea0 (g := g) (A := A) (atype := .boolean) (ty := .boolean) (a0 := (400, .inl (fun _ => 0))) (N' := 400) hx hb htt 3 rfl no_boolean k_16 rfl hK hP hD hS hA (a0_boolean 400) (by decide +kernel) (by decide +kernel) (by decide +kernel) (by decide +kernel) (by decide +kernel) d_Macros_init_44 (fun a44 H hP hD hS => ?_)
  refine W.widen (k := 5) (n := 2112) (by decide +kernel) (by decide +kernel) ?_
  refine va_putF (D := g.1) (ci := 10) (v := .ref a44) (ty := t_Macros 7) (C := "MacroMill$Macros") (T := F_Macros) (N := 19) hx hb htt in_Macros t_Macros t_Macros_ok n_Macros hown hK hP hD hS 0 rfl rfl 7 (by decide) (htt _ k_88) (fun _ h9 => h9) rfl hin rfl (t_Macros_ok 7 (by decide)) rfl rfl (Nat.le_of_ble_eq_true rfl) d_Macros_init_46 (fun H locs hP hD hS => ?_)
  have hP : va_P g.1 classes [(h0, .inr (10, [.null, .ref a8, .ref ab, .ref a26, .int 0, .int 0, .ref a35, .ref a44, .null, .null, .null, .null, .int 0, .null, .null, .null, .int 0, .null, .null])), (ab, .inl (g.2 1, 512, .inl (fun _ => 0)))] H := hP
  have hD : va_D A [(h0, .inr (10, [.null, .ref a8, .ref ab, .ref a26, .int 0, .int 0, .ref a35, .ref a44, .null, .null, .null, .null, .int 0, .null, .null, .null, .int 0, .null, .null])), (ab, .inl (g.2 1, 512, .inl (fun _ => 0)))] := hD
  refine lv_aload_n hx hb d_Macros_init_49 rfl (lv_at hl 0 rfl) ?_
  show W _ _ _ _ _ _ _ _ _ _ _ _ _ _ _ (F0 _ 50 _ _)
  refine lv_sipush (v := 400) hx hb d_Macros_init_50 (by decide) ?_
  refine nea0 (g := g) (A := A) (atype := .int) (ty := .int) (a0 := (400, .inl (fun _ => 0))) (N' := 400) hx hb htt 1 rfl no_int k_7 rfl hK hP hD hS hA (a0_int 400) (by decide +kernel) (by decide +kernel) (by decide +kernel) (by decide +kernel) (by decide +kernel) d_Macros_init_53 (fun a53 H hP hD hS => ?_)
  refine W.widen (k := 6) (n := 2512) (by decide +kernel) (by decide +kernel) ?_
  refine va_putF (D := g.1) (ci := 10) (v := .ref a53) (ty := t_Macros 8) (C := "MacroMill$Macros") (T := F_Macros) (N := 19) hx hb htt in_Macros t_Macros t_Macros_ok n_Macros hown hK hP hD hS 0 rfl rfl 8 (by decide) (htt _ k_89) (fun _ h9 => h9) rfl hin rfl (t_Macros_ok 8 (by decide)) rfl rfl (Nat.le_of_ble_eq_true rfl) d_Macros_init_55 (fun H locs hP hD hS => ?_)
  have hP : va_P g.1 classes [(h0, .inr (10, [.null, .ref a8, .ref ab, .ref a26, .int 0, .int 0, .ref a35, .ref a44, .ref a53, .null, .null, .null, .int 0, .null, .null, .null, .int 0, .null, .null])), (ab, .inl (g.2 1, 512, .inl (fun _ => 0)))] H := hP
  have hD : va_D A [(h0, .inr (10, [.null, .ref a8, .ref ab, .ref a26, .int 0, .int 0, .ref a35, .ref a44, .ref a53, .null, .null, .null, .int 0, .null, .null, .null, .int 0, .null, .null])), (ab, .inl (g.2 1, 512, .inl (fun _ => 0)))] := hD
  refine lv_aload_n hx hb d_Macros_init_58 rfl (lv_at hl 0 rfl) ?_
  refine lv_sipush (v := 400) hx hb d_Macros_init_59 (by decide) ?_
  refine nea0 (g := g) (A := A) (atype := .int) (ty := .int) (a0 := (400, .inl (fun _ => 0))) (N' := 400) hx hb htt 1 rfl no_int k_7 rfl hK hP hD hS hA (a0_int 400) (by decide +kernel) (by decide +kernel) (by decide +kernel) (by decide +kernel) (by decide +kernel) d_Macros_init_62 (fun a62 H hP hD hS => ?_)
  refine W.widen (k := 7) (n := 2912) (by decide +kernel) (by decide +kernel) ?_
  refine va_putF (D := g.1) (ci := 10) (v := .ref a62) (ty := t_Macros 9) (C := "MacroMill$Macros") (T := F_Macros) (N := 19) hx hb htt in_Macros t_Macros t_Macros_ok n_Macros hown hK hP hD hS 0 rfl rfl 9 (by decide) (htt _ k_90) (fun _ h9 => h9) rfl hin rfl (t_Macros_ok 9 (by decide)) rfl rfl (Nat.le_of_ble_eq_true rfl) d_Macros_init_64 (fun H locs hP hD hS => ?_)
  have hP : va_P g.1 classes [(h0, .inr (10, [.null, .ref a8, .ref ab, .ref a26, .int 0, .int 0, .ref a35, .ref a44, .ref a53, .ref a62, .null, .null, .int 0, .null, .null, .null, .int 0, .null, .null])), (ab, .inl (g.2 1, 512, .inl (fun _ => 0)))] H := hP
  have hD : va_D A [(h0, .inr (10, [.null, .ref a8, .ref ab, .ref a26, .int 0, .int 0, .ref a35, .ref a44, .ref a53, .ref a62, .null, .null, .int 0, .null, .null, .null, .int 0, .null, .null])), (ab, .inl (g.2 1, 512, .inl (fun _ => 0)))] := hD
  refine lv_aload_n hx hb d_Macros_init_67 rfl (lv_at hl 0 rfl) ?_
  refine lv_sipush (v := 8000) hx hb d_Macros_init_68 (by decide) ?_
  refine nea0 (g := g) (A := A) (atype := .long) (ty := .long) (a0 := (8000, .inr (.inl (fun _ => 0)))) (N' := 8000) hx hb htt 2 rfl no_long k_14 rfl hK hP hD hS hA (a0_long 8000) (by decide +kernel) (by decide +kernel) (by decide +kernel) (by decide +kernel) (by decide +kernel) d_Macros_init_71 (fun a71 H hP hD hS => ?_)
  refine W.widen (k := 8) (n := 10912) (by decide +kernel) (by decide +kernel) ?_
  refine va_putF (D := g.1) (ci := 10) (v := .ref a71) (ty := t_Macros 10) (C := "MacroMill$Macros") (T := F_Macros) (N := 19) hx hb htt in_Macros t_Macros t_Macros_ok n_Macros hown hK hP hD hS 0 rfl rfl 10 (by decide) (htt _ k_91) (fun _ h9 => h9) rfl hin rfl (t_Macros_ok 10 (by decide)) rfl rfl (Nat.le_of_ble_eq_true rfl) d_Macros_init_73 (fun H locs hP hD hS => ?_)
  have hP : va_P g.1 classes [(h0, .inr (10, [.null, .ref a8, .ref ab, .ref a26, .int 0, .int 0, .ref a35, .ref a44, .ref a53, .ref a62, .ref a71, .null, .int 0, .null, .null, .null, .int 0, .null, .null])), (ab, .inl (g.2 1, 512, .inl (fun _ => 0)))] H := hP
  have hD : va_D A [(h0, .inr (10, [.null, .ref a8, .ref ab, .ref a26, .int 0, .int 0, .ref a35, .ref a44, .ref a53, .ref a62, .ref a71, .null, .int 0, .null, .null, .null, .int 0, .null, .null])), (ab, .inl (g.2 1, 512, .inl (fun _ => 0)))] := hD
  refine lv_aload_n hx hb d_Macros_init_76 rfl (lv_at hl 0 rfl) ?_
  show W _ _ _ _ _ _ _ _ _ _ _ _ _ _ _ (F0 _ 77 _ _)
  refine lv_sipush (v := 8000) hx hb d_Macros_init_77 (by decide) ?_
  refine nea0 (g := g) (A := A) (atype := .int) (ty := .int) (a0 := (8000, .inl (fun _ => 0))) (N' := 8000) hx hb htt 1 rfl no_int k_7 rfl hK hP hD hS hA (a0_int 8000) (by decide +kernel) (by decide +kernel) (by decide +kernel) (by decide +kernel) (by decide +kernel) d_Macros_init_80 (fun a80 H hP hD hS => ?_)
  refine W.widen (k := 9) (n := 18912) (by decide +kernel) (by decide +kernel) ?_
  refine va_putF (D := g.1) (ci := 10) (v := .ref a80) (ty := t_Macros 11) (C := "MacroMill$Macros") (T := F_Macros) (N := 19) hx hb htt in_Macros t_Macros t_Macros_ok n_Macros hown hK hP hD hS 0 rfl rfl 11 (by decide) (htt _ k_92) (fun _ h9 => h9) rfl hin rfl (t_Macros_ok 11 (by decide)) rfl rfl (Nat.le_of_ble_eq_true rfl) d_Macros_init_82 (fun H locs hP hD hS => ?_)
  have hP : va_P g.1 classes [(h0, .inr (10, [.null, .ref a8, .ref ab, .ref a26, .int 0, .int 0, .ref a35, .ref a44, .ref a53, .ref a62, .ref a71, .ref a80, .int 0, .null, .null, .null, .int 0, .null, .null])), (ab, .inl (g.2 1, 512, .inl (fun _ => 0)))] H := hP
  have hD : va_D A [(h0, .inr (10, [.null, .ref a8, .ref ab, .ref a26, .int 0, .int 0, .ref a35, .ref a44, .ref a53, .ref a62, .ref a71, .ref a80, .int 0, .null, .null, .null, .int 0, .null, .null])), (ab, .inl (g.2 1, 512, .inl (fun _ => 0)))] := hD
  refine lv_aload_n hx hb d_Macros_init_85 rfl (lv_at hl 0 rfl) ?_
  refine lv_sipush (v := 7007) hx hb d_Macros_init_86 (by decide) ?_
  refine nea0 (g := g) (A := A) (atype := .long) (ty := .long) (a0 := (7007, .inr (.inl (fun _ => 0)))) (N' := 7007) hx hb htt 2 rfl no_long k_14 rfl hK hP hD hS hA (a0_long 7007) (by decide +kernel) (by decide +kernel) (by decide +kernel) (by decide +kernel) (by decide +kernel) d_Macros_init_89 (fun a89 H hP hD hS => ?_)
  refine W.widen (k := 10) (n := 25919) (by decide +kernel) (by decide +kernel) ?_
  refine va_putF (D := g.1) (ci := 10) (v := .ref a89) (ty := t_Macros 13) (C := "MacroMill$Macros") (T := F_Macros) (N := 19) hx hb htt in_Macros t_Macros t_Macros_ok n_Macros hown hK hP hD hS 0 rfl rfl 13 (by decide) (htt _ k_93) (fun _ h9 => h9) rfl hin rfl (t_Macros_ok 13 (by decide)) rfl rfl (Nat.le_of_ble_eq_true rfl) d_Macros_init_91 (fun H locs hP hD hS => ?_)
  have hP : va_P g.1 classes [(h0, .inr (10, [.null, .ref a8, .ref ab, .ref a26, .int 0, .int 0, .ref a35, .ref a44, .ref a53, .ref a62, .ref a71, .ref a80, .int 0, .ref a89, .null, .null, .int 0, .null, .null])), (ab, .inl (g.2 1, 512, .inl (fun _ => 0)))] H := hP
  have hD : va_D A [(h0, .inr (10, [.null, .ref a8, .ref ab, .ref a26, .int 0, .int 0, .ref a35, .ref a44, .ref a53, .ref a62, .ref a71, .ref a80, .int 0, .ref a89, .null, .null, .int 0, .null, .null])), (ab, .inl (g.2 1, 512, .inl (fun _ => 0)))] := hD
  refine lv_aload_n hx hb d_Macros_init_94 rfl (lv_at hl 0 rfl) ?_
  refine lv_sipush (v := 2048) hx hb d_Macros_init_95 (by decide) ?_
  refine nea (g := g) (A := A) (atype := .int) (ty := .int) (a0 := (2048, .inl (fun _ => 0))) (N' := 2048) hx hb htt 1 rfl no_int k_7 rfl hK hP hD hS hA (a0_int 2048) (by decide +kernel) (by decide +kernel) (by decide +kernel) (by decide +kernel) (by decide +kernel) d_Macros_init_98 (fun asb H hP hD hS => ?_)
  refine W.widen (k := 11) (n := 27967) (by decide +kernel) (by decide +kernel) ?_
  have hP : va_P g.1 classes [(h0, .inr (10, [.null, .ref a8, .ref ab, .ref a26, .int 0, .int 0, .ref a35, .ref a44, .ref a53, .ref a62, .ref a71, .ref a80, .int 0, .ref a89, .null, .null, .int 0, .null, .null])), (ab, .inl (g.2 1, 512, .inl (fun _ => 0))), (asb, .inl (g.2 1, 2048, .inl (fun _ => 0)))] H := hP
  have hD : va_D A [(h0, .inr (10, [.null, .ref a8, .ref ab, .ref a26, .int 0, .int 0, .ref a35, .ref a44, .ref a53, .ref a62, .ref a71, .ref a80, .int 0, .ref a89, .null, .null, .int 0, .null, .null])), (ab, .inl (g.2 1, 512, .inl (fun _ => 0))), (asb, .inl (g.2 1, 2048, .inl (fun _ => 0)))] := hD
  refine va_putF (D := g.1) (ci := 10) (v := .ref asb) (ty := t_Macros 14) (C := "MacroMill$Macros") (T := F_Macros) (N := 19) hx hb htt in_Macros t_Macros t_Macros_ok n_Macros hown hK hP hD hS 0 rfl rfl 14 (by decide) (htt _ k_94) (fun _ h9 => h9) rfl hin rfl (t_Macros_ok 14 (by decide)) rfl rfl (Nat.le_of_ble_eq_true rfl) d_Macros_init_100 (fun H locs hP hD hS => ?_)
  have hP : va_P g.1 classes [(h0, .inr (10, [.null, .ref a8, .ref ab, .ref a26, .int 0, .int 0, .ref a35, .ref a44, .ref a53, .ref a62, .ref a71, .ref a80, .int 0, .ref a89, .ref asb, .null, .int 0, .null, .null])), (ab, .inl (g.2 1, 512, .inl (fun _ => 0))), (asb, .inl (g.2 1, 2048, .inl (fun _ => 0)))] H := hP
  have hD : va_D A [(h0, .inr (10, [.null, .ref a8, .ref ab, .ref a26, .int 0, .int 0, .ref a35, .ref a44, .ref a53, .ref a62, .ref a71, .ref a80, .int 0, .ref a89, .ref asb, .null, .int 0, .null, .null])), (ab, .inl (g.2 1, 512, .inl (fun _ => 0))), (asb, .inl (g.2 1, 2048, .inl (fun _ => 0)))] := hD
  refine lv_aload_n hx hb d_Macros_init_103 rfl (lv_at hl 0 rfl) ?_
  show W _ _ _ _ _ _ _ _ _ _ _ _ _ _ _ (F0 _ 104 _ _)
  refine lv_sipush (v := 1001) hx hb d_Macros_init_104 (by decide) ?_
  refine nea0 (g := g) (A := A) (atype := .int) (ty := .int) (a0 := (1001, .inl (fun _ => 0))) (N' := 1001) hx hb htt 1 rfl no_int k_7 rfl hK hP hD hS hA (a0_int 1001) (by decide +kernel) (by decide +kernel) (by decide +kernel) (by decide +kernel) (by decide +kernel) d_Macros_init_107 (fun a107 H hP hD hS => ?_)
  refine W.widen (k := 12) (n := 28968) (by decide +kernel) (by decide +kernel) ?_
  refine va_putF (D := g.1) (ci := 10) (v := .ref a107) (ty := t_Macros 15) (C := "MacroMill$Macros") (T := F_Macros) (N := 19) hx hb htt in_Macros t_Macros t_Macros_ok n_Macros hown hK hP hD hS 0 rfl rfl 15 (by decide) (htt _ k_95) (fun _ h9 => h9) rfl hin rfl (t_Macros_ok 15 (by decide)) rfl rfl (Nat.le_of_ble_eq_true rfl) d_Macros_init_109 (fun H locs hP hD hS => ?_)
  have hP : va_P g.1 classes [(h0, .inr (10, [.null, .ref a8, .ref ab, .ref a26, .int 0, .int 0, .ref a35, .ref a44, .ref a53, .ref a62, .ref a71, .ref a80, .int 0, .ref a89, .ref asb, .ref a107, .int 0, .null, .null])), (ab, .inl (g.2 1, 512, .inl (fun _ => 0))), (asb, .inl (g.2 1, 2048, .inl (fun _ => 0)))] H := hP
  have hD : va_D A [(h0, .inr (10, [.null, .ref a8, .ref ab, .ref a26, .int 0, .int 0, .ref a35, .ref a44, .ref a53, .ref a62, .ref a71, .ref a80, .int 0, .ref a89, .ref asb, .ref a107, .int 0, .null, .null])), (ab, .inl (g.2 1, 512, .inl (fun _ => 0))), (asb, .inl (g.2 1, 2048, .inl (fun _ => 0)))] := hD
  refine lv_aload_n hx hb d_Macros_init_112 rfl (lv_at hl 0 rfl) ?_
  refine lv_bipush (v := 7) hx hb d_Macros_init_113 (by decide) ?_
  refine nea0 (g := g) (A := A) (atype := .long) (ty := .long) (a0 := (7, .inr (.inl (fun _ => 0)))) (N' := 7) hx hb htt 2 rfl no_long k_14 rfl hK hP hD hS hA (a0_long 7) (by decide +kernel) (by decide +kernel) (by decide +kernel) (by decide +kernel) (by decide +kernel) d_Macros_init_115 (fun a115 H hP hD hS => ?_)
  refine W.widen (k := 13) (n := 28975) (by decide +kernel) (by decide +kernel) ?_
  refine va_putF (D := g.1) (ci := 10) (v := .ref a115) (ty := t_Macros 17) (C := "MacroMill$Macros") (T := F_Macros) (N := 19) hx hb htt in_Macros t_Macros t_Macros_ok n_Macros hown hK hP hD hS 0 rfl rfl 17 (by decide) (htt _ k_96) (fun _ h9 => h9) rfl hin rfl (t_Macros_ok 17 (by decide)) rfl rfl (Nat.le_of_ble_eq_true rfl) d_Macros_init_117 (fun H locs hP hD hS => ?_)
  have hP : va_P g.1 classes [(h0, .inr (10, [.null, .ref a8, .ref ab, .ref a26, .int 0, .int 0, .ref a35, .ref a44, .ref a53, .ref a62, .ref a71, .ref a80, .int 0, .ref a89, .ref asb, .ref a107, .int 0, .ref a115, .null])), (ab, .inl (g.2 1, 512, .inl (fun _ => 0))), (asb, .inl (g.2 1, 2048, .inl (fun _ => 0)))] H := hP
  have hD : va_D A [(h0, .inr (10, [.null, .ref a8, .ref ab, .ref a26, .int 0, .int 0, .ref a35, .ref a44, .ref a53, .ref a62, .ref a71, .ref a80, .int 0, .ref a89, .ref asb, .ref a107, .int 0, .ref a115, .null])), (ab, .inl (g.2 1, 512, .inl (fun _ => 0))), (asb, .inl (g.2 1, 2048, .inl (fun _ => 0)))] := hD
  refine lv_aload_n hx hb d_Macros_init_120 rfl (lv_at hl 0 rfl) ?_
  refine lv_bipush (v := 7) hx hb d_Macros_init_121 (by decide) ?_
  refine nea0 (g := g) (A := A) (atype := .long) (ty := .long) (a0 := (7, .inr (.inl (fun _ => 0)))) (N' := 7) hx hb htt 2 rfl no_long k_14 rfl hK hP hD hS hA (a0_long 7) (by decide +kernel) (by decide +kernel) (by decide +kernel) (by decide +kernel) (by decide +kernel) d_Macros_init_123 (fun a123 H hP hD hS => ?_)
  refine W.widen (k := 14) (n := 28982) (by decide +kernel) (by decide +kernel) ?_
  refine va_putF (D := g.1) (ci := 10) (v := .ref a123) (ty := t_Macros 18) (C := "MacroMill$Macros") (T := F_Macros) (N := 19) hx hb htt in_Macros t_Macros t_Macros_ok n_Macros hown hK hP hD hS 0 rfl rfl 18 (by decide) (htt _ k_97) (fun _ h9 => h9) rfl hin rfl (t_Macros_ok 18 (by decide)) rfl rfl (Nat.le_of_ble_eq_true rfl) d_Macros_init_125 (fun H locs hP hD hS => ?_)
  have hP : va_P g.1 classes [(h0, .inr (10, [.null, .ref a8, .ref ab, .ref a26, .int 0, .int 0, .ref a35, .ref a44, .ref a53, .ref a62, .ref a71, .ref a80, .int 0, .ref a89, .ref asb, .ref a107, .int 0, .ref a115, .ref a123])), (ab, .inl (g.2 1, 512, .inl (fun _ => 0))), (asb, .inl (g.2 1, 2048, .inl (fun _ => 0)))] H := hP
  have hD : va_D A [(h0, .inr (10, [.null, .ref a8, .ref ab, .ref a26, .int 0, .int 0, .ref a35, .ref a44, .ref a53, .ref a62, .ref a71, .ref a80, .int 0, .ref a89, .ref asb, .ref a107, .int 0, .ref a115, .ref a123])), (ab, .inl (g.2 1, 512, .inl (fun _ => 0))), (asb, .inl (g.2 1, 2048, .inl (fun _ => 0)))] := hD
  refine lv_aload_n hx hb d_Macros_init_128 rfl (lv_at hl 0 rfl) ?_
  show W _ _ _ _ _ _ _ _ _ _ _ _ _ _ _ (F0 _ 129 _ _)
  refine lv_aload_n hx hb d_Macros_init_129 rfl (lv_at hl 1 rfl) ?_
  refine va_putF (D := g.1) (ci := 10) (v := .ref o1) (ty := t_Macros 0) (C := "MacroMill$Macros") (T := F_Macros) (N := 19) hx hb htt in_Macros t_Macros t_Macros_ok n_Macros hown hK hP hD hS 0 rfl rfl 0 (by decide) (htt _ k_98) (fun _ h9 => h9) rfl hin rfl (t_Macros_ok 0 (by decide)) rfl rfl (Nat.le_of_ble_eq_true rfl) d_Macros_init_130 (fun H locs hP hD hS => ?_)
  have hP : va_P g.1 classes [(h0, .inr (10, [.ref o1, .ref a8, .ref ab, .ref a26, .int 0, .int 0, .ref a35, .ref a44, .ref a53, .ref a62, .ref a71, .ref a80, .int 0, .ref a89, .ref asb, .ref a107, .int 0, .ref a115, .ref a123])), (ab, .inl (g.2 1, 512, .inl (fun _ => 0))), (asb, .inl (g.2 1, 2048, .inl (fun _ => 0)))] H := hP
  have hD : va_D A [(h0, .inr (10, [.ref o1, .ref a8, .ref ab, .ref a26, .int 0, .int 0, .ref a35, .ref a44, .ref a53, .ref a62, .ref a71, .ref a80, .int 0, .ref a89, .ref asb, .ref a107, .int 0, .ref a115, .ref a123])), (ab, .inl (g.2 1, 512, .inl (fun _ => 0))), (asb, .inl (g.2 1, 2048, .inl (fun _ => 0)))] := hD
  exact fin_v (g := g) (ws := [(h0, .inr (10, [.ref o1, .ref a8, .ref ab, .ref a26, .int 0, .int 0, .ref a35, .ref a44, .ref a53, .ref a62, .ref a71, .ref a80, .int 0, .ref a89, .ref asb, .ref a107, .int 0, .ref a115, .ref a123])), (ab, .inl (g.2 1, 512, .inl (fun _ => 0))), (asb, .inl (g.2 1, 2048, .inl (fun _ => 0)))]) hx hb hr hlocks (by decide +kernel) (by decide +kernel) hP hD hS ⟨a8, ab, a26, a35, a44, a53, a62, a71, a80, a89, asb, a107, a115, a123, rfl⟩ d_Macros_init_133
abbrev rm_Lines_init : Room := { frames := 1, cells := 8, slots := 1524, locals := 12 }
set_option maxHeartbeats 4000000 in
set_option maxRecDepth 100000 in
theorem c_Lines_init (l : Launch) (g : gG) (sz : Nat) (h0 : Nat) (o1 : Nat) (o2 : Nat) (o3 : Nat) : Cv l y_Lines_init b_Lines_init 4 rm_Lines_init g [.ref h0, .ref o1, .ref o2, .ref o3] [(h0, .inr (11, [.null, .null, .null, .null, .null, .null, .null, .null, .null, .null, .null, .int 0, .int 0, .int 0, .int 0, .int 0, .int 0, .int 0, .int 0]))] sz (fun w => ∃ (atf : Nat) (a15 : Nat) (a23 : Nat) (a31 : Nat) (a39 : Nat) (a47 : Nat) (a56 : Nat) (a64 : Nat), w = [(h0, .inr (11, [.ref o1, .ref o2, .ref o3, .ref atf, .ref a15, .ref a23, .ref a31, .ref a39, .ref a47, .ref a56, .ref a64, .int 0, .int 0, .int 0, .int 0, .int 0, .int 0, .int 0, .int 0])), (atf, .inl (g.2 1, 32, .inl (fun _ => 0)))]) := by
  refine startV (by decide) (Nat.le_of_ble_eq_true rfl) ?_
  intro p e s m below meth c A ls hx hb hr hml hlocks hmn hown htt hN hA hP hK hD hS hl
  have hin : meth.name = "<init>" := hmn
  have hown : s.vm.findClass "MacroMill$Lines" = some m.cls := hown
  have hl : lv_has ls 4 [(0, .ref h0), (1, .ref o1), (2, .ref o2), (3, .ref o3)] := hl
  refine lv_aload_n hx hb d_Lines_init_0 rfl (lv_at hl 0 rfl) ?_
  refine W.objInit hx hb hown (htt _ k_99) (htt _ k_1) (htt _ k_2) rfl (by rw [hml]; exact hl.1) rfl d_Lines_init_1 (Nat.le_of_ble_eq_true rfl) (Nat.le_of_ble_eq_true rfl) ?_
  refine W.eq (g2 := F0 m 4 ls []) rfl ?_
  refine lv_aload_n hx hb d_Lines_init_4 rfl (lv_at hl 0 rfl) ?_
  refine lv_bipush (v := 32) hx hb d_Lines_init_5 (by decide) ?_
  refine nea (g := g) (A := A) (atype := .int) (ty := .int) (a0 := (32, .inl (fun _ => 0))) (N' := 32) hx hb htt 1 rfl no_int k_7 rfl hK hP hD hS hA (a0_int 32) (by decide +kernel) (by decide +kernel) (by decide +kernel) (by decide +kernel) (by decide +kernel) d_Lines_init_7 (fun atf H hP hD hS => ?_)
  refine W.widen (k := 1) (n := 32) (by decide +kernel) (by decide +kernel) ?_
  have hP : va_P g.1 classes [(h0, .inr (11, [.null, .null, .null, .null, .null, .null, .null, .null, .null, .null, .null, .int 0, .int 0, .int 0, .int 0, .int 0, .int 0, .int 0, .int 0])), (atf, .inl (g.2 1, 32, .inl (fun _ => 0)))] H := hP
  have hD : va_D A [(h0, .inr (11, [.null, .null, .null, .null, .null, .null, .null, .null, .null, .null, .null, .int 0, .int 0, .int 0, .int 0, .int 0, .int 0, .int 0, .int 0])), (atf, .inl (g.2 1, 32, .inl (fun _ => 0)))] := hD
  refine va_putF (D := g.1) (ci := 11) (v := .ref atf) (ty := t_Lines 3) (C := "MacroMill$Lines") (T := F_Lines) (N := 19) hx hb htt in_Lines t_Lines t_Lines_ok n_Lines hown hK hP hD hS 0 rfl rfl 3 (by decide) (htt _ k_100) (fun _ h9 => h9) rfl hin rfl (t_Lines_ok 3 (by decide)) rfl rfl (Nat.le_of_ble_eq_true rfl) d_Lines_init_9 (fun H locs hP hD hS => ?_)
  have hP : va_P g.1 classes [(h0, .inr (11, [.null, .null, .null, .ref atf, .null, .null, .null, .null, .null, .null, .null, .int 0, .int 0, .int 0, .int 0, .int 0, .int 0, .int 0, .int 0])), (atf, .inl (g.2 1, 32, .inl (fun _ => 0)))] H := hP
  have hD : va_D A [(h0, .inr (11, [.null, .null, .null, .ref atf, .null, .null, .null, .null, .null, .null, .null, .int 0, .int 0, .int 0, .int 0, .int 0, .int 0, .int 0, .int 0])), (atf, .inl (g.2 1, 32, .inl (fun _ => 0)))] := hD
  refine lv_aload_n hx hb d_Lines_init_12 rfl (lv_at hl 0 rfl) ?_
  refine lv_bipush (v := 32) hx hb d_Lines_init_13 (by decide) ?_
  refine nea0 (g := g) (A := A) (atype := .int) (ty := .int) (a0 := (32, .inl (fun _ => 0))) (N' := 32) hx hb htt 1 rfl no_int k_7 rfl hK hP hD hS hA (a0_int 32) (by decide +kernel) (by decide +kernel) (by decide +kernel) (by decide +kernel) (by decide +kernel) d_Lines_init_15 (fun a15 H hP hD hS => ?_)
  refine W.widen (k := 2) (n := 64) (by decide +kernel) (by decide +kernel) ?_
  refine va_putF (D := g.1) (ci := 11) (v := .ref a15) (ty := t_Lines 4) (C := "MacroMill$Lines") (T := F_Lines) (N := 19) hx hb htt in_Lines t_Lines t_Lines_ok n_Lines hown hK hP hD hS 0 rfl rfl 4 (by decide) (htt _ k_101) (fun _ h9 => h9) rfl hin rfl (t_Lines_ok 4 (by decide)) rfl rfl (Nat.le_of_ble_eq_true rfl) d_Lines_init_17 (fun H locs hP hD hS => ?_)
  have hP : va_P g.1 classes [(h0, .inr (11, [.null, .null, .null, .ref atf, .ref a15, .null, .null, .null, .null, .null, .null, .int 0, .int 0, .int 0, .int 0, .int 0, .int 0, .int 0, .int 0])), (atf, .inl (g.2 1, 32, .inl (fun _ => 0)))] H := hP
  have hD : va_D A [(h0, .inr (11, [.null, .null, .null, .ref atf, .ref a15, .null, .null, .null, .null, .null, .null, .int 0, .int 0, .int 0, .int 0, .int 0, .int 0, .int 0, .int 0])), (atf, .inl (g.2 1, 32, .inl (fun _ => 0)))] := hD
  refine lv_aload_n hx hb d_Lines_init_20 rfl (lv_at hl 0 rfl) ?_
  show W _ _ _ _ _ _ _ _ _ _ _ _ _ _ _ (F0 _ 21 _ _)
  refine lv_bipush (v := 32) hx hb d_Lines_init_21 (by decide) ?_
  refine nea0 (g := g) (A := A) (atype := .int) (ty := .int) (a0 := (32, .inl (fun _ => 0))) (N' := 32) hx hb htt 1 rfl no_int k_7 rfl hK hP hD hS hA (a0_int 32) (by decide +kernel) (by decide +kernel) (by decide +kernel) (by decide +kernel) (by decide +kernel) d_Lines_init_23 (fun a23 H hP hD hS => ?_)
  refine W.widen (k := 3) (n := 96) (by decide +kernel) (by decide +kernel) ?_
  refine va_putF (D := g.1) (ci := 11) (v := .ref a23) (ty := t_Lines 5) (C := "MacroMill$Lines") (T := F_Lines) (N := 19) hx hb htt in_Lines t_Lines t_Lines_ok n_Lines hown hK hP hD hS 0 rfl rfl 5 (by decide) (htt _ k_102) (fun _ h9 => h9) rfl hin rfl (t_Lines_ok 5 (by decide)) rfl rfl (Nat.le_of_ble_eq_true rfl) d_Lines_init_25 (fun H locs hP hD hS => ?_)
  have hP : va_P g.1 classes [(h0, .inr (11, [.null, .null, .null, .ref atf, .ref a15, .ref a23, .null, .null, .null, .null, .null, .int 0, .int 0, .int 0, .int 0, .int 0, .int 0, .int 0, .int 0])), (atf, .inl (g.2 1, 32, .inl (fun _ => 0)))] H := hP
  have hD : va_D A [(h0, .inr (11, [.null, .null, .null, .ref atf, .ref a15, .ref a23, .null, .null, .null, .null, .null, .int 0, .int 0, .int 0, .int 0, .int 0, .int 0, .int 0, .int 0])), (atf, .inl (g.2 1, 32, .inl (fun _ => 0)))] := hD
  refine lv_aload_n hx hb d_Lines_init_28 rfl (lv_at hl 0 rfl) ?_
  refine lv_bipush (v := 21) hx hb d_Lines_init_29 (by decide) ?_
  refine nea0 (g := g) (A := A) (atype := .int) (ty := .int) (a0 := (21, .inl (fun _ => 0))) (N' := 21) hx hb htt 1 rfl no_int k_7 rfl hK hP hD hS hA (a0_int 21) (by decide +kernel) (by decide +kernel) (by decide +kernel) (by decide +kernel) (by decide +kernel) d_Lines_init_31 (fun a31 H hP hD hS => ?_)
  refine W.widen (k := 4) (n := 117) (by decide +kernel) (by decide +kernel) ?_
  refine va_putF (D := g.1) (ci := 11) (v := .ref a31) (ty := t_Lines 6) (C := "MacroMill$Lines") (T := F_Lines) (N := 19) hx hb htt in_Lines t_Lines t_Lines_ok n_Lines hown hK hP hD hS 0 rfl rfl 6 (by decide) (htt _ k_103) (fun _ h9 => h9) rfl hin rfl (t_Lines_ok 6 (by decide)) rfl rfl (Nat.le_of_ble_eq_true rfl) d_Lines_init_33 (fun H locs hP hD hS => ?_)
  have hP : va_P g.1 classes [(h0, .inr (11, [.null, .null, .null, .ref atf, .ref a15, .ref a23, .ref a31, .null, .null, .null, .null, .int 0, .int 0, .int 0, .int 0, .int 0, .int 0, .int 0, .int 0])), (atf, .inl (g.2 1, 32, .inl (fun _ => 0)))] H := hP
  have hD : va_D A [(h0, .inr (11, [.null, .null, .null, .ref atf, .ref a15, .ref a23, .ref a31, .null, .null, .null, .null, .int 0, .int 0, .int 0, .int 0, .int 0, .int 0, .int 0, .int 0])), (atf, .inl (g.2 1, 32, .inl (fun _ => 0)))] := hD
  refine lv_aload_n hx hb d_Lines_init_36 rfl (lv_at hl 0 rfl) ?_
  refine lv_bipush (v := 21) hx hb d_Lines_init_37 (by decide) ?_
  refine nea0 (g := g) (A := A) (atype := .int) (ty := .int) (a0 := (21, .inl (fun _ => 0))) (N' := 21) hx hb htt 1 rfl no_int k_7 rfl hK hP hD hS hA (a0_int 21) (by decide +kernel) (by decide +kernel) (by decide +kernel) (by decide +kernel) (by decide +kernel) d_Lines_init_39 (fun a39 H hP hD hS => ?_)
  refine W.widen (k := 5) (n := 138) (by decide +kernel) (by decide +kernel) ?_
  refine va_putF (D := g.1) (ci := 11) (v := .ref a39) (ty := t_Lines 7) (C := "MacroMill$Lines") (T := F_Lines) (N := 19) hx hb htt in_Lines t_Lines t_Lines_ok n_Lines hown hK hP hD hS 0 rfl rfl 7 (by decide) (htt _ k_104) (fun _ h9 => h9) rfl hin rfl (t_Lines_ok 7 (by decide)) rfl rfl (Nat.le_of_ble_eq_true rfl) d_Lines_init_41 (fun H locs hP hD hS => ?_)
  have hP : va_P g.1 classes [(h0, .inr (11, [.null, .null, .null, .ref atf, .ref a15, .ref a23, .ref a31, .ref a39, .null, .null, .null, .int 0, .int 0, .int 0, .int 0, .int 0, .int 0, .int 0, .int 0])), (atf, .inl (g.2 1, 32, .inl (fun _ => 0)))] H := hP
  have hD : va_D A [(h0, .inr (11, [.null, .null, .null, .ref atf, .ref a15, .ref a23, .ref a31, .ref a39, .null, .null, .null, .int 0, .int 0, .int 0, .int 0, .int 0, .int 0, .int 0, .int 0])), (atf, .inl (g.2 1, 32, .inl (fun _ => 0)))] := hD
  refine lv_aload_n hx hb d_Lines_init_44 rfl (lv_at hl 0 rfl) ?_
  show W _ _ _ _ _ _ _ _ _ _ _ _ _ _ _ (F0 _ 45 _ _)
  refine lv_bipush (v := 21) hx hb d_Lines_init_45 (by decide) ?_
  refine nea0 (g := g) (A := A) (atype := .int) (ty := .int) (a0 := (21, .inl (fun _ => 0))) (N' := 21) hx hb htt 1 rfl no_int k_7 rfl hK hP hD hS hA (a0_int 21) (by decide +kernel) (by decide +kernel) (by decide +kernel) (by decide +kernel) (by decide +kernel) d_Lines_init_47 (fun a47 H hP hD hS => ?_)
  refine W.widen (k := 6) (n := 159) (by decide +kernel) (by decide +kernel) ?_
  refine va_putF (D := g.1) (ci := 11) (v := .ref a47) (ty := t_Lines 8) (C := "MacroMill$Lines") (T := F_Lines) (N := 19) hx hb htt in_Lines t_Lines t_Lines_ok n_Lines hown hK hP hD hS 0 rfl rfl 8 (by decide) (htt _ k_105) (fun _ h9 => h9) rfl hin rfl (t_Lines_ok 8 (by decide)) rfl rfl (Nat.le_of_ble_eq_true rfl) d_Lines_init_49 (fun H locs hP hD hS => ?_)
  have hP : va_P g.1 classes [(h0, .inr (11, [.null, .null, .null, .ref atf, .ref a15, .ref a23, .ref a31, .ref a39, .ref a47, .null, .null, .int 0, .int 0, .int 0, .int 0, .int 0, .int 0, .int 0, .int 0])), (atf, .inl (g.2 1, 32, .inl (fun _ => 0)))] H := hP
  have hD : va_D A [(h0, .inr (11, [.null, .null, .null, .ref atf, .ref a15, .ref a23, .ref a31, .ref a39, .ref a47, .null, .null, .int 0, .int 0, .int 0, .int 0, .int 0, .int 0, .int 0, .int 0])), (atf, .inl (g.2 1, 32, .inl (fun _ => 0)))] := hD
  refine lv_aload_n hx hb d_Lines_init_52 rfl (lv_at hl 0 rfl) ?_
  refine lv_sipush (v := 1344) hx hb d_Lines_init_53 (by decide) ?_
  refine nea0 (g := g) (A := A) (atype := .byte) (ty := .byte) (a0 := (1344, .inl (fun _ => 0))) (N' := 1344) hx hb htt 0 rfl no_byte k_4 rfl hK hP hD hS hA (a0_byte 1344) (by decide +kernel) (by decide +kernel) (by decide +kernel) (by decide +kernel) (by decide +kernel) d_Lines_init_56 (fun a56 H hP hD hS => ?_)
  refine W.widen (k := 7) (n := 1503) (by decide +kernel) (by decide +kernel) ?_
  refine va_putF (D := g.1) (ci := 11) (v := .ref a56) (ty := t_Lines 9) (C := "MacroMill$Lines") (T := F_Lines) (N := 19) hx hb htt in_Lines t_Lines t_Lines_ok n_Lines hown hK hP hD hS 0 rfl rfl 9 (by decide) (htt _ k_106) (fun _ h9 => h9) rfl hin rfl (t_Lines_ok 9 (by decide)) rfl rfl (Nat.le_of_ble_eq_true rfl) d_Lines_init_58 (fun H locs hP hD hS => ?_)
  have hP : va_P g.1 classes [(h0, .inr (11, [.null, .null, .null, .ref atf, .ref a15, .ref a23, .ref a31, .ref a39, .ref a47, .ref a56, .null, .int 0, .int 0, .int 0, .int 0, .int 0, .int 0, .int 0, .int 0])), (atf, .inl (g.2 1, 32, .inl (fun _ => 0)))] H := hP
  have hD : va_D A [(h0, .inr (11, [.null, .null, .null, .ref atf, .ref a15, .ref a23, .ref a31, .ref a39, .ref a47, .ref a56, .null, .int 0, .int 0, .int 0, .int 0, .int 0, .int 0, .int 0, .int 0])), (atf, .inl (g.2 1, 32, .inl (fun _ => 0)))] := hD
  refine lv_aload_n hx hb d_Lines_init_61 rfl (lv_at hl 0 rfl) ?_
  refine lv_bipush (v := 21) hx hb d_Lines_init_62 (by decide) ?_
  refine nea0 (g := g) (A := A) (atype := .int) (ty := .int) (a0 := (21, .inl (fun _ => 0))) (N' := 21) hx hb htt 1 rfl no_int k_7 rfl hK hP hD hS hA (a0_int 21) (by decide +kernel) (by decide +kernel) (by decide +kernel) (by decide +kernel) (by decide +kernel) d_Lines_init_64 (fun a64 H hP hD hS => ?_)
  refine W.widen (k := 8) (n := 1524) (by decide +kernel) (by decide +kernel) ?_
  refine va_putF (D := g.1) (ci := 11) (v := .ref a64) (ty := t_Lines 10) (C := "MacroMill$Lines") (T := F_Lines) (N := 19) hx hb htt in_Lines t_Lines t_Lines_ok n_Lines hown hK hP hD hS 0 rfl rfl 10 (by decide) (htt _ k_107) (fun _ h9 => h9) rfl hin rfl (t_Lines_ok 10 (by decide)) rfl rfl (Nat.le_of_ble_eq_true rfl) d_Lines_init_66 (fun H locs hP hD hS => ?_)
  have hP : va_P g.1 classes [(h0, .inr (11, [.null, .null, .null, .ref atf, .ref a15, .ref a23, .ref a31, .ref a39, .ref a47, .ref a56, .ref a64, .int 0, .int 0, .int 0, .int 0, .int 0, .int 0, .int 0, .int 0])), (atf, .inl (g.2 1, 32, .inl (fun _ => 0)))] H := hP
  have hD : va_D A [(h0, .inr (11, [.null, .null, .null, .ref atf, .ref a15, .ref a23, .ref a31, .ref a39, .ref a47, .ref a56, .ref a64, .int 0, .int 0, .int 0, .int 0, .int 0, .int 0, .int 0, .int 0])), (atf, .inl (g.2 1, 32, .inl (fun _ => 0)))] := hD
  refine lv_aload_n hx hb d_Lines_init_69 rfl (lv_at hl 0 rfl) ?_
  show W _ _ _ _ _ _ _ _ _ _ _ _ _ _ _ (F0 _ 70 _ _)
  refine lv_aload_n hx hb d_Lines_init_70 rfl (lv_at hl 1 rfl) ?_
  refine va_putF (D := g.1) (ci := 11) (v := .ref o1) (ty := t_Lines 0) (C := "MacroMill$Lines") (T := F_Lines) (N := 19) hx hb htt in_Lines t_Lines t_Lines_ok n_Lines hown hK hP hD hS 0 rfl rfl 0 (by decide) (htt _ k_108) (fun _ h9 => h9) rfl hin rfl (t_Lines_ok 0 (by decide)) rfl rfl (Nat.le_of_ble_eq_true rfl) d_Lines_init_71 (fun H locs hP hD hS => ?_)
  have hP : va_P g.1 classes [(h0, .inr (11, [.ref o1, .null, .null, .ref atf, .ref a15, .ref a23, .ref a31, .ref a39, .ref a47, .ref a56, .ref a64, .int 0, .int 0, .int 0, .int 0, .int 0, .int 0, .int 0, .int 0])), (atf, .inl (g.2 1, 32, .inl (fun _ => 0)))] H := hP
  have hD : va_D A [(h0, .inr (11, [.ref o1, .null, .null, .ref atf, .ref a15, .ref a23, .ref a31, .ref a39, .ref a47, .ref a56, .ref a64, .int 0, .int 0, .int 0, .int 0, .int 0, .int 0, .int 0, .int 0])), (atf, .inl (g.2 1, 32, .inl (fun _ => 0)))] := hD
  refine lv_aload_n hx hb d_Lines_init_74 rfl (lv_at hl 0 rfl) ?_
  refine lv_aload_n hx hb d_Lines_init_75 rfl (lv_at hl 2 rfl) ?_
  refine va_putF (D := g.1) (ci := 11) (v := .ref o2) (ty := t_Lines 1) (C := "MacroMill$Lines") (T := F_Lines) (N := 19) hx hb htt in_Lines t_Lines t_Lines_ok n_Lines hown hK hP hD hS 0 rfl rfl 1 (by decide) (htt _ k_109) (fun _ h9 => h9) rfl hin rfl (t_Lines_ok 1 (by decide)) rfl rfl (Nat.le_of_ble_eq_true rfl) d_Lines_init_76 (fun H locs hP hD hS => ?_)
  have hP : va_P g.1 classes [(h0, .inr (11, [.ref o1, .ref o2, .null, .ref atf, .ref a15, .ref a23, .ref a31, .ref a39, .ref a47, .ref a56, .ref a64, .int 0, .int 0, .int 0, .int 0, .int 0, .int 0, .int 0, .int 0])), (atf, .inl (g.2 1, 32, .inl (fun _ => 0)))] H := hP
  have hD : va_D A [(h0, .inr (11, [.ref o1, .ref o2, .null, .ref atf, .ref a15, .ref a23, .ref a31, .ref a39, .ref a47, .ref a56, .ref a64, .int 0, .int 0, .int 0, .int 0, .int 0, .int 0, .int 0, .int 0])), (atf, .inl (g.2 1, 32, .inl (fun _ => 0)))] := hD
  refine lv_aload_n hx hb d_Lines_init_79 rfl (lv_at hl 0 rfl) ?_
  refine lv_aload_n hx hb d_Lines_init_80 rfl (lv_at hl 3 rfl) ?_
  refine va_putF (D := g.1) (ci := 11) (v := .ref o3) (ty := t_Lines 2) (C := "MacroMill$Lines") (T := F_Lines) (N := 19) hx hb htt in_Lines t_Lines t_Lines_ok n_Lines hown hK hP hD hS 0 rfl rfl 2 (by decide) (htt _ k_110) (fun _ h9 => h9) rfl hin rfl (t_Lines_ok 2 (by decide)) rfl rfl (Nat.le_of_ble_eq_true rfl) d_Lines_init_81 (fun H locs hP hD hS => ?_)
  have hP : va_P g.1 classes [(h0, .inr (11, [.ref o1, .ref o2, .ref o3, .ref atf, .ref a15, .ref a23, .ref a31, .ref a39, .ref a47, .ref a56, .ref a64, .int 0, .int 0, .int 0, .int 0, .int 0, .int 0, .int 0, .int 0])), (atf, .inl (g.2 1, 32, .inl (fun _ => 0)))] H := hP
  have hD : va_D A [(h0, .inr (11, [.ref o1, .ref o2, .ref o3, .ref atf, .ref a15, .ref a23, .ref a31, .ref a39, .ref a47, .ref a56, .ref a64, .int 0, .int 0, .int 0, .int 0, .int 0, .int 0, .int 0, .int 0])), (atf, .inl (g.2 1, 32, .inl (fun _ => 0)))] := hD
  exact fin_v (g := g) (ws := [(h0, .inr (11, [.ref o1, .ref o2, .ref o3, .ref atf, .ref a15, .ref a23, .ref a31, .ref a39, .ref a47, .ref a56, .ref a64, .int 0, .int 0, .int 0, .int 0, .int 0, .int 0, .int 0, .int 0])), (atf, .inl (g.2 1, 32, .inl (fun _ => 0)))]) hx hb hr hlocks (by decide +kernel) (by decide +kernel) hP hD hS ⟨atf, a15, a23, a31, a39, a47, a56, a64, rfl⟩ d_Lines_init_84
abbrev rm_Replacer_init : Room := { frames := 1, cells := 10, slots := 12996, locals := 12 }
set_option maxHeartbeats 4000000 in
set_option maxRecDepth 100000 in
theorem c_Replacer_init (l : Launch) (g : gG) (sz : Nat) (h0 : Nat) (o1 : Nat) (o2 : Nat) (o3 : Nat) (o4 : Nat) : Cv l y_Replacer_init b_Replacer_init 5 rm_Replacer_init g [.ref h0, .ref o1, .ref o2, .ref o3, .ref o4] [(h0, .inr (12, [.null, .null, .null, .null, .null, .null, .null, .null, .null, .null, .null, .null, .null, .null, .int 0, .int 0]))] sz (fun w => ∃ (a8 : Nat) (a17 : Nat) (a26 : Nat) (a35 : Nat) (a44 : Nat) (a53 : Nat) (a62 : Nat) (a70 : Nat) (a78 : Nat) (a86 : Nat), w = [(h0, .inr (12, [.ref o1, .ref o2, .ref o3, .ref o4, .ref a8, .ref a17, .ref a26, .ref a35, .ref a44, .ref a53, .ref a62, .ref a70, .ref a78, .ref a86, .int 0, .int 0]))]) := by
  refine startV (by decide) (Nat.le_of_ble_eq_true rfl) ?_
  intro p e s m below meth c A ls hx hb hr hml hlocks hmn hown htt hN hA hP hK hD hS hl
  have hin : meth.name = "<init>" := hmn
  have hown : s.vm.findClass "MacroMill$Replacer" = some m.cls := hown
  have hl : lv_has ls 5 [(0, .ref h0), (1, .ref o1), (2, .ref o2), (3, .ref o3), (4, .ref o4)] := hl
  refine lv_aload_n hx hb d_Replacer_init_0 rfl (lv_at hl 0 rfl) ?_
  refine W.objInit hx hb hown (htt _ k_111) (htt _ k_1) (htt _ k_2) rfl (by rw [hml]; exact hl.1) rfl d_Replacer_init_1 (Nat.le_of_ble_eq_true rfl) (Nat.le_of_ble_eq_true rfl) ?_
  refine W.eq (g2 := F0 m 4 ls []) rfl ?_
  refine lv_aload_n hx hb d_Replacer_init_4 rfl (lv_at hl 0 rfl) ?_
  refine lv_sipush (v := 1830) hx hb d_Replacer_init_5 (by decide) ?_
  refine nea0 (g := g) (A := A) (atype := .int) (ty := .int) (a0 := (1830, .inl (fun _ => 0))) (N' := 1830) hx hb htt 1 rfl no_int k_7 rfl hK hP hD hS hA (a0_int 1830) (by decide +kernel) (by decide +kernel) (by decide +kernel) (by decide +kernel) (by decide +kernel) d_Replacer_init_8 (fun a8 H hP hD hS => ?_)
  refine W.widen (k := 1) (n := 1830) (by decide +kernel) (by decide +kernel) ?_
  refine va_putF (D := g.1) (ci := 12) (v := .ref a8) (ty := t_Replacer 4) (C := "MacroMill$Replacer") (T := F_Replacer) (N := 16) hx hb htt in_Replacer t_Replacer t_Replacer_ok n_Replacer hown hK hP hD hS 0 rfl rfl 4 (by decide) (htt _ k_112) (fun _ h9 => h9) rfl hin rfl (t_Replacer_ok 4 (by decide)) rfl rfl (Nat.le_of_ble_eq_true rfl) d_Replacer_init_10 (fun H locs hP hD hS => ?_)
  have hP : va_P g.1 classes [(h0, .inr (12, [.null, .null, .null, .null, .ref a8, .null, .null, .null, .null, .null, .null, .null, .null, .null, .int 0, .int 0]))] H := hP
  have hD : va_D A [(h0, .inr (12, [.null, .null, .null, .null, .ref a8, .null, .null, .null, .null, .null, .null, .null, .null, .null, .int 0, .int 0]))] := hD
  refine lv_aload_n hx hb d_Replacer_init_13 rfl (lv_at hl 0 rfl) ?_
  refine lv_sipush (v := 1830) hx hb d_Replacer_init_14 (by decide) ?_
  refine nea0 (g := g) (A := A) (atype := .int) (ty := .int) (a0 := (1830, .inl (fun _ => 0))) (N' := 1830) hx hb htt 1 rfl no_int k_7 rfl hK hP hD hS hA (a0_int 1830) (by decide +kernel) (by decide +kernel) (by decide +kernel) (by decide +kernel) (by decide +kernel) d_Replacer_init_17 (fun a17 H hP hD hS => ?_)
  refine W.widen (k := 2) (n := 3660) (by decide +kernel) (by decide +kernel) ?_
  refine va_putF (D := g.1) (ci := 12) (v := .ref a17) (ty := t_Replacer 5) (C := "MacroMill$Replacer") (T := F_Replacer) (N := 16) hx hb htt in_Replacer t_Replacer t_Replacer_ok n_Replacer hown hK hP hD hS 0 rfl rfl 5 (by decide) (htt _ k_113) (fun _ h9 => h9) rfl hin rfl (t_Replacer_ok 5 (by decide)) rfl rfl (Nat.le_of_ble_eq_true rfl) d_Replacer_init_19 (fun H locs hP hD hS => ?_)
  have hP : va_P g.1 classes [(h0, .inr (12, [.null, .null, .null, .null, .ref a8, .ref a17, .null, .null, .null, .null, .null, .null, .null, .null, .int 0, .int 0]))] H := hP
  have hD : va_D A [(h0, .inr (12, [.null, .null, .null, .null, .ref a8, .ref a17, .null, .null, .null, .null, .null, .null, .null, .null, .int 0, .int 0]))] := hD
  refine lv_aload_n hx hb d_Replacer_init_22 rfl (lv_at hl 0 rfl) ?_
  show W _ _ _ _ _ _ _ _ _ _ _ _ _ _ _ (F0 _ 23 _ _)
  refine lv_sipush (v := 1830) hx hb d_Replacer_init_23 (by decide) ?_
  refine nea0 (g := g) (A := A) (atype := .int) (ty := .int) (a0 := (1830, .inl (fun _ => 0))) (N' := 1830) hx hb htt 1 rfl no_int k_7 rfl hK hP hD hS hA (a0_int 1830) (by decide +kernel) (by decide +kernel) (by decide +kernel) (by decide +kernel) (by decide +kernel) d_Replacer_init_26 (fun a26 H hP hD hS => ?_)
  refine W.widen (k := 3) (n := 5490) (by decide +kernel) (by decide +kernel) ?_
  refine va_putF (D := g.1) (ci := 12) (v := .ref a26) (ty := t_Replacer 6) (C := "MacroMill$Replacer") (T := F_Replacer) (N := 16) hx hb htt in_Replacer t_Replacer t_Replacer_ok n_Replacer hown hK hP hD hS 0 rfl rfl 6 (by decide) (htt _ k_114) (fun _ h9 => h9) rfl hin rfl (t_Replacer_ok 6 (by decide)) rfl rfl (Nat.le_of_ble_eq_true rfl) d_Replacer_init_28 (fun H locs hP hD hS => ?_)
  have hP : va_P g.1 classes [(h0, .inr (12, [.null, .null, .null, .null, .ref a8, .ref a17, .ref a26, .null, .null, .null, .null, .null, .null, .null, .int 0, .int 0]))] H := hP
  have hD : va_D A [(h0, .inr (12, [.null, .null, .null, .null, .ref a8, .ref a17, .ref a26, .null, .null, .null, .null, .null, .null, .null, .int 0, .int 0]))] := hD
  refine lv_aload_n hx hb d_Replacer_init_31 rfl (lv_at hl 0 rfl) ?_
  refine lv_sipush (v := 1830) hx hb d_Replacer_init_32 (by decide) ?_
  refine nea0 (g := g) (A := A) (atype := .int) (ty := .int) (a0 := (1830, .inl (fun _ => 0))) (N' := 1830) hx hb htt 1 rfl no_int k_7 rfl hK hP hD hS hA (a0_int 1830) (by decide +kernel) (by decide +kernel) (by decide +kernel) (by decide +kernel) (by decide +kernel) d_Replacer_init_35 (fun a35 H hP hD hS => ?_)
  refine W.widen (k := 4) (n := 7320) (by decide +kernel) (by decide +kernel) ?_
  refine va_putF (D := g.1) (ci := 12) (v := .ref a35) (ty := t_Replacer 7) (C := "MacroMill$Replacer") (T := F_Replacer) (N := 16) hx hb htt in_Replacer t_Replacer t_Replacer_ok n_Replacer hown hK hP hD hS 0 rfl rfl 7 (by decide) (htt _ k_115) (fun _ h9 => h9) rfl hin rfl (t_Replacer_ok 7 (by decide)) rfl rfl (Nat.le_of_ble_eq_true rfl) d_Replacer_init_37 (fun H locs hP hD hS => ?_)
  have hP : va_P g.1 classes [(h0, .inr (12, [.null, .null, .null, .null, .ref a8, .ref a17, .ref a26, .ref a35, .null, .null, .null, .null, .null, .null, .int 0, .int 0]))] H := hP
  have hD : va_D A [(h0, .inr (12, [.null, .null, .null, .null, .ref a8, .ref a17, .ref a26, .ref a35, .null, .null, .null, .null, .null, .null, .int 0, .int 0]))] := hD
  refine lv_aload_n hx hb d_Replacer_init_40 rfl (lv_at hl 0 rfl) ?_
  refine lv_sipush (v := 1830) hx hb d_Replacer_init_41 (by decide) ?_
  refine nea0 (g := g) (A := A) (atype := .int) (ty := .int) (a0 := (1830, .inl (fun _ => 0))) (N' := 1830) hx hb htt 1 rfl no_int k_7 rfl hK hP hD hS hA (a0_int 1830) (by decide +kernel) (by decide +kernel) (by decide +kernel) (by decide +kernel) (by decide +kernel) d_Replacer_init_44 (fun a44 H hP hD hS => ?_)
  refine W.widen (k := 5) (n := 9150) (by decide +kernel) (by decide +kernel) ?_
  refine va_putF (D := g.1) (ci := 12) (v := .ref a44) (ty := t_Replacer 8) (C := "MacroMill$Replacer") (T := F_Replacer) (N := 16) hx hb htt in_Replacer t_Replacer t_Replacer_ok n_Replacer hown hK hP hD hS 0 rfl rfl 8 (by decide) (htt _ k_116) (fun _ h9 => h9) rfl hin rfl (t_Replacer_ok 8 (by decide)) rfl rfl (Nat.le_of_ble_eq_true rfl) d_Replacer_init_46 (fun H locs hP hD hS => ?_)
  have hP : va_P g.1 classes [(h0, .inr (12, [.null, .null, .null, .null, .ref a8, .ref a17, .ref a26, .ref a35, .ref a44, .null, .null, .null, .null, .null, .int 0, .int 0]))] H := hP
  have hD : va_D A [(h0, .inr (12, [.null, .null, .null, .null, .ref a8, .ref a17, .ref a26, .ref a35, .ref a44, .null, .null, .null, .null, .null, .int 0, .int 0]))] := hD
  refine lv_aload_n hx hb d_Replacer_init_49 rfl (lv_at hl 0 rfl) ?_
  show W _ _ _ _ _ _ _ _ _ _ _ _ _ _ _ (F0 _ 50 _ _)
  refine lv_sipush (v := 1830) hx hb d_Replacer_init_50 (by decide) ?_
  refine nea0 (g := g) (A := A) (atype := .int) (ty := .int) (a0 := (1830, .inl (fun _ => 0))) (N' := 1830) hx hb htt 1 rfl no_int k_7 rfl hK hP hD hS hA (a0_int 1830) (by decide +kernel) (by decide +kernel) (by decide +kernel) (by decide +kernel) (by decide +kernel) d_Replacer_init_53 (fun a53 H hP hD hS => ?_)
  refine W.widen (k := 6) (n := 10980) (by decide +kernel) (by decide +kernel) ?_
  refine va_putF (D := g.1) (ci := 12) (v := .ref a53) (ty := t_Replacer 9) (C := "MacroMill$Replacer") (T := F_Replacer) (N := 16) hx hb htt in_Replacer t_Replacer t_Replacer_ok n_Replacer hown hK hP hD hS 0 rfl rfl 9 (by decide) (htt _ k_117) (fun _ h9 => h9) rfl hin rfl (t_Replacer_ok 9 (by decide)) rfl rfl (Nat.le_of_ble_eq_true rfl) d_Replacer_init_55 (fun H locs hP hD hS => ?_)
  have hP : va_P g.1 classes [(h0, .inr (12, [.null, .null, .null, .null, .ref a8, .ref a17, .ref a26, .ref a35, .ref a44, .ref a53, .null, .null, .null, .null, .int 0, .int 0]))] H := hP
  have hD : va_D A [(h0, .inr (12, [.null, .null, .null, .null, .ref a8, .ref a17, .ref a26, .ref a35, .ref a44, .ref a53, .null, .null, .null, .null, .int 0, .int 0]))] := hD
  refine lv_aload_n hx hb d_Replacer_init_58 rfl (lv_at hl 0 rfl) ?_
  refine lv_sipush (v := 1830) hx hb d_Replacer_init_59 (by decide) ?_
  refine nea0 (g := g) (A := A) (atype := .int) (ty := .int) (a0 := (1830, .inl (fun _ => 0))) (N' := 1830) hx hb htt 1 rfl no_int k_7 rfl hK hP hD hS hA (a0_int 1830) (by decide +kernel) (by decide +kernel) (by decide +kernel) (by decide +kernel) (by decide +kernel) d_Replacer_init_62 (fun a62 H hP hD hS => ?_)
  refine W.widen (k := 7) (n := 12810) (by decide +kernel) (by decide +kernel) ?_
  refine va_putF (D := g.1) (ci := 12) (v := .ref a62) (ty := t_Replacer 10) (C := "MacroMill$Replacer") (T := F_Replacer) (N := 16) hx hb htt in_Replacer t_Replacer t_Replacer_ok n_Replacer hown hK hP hD hS 0 rfl rfl 10 (by decide) (htt _ k_118) (fun _ h9 => h9) rfl hin rfl (t_Replacer_ok 10 (by decide)) rfl rfl (Nat.le_of_ble_eq_true rfl) d_Replacer_init_64 (fun H locs hP hD hS => ?_)
  have hP : va_P g.1 classes [(h0, .inr (12, [.null, .null, .null, .null, .ref a8, .ref a17, .ref a26, .ref a35, .ref a44, .ref a53, .ref a62, .null, .null, .null, .int 0, .int 0]))] H := hP
  have hD : va_D A [(h0, .inr (12, [.null, .null, .null, .null, .ref a8, .ref a17, .ref a26, .ref a35, .ref a44, .ref a53, .ref a62, .null, .null, .null, .int 0, .int 0]))] := hD
  refine lv_aload_n hx hb d_Replacer_init_67 rfl (lv_at hl 0 rfl) ?_
  refine lv_bipush (v := 62) hx hb d_Replacer_init_68 (by decide) ?_
  refine nea0 (g := g) (A := A) (atype := .int) (ty := .int) (a0 := (62, .inl (fun _ => 0))) (N' := 62) hx hb htt 1 rfl no_int k_7 rfl hK hP hD hS hA (a0_int 62) (by decide +kernel) (by decide +kernel) (by decide +kernel) (by decide +kernel) (by decide +kernel) d_Replacer_init_70 (fun a70 H hP hD hS => ?_)
  refine W.widen (k := 8) (n := 12872) (by decide +kernel) (by decide +kernel) ?_
  refine va_putF (D := g.1) (ci := 12) (v := .ref a70) (ty := t_Replacer 11) (C := "MacroMill$Replacer") (T := F_Replacer) (N := 16) hx hb htt in_Replacer t_Replacer t_Replacer_ok n_Replacer hown hK hP hD hS 0 rfl rfl 11 (by decide) (htt _ k_119) (fun _ h9 => h9) rfl hin rfl (t_Replacer_ok 11 (by decide)) rfl rfl (Nat.le_of_ble_eq_true rfl) d_Replacer_init_72 (fun H locs hP hD hS => ?_)
  have hP : va_P g.1 classes [(h0, .inr (12, [.null, .null, .null, .null, .ref a8, .ref a17, .ref a26, .ref a35, .ref a44, .ref a53, .ref a62, .ref a70, .null, .null, .int 0, .int 0]))] H := hP
  have hD : va_D A [(h0, .inr (12, [.null, .null, .null, .null, .ref a8, .ref a17, .ref a26, .ref a35, .ref a44, .ref a53, .ref a62, .ref a70, .null, .null, .int 0, .int 0]))] := hD
  refine lv_aload_n hx hb d_Replacer_init_75 rfl (lv_at hl 0 rfl) ?_
  show W _ _ _ _ _ _ _ _ _ _ _ _ _ _ _ (F0 _ 76 _ _)
  refine lv_bipush (v := 62) hx hb d_Replacer_init_76 (by decide) ?_
  refine nea0 (g := g) (A := A) (atype := .int) (ty := .int) (a0 := (62, .inl (fun _ => 0))) (N' := 62) hx hb htt 1 rfl no_int k_7 rfl hK hP hD hS hA (a0_int 62) (by decide +kernel) (by decide +kernel) (by decide +kernel) (by decide +kernel) (by decide +kernel) d_Replacer_init_78 (fun a78 H hP hD hS => ?_)
  refine W.widen (k := 9) (n := 12934) (by decide +kernel) (by decide +kernel) ?_
  refine va_putF (D := g.1) (ci := 12) (v := .ref a78) (ty := t_Replacer 12) (C := "MacroMill$Replacer") (T := F_Replacer) (N := 16) hx hb htt in_Replacer t_Replacer t_Replacer_ok n_Replacer hown hK hP hD hS 0 rfl rfl 12 (by decide) (htt _ k_120) (fun _ h9 => h9) rfl hin rfl (t_Replacer_ok 12 (by decide)) rfl rfl (Nat.le_of_ble_eq_true rfl) d_Replacer_init_80 (fun H locs hP hD hS => ?_)
  have hP : va_P g.1 classes [(h0, .inr (12, [.null, .null, .null, .null, .ref a8, .ref a17, .ref a26, .ref a35, .ref a44, .ref a53, .ref a62, .ref a70, .ref a78, .null, .int 0, .int 0]))] H := hP
  have hD : va_D A [(h0, .inr (12, [.null, .null, .null, .null, .ref a8, .ref a17, .ref a26, .ref a35, .ref a44, .ref a53, .ref a62, .ref a70, .ref a78, .null, .int 0, .int 0]))] := hD
  refine lv_aload_n hx hb d_Replacer_init_83 rfl (lv_at hl 0 rfl) ?_
  refine lv_bipush (v := 62) hx hb d_Replacer_init_84 (by decide) ?_
  refine nea0 (g := g) (A := A) (atype := .int) (ty := .int) (a0 := (62, .inl (fun _ => 0))) (N' := 62) hx hb htt 1 rfl no_int k_7 rfl hK hP hD hS hA (a0_int 62) (by decide +kernel) (by decide +kernel) (by decide +kernel) (by decide +kernel) (by decide +kernel) d_Replacer_init_86 (fun a86 H hP hD hS => ?_)
  refine W.widen (k := 10) (n := 12996) (by decide +kernel) (by decide +kernel) ?_
  refine va_putF (D := g.1) (ci := 12) (v := .ref a86) (ty := t_Replacer 13) (C := "MacroMill$Replacer") (T := F_Replacer) (N := 16) hx hb htt in_Replacer t_Replacer t_Replacer_ok n_Replacer hown hK hP hD hS 0 rfl rfl 13 (by decide) (htt _ k_121) (fun _ h9 => h9) rfl hin rfl (t_Replacer_ok 13 (by decide)) rfl rfl (Nat.le_of_ble_eq_true rfl) d_Replacer_init_88 (fun H locs hP hD hS => ?_)
  have hP : va_P g.1 classes [(h0, .inr (12, [.null, .null, .null, .null, .ref a8, .ref a17, .ref a26, .ref a35, .ref a44, .ref a53, .ref a62, .ref a70, .ref a78, .ref a86, .int 0, .int 0]))] H := hP
  have hD : va_D A [(h0, .inr (12, [.null, .null, .null, .null, .ref a8, .ref a17, .ref a26, .ref a35, .ref a44, .ref a53, .ref a62, .ref a70, .ref a78, .ref a86, .int 0, .int 0]))] := hD
  refine lv_aload_n hx hb d_Replacer_init_91 rfl (lv_at hl 0 rfl) ?_
  refine lv_aload_n hx hb d_Replacer_init_92 rfl (lv_at hl 1 rfl) ?_
  refine va_putF (D := g.1) (ci := 12) (v := .ref o1) (ty := t_Replacer 0) (C := "MacroMill$Replacer") (T := F_Replacer) (N := 16) hx hb htt in_Replacer t_Replacer t_Replacer_ok n_Replacer hown hK hP hD hS 0 rfl rfl 0 (by decide) (htt _ k_122) (fun _ h9 => h9) rfl hin rfl (t_Replacer_ok 0 (by decide)) rfl rfl (Nat.le_of_ble_eq_true rfl) d_Replacer_init_93 (fun H locs hP hD hS => ?_)
  have hP : va_P g.1 classes [(h0, .inr (12, [.ref o1, .null, .null, .null, .ref a8, .ref a17, .ref a26, .ref a35, .ref a44, .ref a53, .ref a62, .ref a70, .ref a78, .ref a86, .int 0, .int 0]))] H := hP
  have hD : va_D A [(h0, .inr (12, [.ref o1, .null, .null, .null, .ref a8, .ref a17, .ref a26, .ref a35, .ref a44, .ref a53, .ref a62, .ref a70, .ref a78, .ref a86, .int 0, .int 0]))] := hD
  refine lv_aload_n hx hb d_Replacer_init_96 rfl (lv_at hl 0 rfl) ?_
  refine lv_aload_n hx hb d_Replacer_init_97 rfl (lv_at hl 2 rfl) ?_
  show W _ _ _ _ _ _ _ _ _ _ _ _ _ _ _ (F0 _ 98 _ _)
  refine va_putF (D := g.1) (ci := 12) (v := .ref o2) (ty := t_Replacer 1) (C := "MacroMill$Replacer") (T := F_Replacer) (N := 16) hx hb htt in_Replacer t_Replacer t_Replacer_ok n_Replacer hown hK hP hD hS 0 rfl rfl 1 (by decide) (htt _ k_123) (fun _ h9 => h9) rfl hin rfl (t_Replacer_ok 1 (by decide)) rfl rfl (Nat.le_of_ble_eq_true rfl) d_Replacer_init_98 (fun H locs hP hD hS => ?_)
  have hP : va_P g.1 classes [(h0, .inr (12, [.ref o1, .ref o2, .null, .null, .ref a8, .ref a17, .ref a26, .ref a35, .ref a44, .ref a53, .ref a62, .ref a70, .ref a78, .ref a86, .int 0, .int 0]))] H := hP
  have hD : va_D A [(h0, .inr (12, [.ref o1, .ref o2, .null, .null, .ref a8, .ref a17, .ref a26, .ref a35, .ref a44, .ref a53, .ref a62, .ref a70, .ref a78, .ref a86, .int 0, .int 0]))] := hD
  refine lv_aload_n hx hb d_Replacer_init_101 rfl (lv_at hl 0 rfl) ?_
  refine lv_aload_n hx hb d_Replacer_init_102 rfl (lv_at hl 3 rfl) ?_
  refine va_putF (D := g.1) (ci := 12) (v := .ref o3) (ty := t_Replacer 2) (C := "MacroMill$Replacer") (T := F_Replacer) (N := 16) hx hb htt in_Replacer t_Replacer t_Replacer_ok n_Replacer hown hK hP hD hS 0 rfl rfl 2 (by decide) (htt _ k_124) (fun _ h9 => h9) rfl hin rfl (t_Replacer_ok 2 (by decide)) rfl rfl (Nat.le_of_ble_eq_true rfl) d_Replacer_init_103 (fun H locs hP hD hS => ?_)
  have hP : va_P g.1 classes [(h0, .inr (12, [.ref o1, .ref o2, .ref o3, .null, .ref a8, .ref a17, .ref a26, .ref a35, .ref a44, .ref a53, .ref a62, .ref a70, .ref a78, .ref a86, .int 0, .int 0]))] H := hP
  have hD : va_D A [(h0, .inr (12, [.ref o1, .ref o2, .ref o3, .null, .ref a8, .ref a17, .ref a26, .ref a35, .ref a44, .ref a53, .ref a62, .ref a70, .ref a78, .ref a86, .int 0, .int 0]))] := hD
  refine lv_aload_n hx hb d_Replacer_init_106 rfl (lv_at hl 0 rfl) ?_
  refine lv_aload hx hb d_Replacer_init_107 (lv_at hl 4 rfl) ?_
  refine va_putF (D := g.1) (ci := 12) (v := .ref o4) (ty := t_Replacer 3) (C := "MacroMill$Replacer") (T := F_Replacer) (N := 16) hx hb htt in_Replacer t_Replacer t_Replacer_ok n_Replacer hown hK hP hD hS 0 rfl rfl 3 (by decide) (htt _ k_125) (fun _ h9 => h9) rfl hin rfl (t_Replacer_ok 3 (by decide)) rfl rfl (Nat.le_of_ble_eq_true rfl) d_Replacer_init_109 (fun H locs hP hD hS => ?_)
  have hP : va_P g.1 classes [(h0, .inr (12, [.ref o1, .ref o2, .ref o3, .ref o4, .ref a8, .ref a17, .ref a26, .ref a35, .ref a44, .ref a53, .ref a62, .ref a70, .ref a78, .ref a86, .int 0, .int 0]))] H := hP
  have hD : va_D A [(h0, .inr (12, [.ref o1, .ref o2, .ref o3, .ref o4, .ref a8, .ref a17, .ref a26, .ref a35, .ref a44, .ref a53, .ref a62, .ref a70, .ref a78, .ref a86, .int 0, .int 0]))] := hD
  exact fin_v (g := g) (ws := [(h0, .inr (12, [.ref o1, .ref o2, .ref o3, .ref o4, .ref a8, .ref a17, .ref a26, .ref a35, .ref a44, .ref a53, .ref a62, .ref a70, .ref a78, .ref a86, .int 0, .int 0]))]) hx hb hr hlocks (by decide +kernel) (by decide +kernel) hP hD hS ⟨a8, a17, a26, a35, a44, a53, a62, a70, a78, a86, rfl⟩ d_Replacer_init_112
end
section
abbrev rm_Tokens_clearAll : Room := { frames := 0, cells := 0, slots := 0, locals := 0 }
set_option maxHeartbeats 4000000 in
set_option maxRecDepth 100000 in
theorem c_Tokens_clearAll (l : Launch) (g : gG) (sz : Nat) (h0 : Nat) (x0 : Value) (x1 : Value) (x2 : Value) (x3 : Value) (x4 : Value) (x5 : Value) (x6 : Value) (x7 : Value) (x8 : Value) (x9 : Value) : Cv l y_Tokens_clearAll b_Tokens_clearAll 1 rm_Tokens_clearAll g [.ref h0] [(h0, .inr (9, [x0, x1, x2, x3, x4, x5, x6, x7, x8, x9]))] sz (fun w => w = [(h0, .inr (9, [x0, x1, .int 0, .int 0, .int 60002, x5, x6, x7, .int 0, x9]))]) := by
  refine startV (by decide) (Nat.le_of_ble_eq_true rfl) ?_
  intro p e s m below meth c A ls hx hb hr hml hlocks hmn hown htt hN hA hP hK hD hS hl
  have hown : s.vm.findClass "MacroMill$Tokens" = some m.cls := hown
  have hl : lv_has ls 1 [(0, .ref h0)] := hl
  refine lv_aload_n hx hb d_Tokens_clearAll_0 rfl (lv_at hl 0 rfl) ?_
  refine lv_iconst (v := 0) hx hb d_Tokens_clearAll_1 (by decide) ?_
  refine va_put (D := g.1) (ci := 9) (v := .int 0) (ty := t_Tokens 2) (C := "MacroMill$Tokens") (T := F_Tokens) (N := 10) hx hb htt in_Tokens t_Tokens t_Tokens_ok n_Tokens hown hK hP hD hS 0 rfl rfl 2 (by decide) (htt _ k_126) (fun _ h9 => h9) rfl (t_Tokens_ok 2 (by decide)) rfl rfl (Nat.le_of_ble_eq_true rfl) d_Tokens_clearAll_2 (fun H locs hP hD hS => ?_)
  have hP : va_P g.1 classes [(h0, .inr (9, [x0, x1, .int 0, x3, x4, x5, x6, x7, x8, x9]))] H := hP
  have hD : va_D A [(h0, .inr (9, [x0, x1, .int 0, x3, x4, x5, x6, x7, x8, x9]))] := hD
  refine lv_aload_n hx hb d_Tokens_clearAll_5 rfl (lv_at hl 0 rfl) ?_
  refine lv_iconst (v := 0) hx hb d_Tokens_clearAll_6 (by decide) ?_
  refine va_put (D := g.1) (ci := 9) (v := .int 0) (ty := t_Tokens 3) (C := "MacroMill$Tokens") (T := F_Tokens) (N := 10) hx hb htt in_Tokens t_Tokens t_Tokens_ok n_Tokens hown hK hP hD hS 0 rfl rfl 3 (by decide) (htt _ k_127) (fun _ h9 => h9) rfl (t_Tokens_ok 3 (by decide)) rfl rfl (Nat.le_of_ble_eq_true rfl) d_Tokens_clearAll_7 (fun H locs hP hD hS => ?_)
  have hP : va_P g.1 classes [(h0, .inr (9, [x0, x1, .int 0, .int 0, x4, x5, x6, x7, x8, x9]))] H := hP
  have hD : va_D A [(h0, .inr (9, [x0, x1, .int 0, .int 0, x4, x5, x6, x7, x8, x9]))] := hD
  refine lv_aload_n hx hb d_Tokens_clearAll_10 rfl (lv_at hl 0 rfl) ?_
  refine lv_ldc (v := 60002) hx hb hown (htt _ k_128) d_Tokens_clearAll_11 ?_
  refine va_put (D := g.1) (ci := 9) (v := .int 60002) (ty := t_Tokens 4) (C := "MacroMill$Tokens") (T := F_Tokens) (N := 10) hx hb htt in_Tokens t_Tokens t_Tokens_ok n_Tokens hown hK hP hD hS 0 rfl rfl 4 (by decide) (htt _ k_129) (fun _ h9 => h9) rfl (t_Tokens_ok 4 (by decide)) rfl rfl (Nat.le_of_ble_eq_true rfl) d_Tokens_clearAll_13 (fun H locs hP hD hS => ?_)
  have hP : va_P g.1 classes [(h0, .inr (9, [x0, x1, .int 0, .int 0, .int 60002, x5, x6, x7, x8, x9]))] H := hP
  have hD : va_D A [(h0, .inr (9, [x0, x1, .int 0, .int 0, .int 60002, x5, x6, x7, x8, x9]))] := hD
  refine lv_aload_n hx hb d_Tokens_clearAll_16 rfl (lv_at hl 0 rfl) ?_
  refine lv_iconst (v := 0) hx hb d_Tokens_clearAll_17 (by decide) ?_
  show W _ _ _ _ _ _ _ _ _ _ _ _ _ _ _ (F0 _ 18 _ _)
  refine va_put (D := g.1) (ci := 9) (v := .int 0) (ty := t_Tokens 8) (C := "MacroMill$Tokens") (T := F_Tokens) (N := 10) hx hb htt in_Tokens t_Tokens t_Tokens_ok n_Tokens hown hK hP hD hS 0 rfl rfl 8 (by decide) (htt _ k_130) (fun _ h9 => h9) rfl (t_Tokens_ok 8 (by decide)) rfl rfl (Nat.le_of_ble_eq_true rfl) d_Tokens_clearAll_18 (fun H locs hP hD hS => ?_)
  have hP : va_P g.1 classes [(h0, .inr (9, [x0, x1, .int 0, .int 0, .int 60002, x5, x6, x7, .int 0, x9]))] H := hP
  have hD : va_D A [(h0, .inr (9, [x0, x1, .int 0, .int 0, .int 60002, x5, x6, x7, .int 0, x9]))] := hD
  exact fin_v (g := g) (ws := [(h0, .inr (9, [x0, x1, .int 0, .int 0, .int 60002, x5, x6, x7, .int 0, x9]))]) hx hb hr hlocks (by decide +kernel) (by decide +kernel) hP hD hS rfl d_Tokens_clearAll_21
abbrev rm_Macros_clearAll : Room := { frames := 1, cells := 0, slots := 0, locals := 23 }
set_option maxHeartbeats 4000000 in
set_option maxRecDepth 100000 in
theorem c_Macros_clearAll (l : Launch) (g : gG) (sz : Nat) (h0 : Nat) (b1 : Nat) (b2 : Nat) (f1 : Nat → Int32) (f2 : Nat → Int32) (x0 : Value) (x1 : Value) (x3 : Value) (x4 : Value) (x5 : Value) (x6 : Value) (x7 : Value) (x8 : Value) (x9 : Value) (x10 : Value) (x11 : Value) (x12 : Value) (x13 : Value) (x15 : Value) (x16 : Value) (x17 : Value) (x18 : Value) : Cv l y_Macros_clearAll b_Macros_clearAll 1 rm_Macros_clearAll g [.ref h0] [(h0, .inr (10, [x0, x1, .ref b1, x3, x4, x5, x6, x7, x8, x9, x10, x11, x12, x13, .ref b2, x15, x16, x17, x18])), (b1, .inl (g.2 1, 512, .inl f1)), (b2, .inl (g.2 1, 2048, .inl f2))] sz (fun w => ∃ (fl : Nat → Int32) (fl_2 : Nat → Int32), w = [(h0, .inr (10, [x0, x1, .ref b1, x3, .int 0, .int 0, x6, x7, x8, x9, x10, x11, .int 0, x13, .ref b2, x15, .int 0, x17, x18])), (b1, .inl (g.2 1, 512, .inl fl)), (b2, .inl (g.2 1, 2048, .inl fl_2))] ∧ (∀ j, j < 512 → fl j = (-1)) ∧ (∀ j, j < 2048 → fl_2 j = (-1))) := by
  refine startV (by decide) (Nat.le_of_ble_eq_true rfl) ?_
  intro p e s m below meth c A ls hx hb hr hml hlocks hmn hown htt hN hA hP hK hD hS hl
  have hown : s.vm.findClass "MacroMill$Macros" = some m.cls := hown
  have hl : lv_has ls 1 [(0, .ref h0)] := hl
  refine lv_aload_n hx hb d_Macros_clearAll_0 rfl (lv_at hl 0 rfl) ?_
  refine va_get (D := g.1) (ci := 10) (v := .ref b1) (C := "MacroMill$Macros") (T := F_Macros) (N := 19) hx hb htt in_Macros hown hK hP 0 rfl rfl 2 (by decide) (htt _ k_85) (fun _ h9 => h9) rfl d_Macros_clearAll_1 ?_
  refine lv_iconst (v := (-1)) hx hb d_Macros_clearAll_4 (by decide) ?_
  refine go_v (As := [.ref b1, .int (-1)]) (g := g) (A := A) (wc := [(b1, .inl (g.2 1, 512, .inl f1))]) (wr := [(h0, .inr (10, [x0, x1, .ref b1, x3, x4, x5, x6, x7, x8, x9, x10, x11, x12, x13, .ref b2, x15, x16, x17, x18])), (b2, .inl (g.2 1, 2048, .inl f2))]) [1] [0, 2] rfl rfl rfl rfl (by decide) hP hK hD hS hA hN (fun hp => va_runS (As := [.ref b1, .int (-1)]) (rest := []) ⟨hx, hb, hml, hown, htt⟩ (c_fill l g _ b1 512 f1 (-1) (by decide)) ⟨(cb_L htt k_131 k_132 k_133 hd_Arrays_fill ⟨(by decide +kernel), (by decide +kernel)⟩), htt _ k_134⟩ hp rfl rfl hl.1 rfl (lv_room (Nat.le_of_ble_eq_true rfl)) d_Macros_clearAll_5 ⟨(by decide +kernel), (by decide +kernel)⟩) (fun w9 H locs hw9 hP hD hS => ?_)
  obtain ⟨fl, rfl, h_fl⟩ := hw9
  refine W.widen (k := 0) (n := 0) (by decide +kernel) (by decide +kernel) ?_
  have hP : va_P g.1 classes [(h0, .inr (10, [x0, x1, .ref b1, x3, x4, x5, x6, x7, x8, x9, x10, x11, x12, x13, .ref b2, x15, x16, x17, x18])), (b2, .inl (g.2 1, 2048, .inl f2)), (b1, .inl (g.2 1, 512, .inl fl))] H := hP
  have hD : va_D A [(h0, .inr (10, [x0, x1, .ref b1, x3, x4, x5, x6, x7, x8, x9, x10, x11, x12, x13, .ref b2, x15, x16, x17, x18])), (b2, .inl (g.2 1, 2048, .inl f2)), (b1, .inl (g.2 1, 512, .inl fl))] := hD
  refine lv_aload_n hx hb d_Macros_clearAll_8 rfl (lv_at hl 0 rfl) ?_
  refine va_get (D := g.1) (ci := 10) (v := .ref b2) (C := "MacroMill$Macros") (T := F_Macros) (N := 19) hx hb htt in_Macros hown hK hP 0 rfl rfl 14 (by decide) (htt _ k_94) (fun _ h9 => h9) rfl d_Macros_clearAll_9 ?_
  refine lv_iconst (v := (-1)) hx hb d_Macros_clearAll_12 (by decide) ?_
  refine go_v (As := [.ref b2, .int (-1)]) (g := g) (A := A) (wc := [(b2, .inl (g.2 1, 2048, .inl f2))]) (wr := [(h0, .inr (10, [x0, x1, .ref b1, x3, x4, x5, x6, x7, x8, x9, x10, x11, x12, x13, .ref b2, x15, x16, x17, x18])), (b1, .inl (g.2 1, 512, .inl fl))]) [1] [0, 2] rfl rfl rfl rfl (by decide) hP hK hD hS hA hN (fun hp => va_runS (As := [.ref b2, .int (-1)]) (rest := []) ⟨hx, hb, hml, hown, htt⟩ (c_fill l g _ b2 2048 f2 (-1) (by decide)) ⟨(cb_L htt k_131 k_132 k_133 hd_Arrays_fill ⟨(by decide +kernel), (by decide +kernel)⟩), htt _ k_134⟩ hp rfl rfl hl.1 rfl (lv_room (Nat.le_of_ble_eq_true rfl)) d_Macros_clearAll_13 ⟨(by decide +kernel), (by decide +kernel)⟩) (fun w9 H locs hw9 hP hD hS => ?_)
  obtain ⟨fl_2, rfl, h_fl_2⟩ := hw9
  refine W.widen (k := 0) (n := 0) (by decide +kernel) (by decide +kernel) ?_
  have hP : va_P g.1 classes [(h0, .inr (10, [x0, x1, .ref b1, x3, x4, x5, x6, x7, x8, x9, x10, x11, x12, x13, .ref b2, x15, x16, x17, x18])), (b1, .inl (g.2 1, 512, .inl fl)), (b2, .inl (g.2 1, 2048, .inl fl_2))] H := hP
  have hD : va_D A [(h0, .inr (10, [x0, x1, .ref b1, x3, x4, x5, x6, x7, x8, x9, x10, x11, x12, x13, .ref b2, x15, x16, x17, x18])), (b1, .inl (g.2 1, 512, .inl fl)), (b2, .inl (g.2 1, 2048, .inl fl_2))] := hD
  refine lv_aload_n hx hb d_Macros_clearAll_16 rfl (lv_at hl 0 rfl) ?_
  refine lv_iconst (v := 0) hx hb d_Macros_clearAll_17 (by decide) ?_
  refine va_put (D := g.1) (ci := 10) (v := .int 0) (ty := t_Macros 4) (C := "MacroMill$Macros") (T := F_Macros) (N := 19) hx hb htt in_Macros t_Macros t_Macros_ok n_Macros hown hK hP hD hS 0 rfl rfl 4 (by decide) (htt _ k_135) (fun _ h9 => h9) rfl (t_Macros_ok 4 (by decide)) rfl rfl (Nat.le_of_ble_eq_true rfl) d_Macros_clearAll_18 (fun H locs hP hD hS => ?_)
  have hP : va_P g.1 classes [(h0, .inr (10, [x0, x1, .ref b1, x3, .int 0, x5, x6, x7, x8, x9, x10, x11, x12, x13, .ref b2, x15, x16, x17, x18])), (b1, .inl (g.2 1, 512, .inl fl)), (b2, .inl (g.2 1, 2048, .inl fl_2))] H := hP
  have hD : va_D A [(h0, .inr (10, [x0, x1, .ref b1, x3, .int 0, x5, x6, x7, x8, x9, x10, x11, x12, x13, .ref b2, x15, x16, x17, x18])), (b1, .inl (g.2 1, 512, .inl fl)), (b2, .inl (g.2 1, 2048, .inl fl_2))] := hD
  show W _ _ _ _ _ _ _ _ _ _ _ _ _ _ _ (F0 _ 21 _ _)
  refine lv_aload_n hx hb d_Macros_clearAll_21 rfl (lv_at hl 0 rfl) ?_
  refine lv_iconst (v := 0) hx hb d_Macros_clearAll_22 (by decide) ?_
  refine va_put (D := g.1) (ci := 10) (v := .int 0) (ty := t_Macros 5) (C := "MacroMill$Macros") (T := F_Macros) (N := 19) hx hb htt in_Macros t_Macros t_Macros_ok n_Macros hown hK hP hD hS 0 rfl rfl 5 (by decide) (htt _ k_136) (fun _ h9 => h9) rfl (t_Macros_ok 5 (by decide)) rfl rfl (Nat.le_of_ble_eq_true rfl) d_Macros_clearAll_23 (fun H locs hP hD hS => ?_)
  have hP : va_P g.1 classes [(h0, .inr (10, [x0, x1, .ref b1, x3, .int 0, .int 0, x6, x7, x8, x9, x10, x11, x12, x13, .ref b2, x15, x16, x17, x18])), (b1, .inl (g.2 1, 512, .inl fl)), (b2, .inl (g.2 1, 2048, .inl fl_2))] H := hP
  have hD : va_D A [(h0, .inr (10, [x0, x1, .ref b1, x3, .int 0, .int 0, x6, x7, x8, x9, x10, x11, x12, x13, .ref b2, x15, x16, x17, x18])), (b1, .inl (g.2 1, 512, .inl fl)), (b2, .inl (g.2 1, 2048, .inl fl_2))] := hD
  refine lv_aload_n hx hb d_Macros_clearAll_26 rfl (lv_at hl 0 rfl) ?_
  refine lv_iconst (v := 0) hx hb d_Macros_clearAll_27 (by decide) ?_
  refine va_put (D := g.1) (ci := 10) (v := .int 0) (ty := t_Macros 12) (C := "MacroMill$Macros") (T := F_Macros) (N := 19) hx hb htt in_Macros t_Macros t_Macros_ok n_Macros hown hK hP hD hS 0 rfl rfl 12 (by decide) (htt _ k_137) (fun _ h9 => h9) rfl (t_Macros_ok 12 (by decide)) rfl rfl (Nat.le_of_ble_eq_true rfl) d_Macros_clearAll_28 (fun H locs hP hD hS => ?_)
  have hP : va_P g.1 classes [(h0, .inr (10, [x0, x1, .ref b1, x3, .int 0, .int 0, x6, x7, x8, x9, x10, x11, .int 0, x13, .ref b2, x15, x16, x17, x18])), (b1, .inl (g.2 1, 512, .inl fl)), (b2, .inl (g.2 1, 2048, .inl fl_2))] H := hP
  have hD : va_D A [(h0, .inr (10, [x0, x1, .ref b1, x3, .int 0, .int 0, x6, x7, x8, x9, x10, x11, .int 0, x13, .ref b2, x15, x16, x17, x18])), (b1, .inl (g.2 1, 512, .inl fl)), (b2, .inl (g.2 1, 2048, .inl fl_2))] := hD
  refine lv_aload_n hx hb d_Macros_clearAll_31 rfl (lv_at hl 0 rfl) ?_
  refine lv_iconst (v := 0) hx hb d_Macros_clearAll_32 (by decide) ?_
  refine va_put (D := g.1) (ci := 10) (v := .int 0) (ty := t_Macros 16) (C := "MacroMill$Macros") (T := F_Macros) (N := 19) hx hb htt in_Macros t_Macros t_Macros_ok n_Macros hown hK hP hD hS 0 rfl rfl 16 (by decide) (htt _ k_138) (fun _ h9 => h9) rfl (t_Macros_ok 16 (by decide)) rfl rfl (Nat.le_of_ble_eq_true rfl) d_Macros_clearAll_33 (fun H locs hP hD hS => ?_)
  have hP : va_P g.1 classes [(h0, .inr (10, [x0, x1, .ref b1, x3, .int 0, .int 0, x6, x7, x8, x9, x10, x11, .int 0, x13, .ref b2, x15, .int 0, x17, x18])), (b1, .inl (g.2 1, 512, .inl fl)), (b2, .inl (g.2 1, 2048, .inl fl_2))] H := hP
  have hD : va_D A [(h0, .inr (10, [x0, x1, .ref b1, x3, .int 0, .int 0, x6, x7, x8, x9, x10, x11, .int 0, x13, .ref b2, x15, .int 0, x17, x18])), (b1, .inl (g.2 1, 512, .inl fl)), (b2, .inl (g.2 1, 2048, .inl fl_2))] := hD
  exact fin_v (g := g) (ws := [(h0, .inr (10, [x0, x1, .ref b1, x3, .int 0, .int 0, x6, x7, x8, x9, x10, x11, .int 0, x13, .ref b2, x15, .int 0, x17, x18])), (b1, .inl (g.2 1, 512, .inl fl)), (b2, .inl (g.2 1, 2048, .inl fl_2))]) hx hb hr hlocks (by decide +kernel) (by decide +kernel) hP hD hS ⟨fl, fl_2, rfl, h_fl, h_fl_2⟩ d_Macros_clearAll_36
abbrev rm_Lines_clearAll : Room := { frames := 1, cells := 0, slots := 0, locals := 23 }
set_option maxHeartbeats 4000000 in
set_option maxRecDepth 100000 in
theorem c_Lines_clearAll (l : Launch) (g : gG) (sz : Nat) (h0 : Nat) (b1 : Nat) (f1 : Nat → Int32) (x0 : Value) (x1 : Value) (x2 : Value) (x4 : Value) (x5 : Value) (x6 : Value) (x7 : Value) (x8 : Value) (x9 : Value) (x10 : Value) (x11 : Value) (x12 : Value) (x13 : Value) (x14 : Value) (x15 : Value) (x16 : Value) (x17 : Value) (x18 : Value) : Cv l y_Lines_clearAll b_Lines_clearAll 1 rm_Lines_clearAll g [.ref h0] [(h0, .inr (11, [x0, x1, x2, .ref b1, x4, x5, x6, x7, x8, x9, x10, x11, x12, x13, x14, x15, x16, x17, x18])), (b1, .inl (g.2 1, 32, .inl f1))] sz (fun w => ∃ (fl : Nat → Int32), w = [(h0, .inr (11, [x0, x1, x2, .ref b1, x4, x5, x6, x7, x8, x9, x10, .int 0, .int 0, .int 0, .int 0, .int 0, .int 0, .int 0, .int 1])), (b1, .inl (g.2 1, 32, .inl fl))] ∧ (∀ j, j < 32 → fl j = (-1))) := by
  refine startV (by decide) (Nat.le_of_ble_eq_true rfl) ?_
  intro p e s m below meth c A ls hx hb hr hml hlocks hmn hown htt hN hA hP hK hD hS hl
  have hown : s.vm.findClass "MacroMill$Lines" = some m.cls := hown
  have hl : lv_has ls 1 [(0, .ref h0)] := hl
  refine lv_aload_n hx hb d_Lines_clearAll_0 rfl (lv_at hl 0 rfl) ?_
  refine va_get (D := g.1) (ci := 11) (v := .ref b1) (C := "MacroMill$Lines") (T := F_Lines) (N := 19) hx hb htt in_Lines hown hK hP 0 rfl rfl 3 (by decide) (htt _ k_100) (fun _ h9 => h9) rfl d_Lines_clearAll_1 ?_
  refine lv_iconst (v := (-1)) hx hb d_Lines_clearAll_4 (by decide) ?_
  refine go_v (As := [.ref b1, .int (-1)]) (g := g) (A := A) (wc := [(b1, .inl (g.2 1, 32, .inl f1))]) (wr := [(h0, .inr (11, [x0, x1, x2, .ref b1, x4, x5, x6, x7, x8, x9, x10, x11, x12, x13, x14, x15, x16, x17, x18]))]) [1] [0] rfl rfl rfl rfl (by decide) hP hK hD hS hA hN (fun hp => va_runS (As := [.ref b1, .int (-1)]) (rest := []) ⟨hx, hb, hml, hown, htt⟩ (c_fill l g _ b1 32 f1 (-1) (by decide)) ⟨(cb_L htt k_131 k_132 k_139 hd_Arrays_fill ⟨(by decide +kernel), (by decide +kernel)⟩), htt _ k_134⟩ hp rfl rfl hl.1 rfl (lv_room (Nat.le_of_ble_eq_true rfl)) d_Lines_clearAll_5 ⟨(by decide +kernel), (by decide +kernel)⟩) (fun w9 H locs hw9 hP hD hS => ?_)
  obtain ⟨fl, rfl, h_fl⟩ := hw9
  refine W.widen (k := 0) (n := 0) (by decide +kernel) (by decide +kernel) ?_
  have hP : va_P g.1 classes [(h0, .inr (11, [x0, x1, x2, .ref b1, x4, x5, x6, x7, x8, x9, x10, x11, x12, x13, x14, x15, x16, x17, x18])), (b1, .inl (g.2 1, 32, .inl fl))] H := hP
  have hD : va_D A [(h0, .inr (11, [x0, x1, x2, .ref b1, x4, x5, x6, x7, x8, x9, x10, x11, x12, x13, x14, x15, x16, x17, x18])), (b1, .inl (g.2 1, 32, .inl fl))] := hD
  refine lv_aload_n hx hb d_Lines_clearAll_8 rfl (lv_at hl 0 rfl) ?_
  refine lv_iconst (v := 0) hx hb d_Lines_clearAll_9 (by decide) ?_
  refine va_put (D := g.1) (ci := 11) (v := .int 0) (ty := t_Lines 11) (C := "MacroMill$Lines") (T := F_Lines) (N := 19) hx hb htt in_Lines t_Lines t_Lines_ok n_Lines hown hK hP hD hS 0 rfl rfl 11 (by decide) (htt _ k_140) (fun _ h9 => h9) rfl (t_Lines_ok 11 (by decide)) rfl rfl (Nat.le_of_ble_eq_true rfl) d_Lines_clearAll_10 (fun H locs hP hD hS => ?_)
  have hP : va_P g.1 classes [(h0, .inr (11, [x0, x1, x2, .ref b1, x4, x5, x6, x7, x8, x9, x10, .int 0, x12, x13, x14, x15, x16, x17, x18])), (b1, .inl (g.2 1, 32, .inl fl))] H := hP
  have hD : va_D A [(h0, .inr (11, [x0, x1, x2, .ref b1, x4, x5, x6, x7, x8, x9, x10, .int 0, x12, x13, x14, x15, x16, x17, x18])), (b1, .inl (g.2 1, 32, .inl fl))] := hD
  refine lv_aload_n hx hb d_Lines_clearAll_13 rfl (lv_at hl 0 rfl) ?_
  refine lv_iconst (v := 0) hx hb d_Lines_clearAll_14 (by decide) ?_
  refine va_put (D := g.1) (ci := 11) (v := .int 0) (ty := t_Lines 12) (C := "MacroMill$Lines") (T := F_Lines) (N := 19) hx hb htt in_Lines t_Lines t_Lines_ok n_Lines hown hK hP hD hS 0 rfl rfl 12 (by decide) (htt _ k_141) (fun _ h9 => h9) rfl (t_Lines_ok 12 (by decide)) rfl rfl (Nat.le_of_ble_eq_true rfl) d_Lines_clearAll_15 (fun H locs hP hD hS => ?_)
  have hP : va_P g.1 classes [(h0, .inr (11, [x0, x1, x2, .ref b1, x4, x5, x6, x7, x8, x9, x10, .int 0, .int 0, x13, x14, x15, x16, x17, x18])), (b1, .inl (g.2 1, 32, .inl fl))] H := hP
  have hD : va_D A [(h0, .inr (11, [x0, x1, x2, .ref b1, x4, x5, x6, x7, x8, x9, x10, .int 0, .int 0, x13, x14, x15, x16, x17, x18])), (b1, .inl (g.2 1, 32, .inl fl))] := hD
  refine lv_aload_n hx hb d_Lines_clearAll_18 rfl (lv_at hl 0 rfl) ?_
  show W _ _ _ _ _ _ _ _ _ _ _ _ _ _ _ (F0 _ 19 _ _)
  refine lv_iconst (v := 0) hx hb d_Lines_clearAll_19 (by decide) ?_
  refine va_put (D := g.1) (ci := 11) (v := .int 0) (ty := t_Lines 13) (C := "MacroMill$Lines") (T := F_Lines) (N := 19) hx hb htt in_Lines t_Lines t_Lines_ok n_Lines hown hK hP hD hS 0 rfl rfl 13 (by decide) (htt _ k_142) (fun _ h9 => h9) rfl (t_Lines_ok 13 (by decide)) rfl rfl (Nat.le_of_ble_eq_true rfl) d_Lines_clearAll_20 (fun H locs hP hD hS => ?_)
  have hP : va_P g.1 classes [(h0, .inr (11, [x0, x1, x2, .ref b1, x4, x5, x6, x7, x8, x9, x10, .int 0, .int 0, .int 0, x14, x15, x16, x17, x18])), (b1, .inl (g.2 1, 32, .inl fl))] H := hP
  have hD : va_D A [(h0, .inr (11, [x0, x1, x2, .ref b1, x4, x5, x6, x7, x8, x9, x10, .int 0, .int 0, .int 0, x14, x15, x16, x17, x18])), (b1, .inl (g.2 1, 32, .inl fl))] := hD
  refine lv_aload_n hx hb d_Lines_clearAll_23 rfl (lv_at hl 0 rfl) ?_
  refine lv_iconst (v := 0) hx hb d_Lines_clearAll_24 (by decide) ?_
  refine va_put (D := g.1) (ci := 11) (v := .int 0) (ty := t_Lines 14) (C := "MacroMill$Lines") (T := F_Lines) (N := 19) hx hb htt in_Lines t_Lines t_Lines_ok n_Lines hown hK hP hD hS 0 rfl rfl 14 (by decide) (htt _ k_143) (fun _ h9 => h9) rfl (t_Lines_ok 14 (by decide)) rfl rfl (Nat.le_of_ble_eq_true rfl) d_Lines_clearAll_25 (fun H locs hP hD hS => ?_)
  have hP : va_P g.1 classes [(h0, .inr (11, [x0, x1, x2, .ref b1, x4, x5, x6, x7, x8, x9, x10, .int 0, .int 0, .int 0, .int 0, x15, x16, x17, x18])), (b1, .inl (g.2 1, 32, .inl fl))] H := hP
  have hD : va_D A [(h0, .inr (11, [x0, x1, x2, .ref b1, x4, x5, x6, x7, x8, x9, x10, .int 0, .int 0, .int 0, .int 0, x15, x16, x17, x18])), (b1, .inl (g.2 1, 32, .inl fl))] := hD
  refine lv_aload_n hx hb d_Lines_clearAll_28 rfl (lv_at hl 0 rfl) ?_
  refine lv_iconst (v := 0) hx hb d_Lines_clearAll_29 (by decide) ?_
  refine va_put (D := g.1) (ci := 11) (v := .int 0) (ty := t_Lines 15) (C := "MacroMill$Lines") (T := F_Lines) (N := 19) hx hb htt in_Lines t_Lines t_Lines_ok n_Lines hown hK hP hD hS 0 rfl rfl 15 (by decide) (htt _ k_144) (fun _ h9 => h9) rfl (t_Lines_ok 15 (by decide)) rfl rfl (Nat.le_of_ble_eq_true rfl) d_Lines_clearAll_30 (fun H locs hP hD hS => ?_)
  have hP : va_P g.1 classes [(h0, .inr (11, [x0, x1, x2, .ref b1, x4, x5, x6, x7, x8, x9, x10, .int 0, .int 0, .int 0, .int 0, .int 0, x16, x17, x18])), (b1, .inl (g.2 1, 32, .inl fl))] H := hP
  have hD : va_D A [(h0, .inr (11, [x0, x1, x2, .ref b1, x4, x5, x6, x7, x8, x9, x10, .int 0, .int 0, .int 0, .int 0, .int 0, x16, x17, x18])), (b1, .inl (g.2 1, 32, .inl fl))] := hD
  refine lv_aload_n hx hb d_Lines_clearAll_33 rfl (lv_at hl 0 rfl) ?_
  refine lv_iconst (v := 0) hx hb d_Lines_clearAll_34 (by decide) ?_
  refine va_put (D := g.1) (ci := 11) (v := .int 0) (ty := t_Lines 16) (C := "MacroMill$Lines") (T := F_Lines) (N := 19) hx hb htt in_Lines t_Lines t_Lines_ok n_Lines hown hK hP hD hS 0 rfl rfl 16 (by decide) (htt _ k_145) (fun _ h9 => h9) rfl (t_Lines_ok 16 (by decide)) rfl rfl (Nat.le_of_ble_eq_true rfl) d_Lines_clearAll_35 (fun H locs hP hD hS => ?_)
  have hP : va_P g.1 classes [(h0, .inr (11, [x0, x1, x2, .ref b1, x4, x5, x6, x7, x8, x9, x10, .int 0, .int 0, .int 0, .int 0, .int 0, .int 0, x17, x18])), (b1, .inl (g.2 1, 32, .inl fl))] H := hP
  have hD : va_D A [(h0, .inr (11, [x0, x1, x2, .ref b1, x4, x5, x6, x7, x8, x9, x10, .int 0, .int 0, .int 0, .int 0, .int 0, .int 0, x17, x18])), (b1, .inl (g.2 1, 32, .inl fl))] := hD
  refine lv_aload_n hx hb d_Lines_clearAll_38 rfl (lv_at hl 0 rfl) ?_
  show W _ _ _ _ _ _ _ _ _ _ _ _ _ _ _ (F0 _ 39 _ _)
  refine lv_iconst (v := 0) hx hb d_Lines_clearAll_39 (by decide) ?_
  refine va_put (D := g.1) (ci := 11) (v := .int 0) (ty := t_Lines 17) (C := "MacroMill$Lines") (T := F_Lines) (N := 19) hx hb htt in_Lines t_Lines t_Lines_ok n_Lines hown hK hP hD hS 0 rfl rfl 17 (by decide) (htt _ k_146) (fun _ h9 => h9) rfl (t_Lines_ok 17 (by decide)) rfl rfl (Nat.le_of_ble_eq_true rfl) d_Lines_clearAll_40 (fun H locs hP hD hS => ?_)
  have hP : va_P g.1 classes [(h0, .inr (11, [x0, x1, x2, .ref b1, x4, x5, x6, x7, x8, x9, x10, .int 0, .int 0, .int 0, .int 0, .int 0, .int 0, .int 0, x18])), (b1, .inl (g.2 1, 32, .inl fl))] H := hP
  have hD : va_D A [(h0, .inr (11, [x0, x1, x2, .ref b1, x4, x5, x6, x7, x8, x9, x10, .int 0, .int 0, .int 0, .int 0, .int 0, .int 0, .int 0, x18])), (b1, .inl (g.2 1, 32, .inl fl))] := hD
  refine lv_aload_n hx hb d_Lines_clearAll_43 rfl (lv_at hl 0 rfl) ?_
  refine lv_iconst (v := 1) hx hb d_Lines_clearAll_44 (by decide) ?_
  refine va_put (D := g.1) (ci := 11) (v := .int 1) (ty := t_Lines 18) (C := "MacroMill$Lines") (T := F_Lines) (N := 19) hx hb htt in_Lines t_Lines t_Lines_ok n_Lines hown hK hP hD hS 0 rfl rfl 18 (by decide) (htt _ k_147) (fun _ h9 => h9) rfl (t_Lines_ok 18 (by decide)) rfl rfl (Nat.le_of_ble_eq_true rfl) d_Lines_clearAll_45 (fun H locs hP hD hS => ?_)
  have hP : va_P g.1 classes [(h0, .inr (11, [x0, x1, x2, .ref b1, x4, x5, x6, x7, x8, x9, x10, .int 0, .int 0, .int 0, .int 0, .int 0, .int 0, .int 0, .int 1])), (b1, .inl (g.2 1, 32, .inl fl))] H := hP
  have hD : va_D A [(h0, .inr (11, [x0, x1, x2, .ref b1, x4, x5, x6, x7, x8, x9, x10, .int 0, .int 0, .int 0, .int 0, .int 0, .int 0, .int 0, .int 1])), (b1, .inl (g.2 1, 32, .inl fl))] := hD
  exact fin_v (g := g) (ws := [(h0, .inr (11, [x0, x1, x2, .ref b1, x4, x5, x6, x7, x8, x9, x10, .int 0, .int 0, .int 0, .int 0, .int 0, .int 0, .int 0, .int 1])), (b1, .inl (g.2 1, 32, .inl fl))]) hx hb hr hlocks (by decide +kernel) (by decide +kernel) hP hD hS ⟨fl, rfl, h_fl⟩ d_Lines_clearAll_48
abbrev rm_Second_forget : Room := { frames := 2, cells := 0, slots := 0, locals := 43 }
set_option maxHeartbeats 4000000 in
set_option maxRecDepth 100000 in
theorem c_Second_forget (l : Launch) (g : gG) (sz : Nat) (h0 : Nat) (t1 : Nat) (m1 : Nat) (l1 : Nat) (b1 : Nat) (b2 : Nat) (b3 : Nat) (f1 : Nat → Int32) (f2 : Nat → Int32) (f3 : Nat → Int32) (x0 : Value) (x1 : Value) (x2 : Value) (x6 : Value) (x7 : Value) (x8 : Value) (x9 : Value) (x10 : Value) (x11 : Value) (x12 : Value) (x13 : Value) (x14 : Value) (x15 : Value) (x16 : Value) (x17 : Value) (x18 : Value) (x19 : Value) (x20 : Value) (x21 : Value) (u0 : Value) (u1 : Value) (u2 : Value) (u3 : Value) (u4 : Value) (u5 : Value) (u6 : Value) (u7 : Value) (u8 : Value) (u9 : Value) (v0 : Value) (v1 : Value) (v3 : Value) (v4 : Value) (v5 : Value) (v6 : Value) (v7 : Value) (v8 : Value) (v9 : Value) (v10 : Value) (v11 : Value) (v12 : Value) (v13 : Value) (v15 : Value) (v16 : Value) (v17 : Value) (v18 : Value) (w0 : Value) (w1 : Value) (w2 : Value) (w4 : Value) (w5 : Value) (w6 : Value) (w7 : Value) (w8 : Value) (w9 : Value) (w10 : Value) (w11 : Value) (w12 : Value) (w13 : Value) (w14 : Value) (w15 : Value) (w16 : Value) (w17 : Value) (w18 : Value) : Cv l y_Second_forget b_Second_forget 1 rm_Second_forget g [.ref h0] [(h0, .inr (8, [x0, x1, x2, .ref t1, .ref m1, .ref l1, x6, x7, x8, x9, x10, x11, x12, x13, x14, x15, x16, x17, x18, x19, x20, x21])), (t1, .inr (9, [u0, u1, u2, u3, u4, u5, u6, u7, u8, u9])), (m1, .inr (10, [v0, v1, .ref b1, v3, v4, v5, v6, v7, v8, v9, v10, v11, v12, v13, .ref b2, v15, v16, v17, v18])), (b1, .inl (g.2 1, 512, .inl f1)), (b2, .inl (g.2 1, 2048, .inl f2)), (l1, .inr (11, [w0, w1, w2, .ref b3, w4, w5, w6, w7, w8, w9, w10, w11, w12, w13, w14, w15, w16, w17, w18])), (b3, .inl (g.2 1, 32, .inl f3))] sz (fun w => ∃ (fl : Nat → Int32) (fl_2 : Nat → Int32) (fl_3 : Nat → Int32), w = [(h0, .inr (8, [x0, x1, x2, .ref t1, .ref m1, .ref l1, x6, x7, x8, .int 0, x10, x11, x12, x13, x14, x15, x16, x17, x18, x19, x20, x21])), (t1, .inr (9, [u0, u1, .int 0, .int 0, .int 60002, u5, u6, u7, .int 0, u9])), (m1, .inr (10, [v0, v1, .ref b1, v3, .int 0, .int 0, v6, v7, v8, v9, v10, v11, .int 0, v13, .ref b2, v15, .int 0, v17, v18])), (b1, .inl (g.2 1, 512, .inl fl)), (b2, .inl (g.2 1, 2048, .inl fl_2)), (l1, .inr (11, [w0, w1, w2, .ref b3, w4, w5, w6, w7, w8, w9, w10, .int 0, .int 0, .int 0, .int 0, .int 0, .int 0, .int 0, .int 1])), (b3, .inl (g.2 1, 32, .inl fl_3))] ∧ (∀ j, j < 512 → fl j = (-1)) ∧ (∀ j, j < 2048 → fl_2 j = (-1)) ∧ (∀ j, j < 32 → fl_3 j = (-1))) := by
  refine startV (by decide) (Nat.le_of_ble_eq_true rfl) ?_
  intro p e s m below meth c A ls hx hb hr hml hlocks hmn hown htt hN hA hP hK hD hS hl
  have hown : s.vm.findClass "MacroMill$Second" = some m.cls := hown
  have hl : lv_has ls 1 [(0, .ref h0)] := hl
  refine lv_aload_n hx hb d_Second_forget_0 rfl (lv_at hl 0 rfl) ?_
  refine va_get (D := g.1) (ci := 8) (v := .ref t1) (C := "MacroMill$Second") (T := F_Second) (N := 22) hx hb htt in_Second hown hK hP 0 rfl rfl 3 (by decide) (htt _ k_148) (fun _ h9 => h9) rfl d_Second_forget_1 ?_
  refine go_v (As := [.ref t1]) (g := g) (A := A) (wc := [(t1, .inr (9, [u0, u1, u2, u3, u4, u5, u6, u7, u8, u9]))]) (wr := [(h0, .inr (8, [x0, x1, x2, .ref t1, .ref m1, .ref l1, x6, x7, x8, x9, x10, x11, x12, x13, x14, x15, x16, x17, x18, x19, x20, x21])), (m1, .inr (10, [v0, v1, .ref b1, v3, v4, v5, v6, v7, v8, v9, v10, v11, v12, v13, .ref b2, v15, v16, v17, v18])), (b1, .inl (g.2 1, 512, .inl f1)), (b2, .inl (g.2 1, 2048, .inl f2)), (l1, .inr (11, [w0, w1, w2, .ref b3, w4, w5, w6, w7, w8, w9, w10, w11, w12, w13, w14, w15, w16, w17, w18])), (b3, .inl (g.2 1, 32, .inl f3))]) [1] [0, 2, 3, 4, 5, 6] rfl rfl rfl rfl (by decide) hP hK hD hS hA hN (fun hp => va_runV (As := []) (rest := []) ⟨hx, hb, hml, hown, htt⟩ (c_Tokens_clearAll l g _ t1 (u0) (u1) (u2) (u3) (u4) (u5) (u6) (u7) (u8) (u9)) ⟨(cb_L htt k_149 k_150 k_151 hd_Tokens_clearAll ⟨(by decide +kernel), (by decide +kernel)⟩), htt _ k_152, htt _ k_153⟩ ⟨hp.1, va_recv hK hP (ci := 9) (q0 := 1) rfl rfl, hp.2⟩ rfl rfl hl.1 rfl (lv_room (Nat.le_of_ble_eq_true rfl)) d_Second_forget_4 ⟨(by decide +kernel), (by decide +kernel)⟩) (fun w9 H locs hw9 hP hD hS => ?_)
  obtain rfl := hw9
  refine W.widen (k := 0) (n := 0) (by decide +kernel) (by decide +kernel) ?_
  have hP : va_P g.1 classes [(h0, .inr (8, [x0, x1, x2, .ref t1, .ref m1, .ref l1, x6, x7, x8, x9, x10, x11, x12, x13, x14, x15, x16, x17, x18, x19, x20, x21])), (m1, .inr (10, [v0, v1, .ref b1, v3, v4, v5, v6, v7, v8, v9, v10, v11, v12, v13, .ref b2, v15, v16, v17, v18])), (b1, .inl (g.2 1, 512, .inl f1)), (b2, .inl (g.2 1, 2048, .inl f2)), (l1, .inr (11, [w0, w1, w2, .ref b3, w4, w5, w6, w7, w8, w9, w10, w11, w12, w13, w14, w15, w16, w17, w18])), (b3, .inl (g.2 1, 32, .inl f3)), (t1, .inr (9, [u0, u1, .int 0, .int 0, .int 60002, u5, u6, u7, .int 0, u9]))] H := hP
  have hD : va_D A [(h0, .inr (8, [x0, x1, x2, .ref t1, .ref m1, .ref l1, x6, x7, x8, x9, x10, x11, x12, x13, x14, x15, x16, x17, x18, x19, x20, x21])), (m1, .inr (10, [v0, v1, .ref b1, v3, v4, v5, v6, v7, v8, v9, v10, v11, v12, v13, .ref b2, v15, v16, v17, v18])), (b1, .inl (g.2 1, 512, .inl f1)), (b2, .inl (g.2 1, 2048, .inl f2)), (l1, .inr (11, [w0, w1, w2, .ref b3, w4, w5, w6, w7, w8, w9, w10, w11, w12, w13, w14, w15, w16, w17, w18])), (b3, .inl (g.2 1, 32, .inl f3)), (t1, .inr (9, [u0, u1, .int 0, .int 0, .int 60002, u5, u6, u7, .int 0, u9]))] := hD
  refine lv_aload_n hx hb d_Second_forget_7 rfl (lv_at hl 0 rfl) ?_
  refine va_get (D := g.1) (ci := 8) (v := .ref m1) (C := "MacroMill$Second") (T := F_Second) (N := 22) hx hb htt in_Second hown hK hP 0 rfl rfl 4 (by decide) (htt _ k_154) (fun _ h9 => h9) rfl d_Second_forget_8 ?_
  refine go_v (As := [.ref m1]) (g := g) (A := A) (wc := [(m1, .inr (10, [v0, v1, .ref b1, v3, v4, v5, v6, v7, v8, v9, v10, v11, v12, v13, .ref b2, v15, v16, v17, v18])), (b1, .inl (g.2 1, 512, .inl f1)), (b2, .inl (g.2 1, 2048, .inl f2))]) (wr := [(h0, .inr (8, [x0, x1, x2, .ref t1, .ref m1, .ref l1, x6, x7, x8, x9, x10, x11, x12, x13, x14, x15, x16, x17, x18, x19, x20, x21])), (l1, .inr (11, [w0, w1, w2, .ref b3, w4, w5, w6, w7, w8, w9, w10, w11, w12, w13, w14, w15, w16, w17, w18])), (b3, .inl (g.2 1, 32, .inl f3)), (t1, .inr (9, [u0, u1, .int 0, .int 0, .int 60002, u5, u6, u7, .int 0, u9]))]) [1, 2, 3] [0, 4, 5, 6] rfl rfl rfl rfl (by decide) hP hK hD hS hA hN (fun hp => va_runV (As := []) (rest := []) ⟨hx, hb, hml, hown, htt⟩ (c_Macros_clearAll l g _ m1 b1 b2 f1 f2 (v0) (v1) (v3) (v4) (v5) (v6) (v7) (v8) (v9) (v10) (v11) (v12) (v13) (v15) (v16) (v17) (v18)) ⟨(cb_L htt k_155 k_156 k_157 hd_Macros_clearAll ⟨(by decide +kernel), (by decide +kernel)⟩), htt _ k_158, htt _ k_159⟩ ⟨hp.1, va_recv hK hP (ci := 10) (q0 := 1) rfl rfl, hp.2⟩ rfl rfl hl.1 rfl (lv_room (Nat.le_of_ble_eq_true rfl)) d_Second_forget_11 ⟨(by decide +kernel), (by decide +kernel)⟩) (fun w9 H locs hw9 hP hD hS => ?_)
  obtain ⟨fl, fl_2, rfl, h_fl, h_fl_2⟩ := hw9
  refine W.widen (k := 0) (n := 0) (by decide +kernel) (by decide +kernel) ?_
  have hP : va_P g.1 classes [(h0, .inr (8, [x0, x1, x2, .ref t1, .ref m1, .ref l1, x6, x7, x8, x9, x10, x11, x12, x13, x14, x15, x16, x17, x18, x19, x20, x21])), (l1, .inr (11, [w0, w1, w2, .ref b3, w4, w5, w6, w7, w8, w9, w10, w11, w12, w13, w14, w15, w16, w17, w18])), (b3, .inl (g.2 1, 32, .inl f3)), (t1, .inr (9, [u0, u1, .int 0, .int 0, .int 60002, u5, u6, u7, .int 0, u9])), (m1, .inr (10, [v0, v1, .ref b1, v3, .int 0, .int 0, v6, v7, v8, v9, v10, v11, .int 0, v13, .ref b2, v15, .int 0, v17, v18])), (b1, .inl (g.2 1, 512, .inl fl)), (b2, .inl (g.2 1, 2048, .inl fl_2))] H := hP
  have hD : va_D A [(h0, .inr (8, [x0, x1, x2, .ref t1, .ref m1, .ref l1, x6, x7, x8, x9, x10, x11, x12, x13, x14, x15, x16, x17, x18, x19, x20, x21])), (l1, .inr (11, [w0, w1, w2, .ref b3, w4, w5, w6, w7, w8, w9, w10, w11, w12, w13, w14, w15, w16, w17, w18])), (b3, .inl (g.2 1, 32, .inl f3)), (t1, .inr (9, [u0, u1, .int 0, .int 0, .int 60002, u5, u6, u7, .int 0, u9])), (m1, .inr (10, [v0, v1, .ref b1, v3, .int 0, .int 0, v6, v7, v8, v9, v10, v11, .int 0, v13, .ref b2, v15, .int 0, v17, v18])), (b1, .inl (g.2 1, 512, .inl fl)), (b2, .inl (g.2 1, 2048, .inl fl_2))] := hD
  refine lv_aload_n hx hb d_Second_forget_14 rfl (lv_at hl 0 rfl) ?_
  refine va_get (D := g.1) (ci := 8) (v := .ref l1) (C := "MacroMill$Second") (T := F_Second) (N := 22) hx hb htt in_Second hown hK hP 0 rfl rfl 5 (by decide) (htt _ k_160) (fun _ h9 => h9) rfl d_Second_forget_15 ?_
  refine go_v (As := [.ref l1]) (g := g) (A := A) (wc := [(l1, .inr (11, [w0, w1, w2, .ref b3, w4, w5, w6, w7, w8, w9, w10, w11, w12, w13, w14, w15, w16, w17, w18])), (b3, .inl (g.2 1, 32, .inl f3))]) (wr := [(h0, .inr (8, [x0, x1, x2, .ref t1, .ref m1, .ref l1, x6, x7, x8, x9, x10, x11, x12, x13, x14, x15, x16, x17, x18, x19, x20, x21])), (t1, .inr (9, [u0, u1, .int 0, .int 0, .int 60002, u5, u6, u7, .int 0, u9])), (m1, .inr (10, [v0, v1, .ref b1, v3, .int 0, .int 0, v6, v7, v8, v9, v10, v11, .int 0, v13, .ref b2, v15, .int 0, v17, v18])), (b1, .inl (g.2 1, 512, .inl fl)), (b2, .inl (g.2 1, 2048, .inl fl_2))]) [1, 2] [0, 3, 4, 5, 6] rfl rfl rfl rfl (by decide) hP hK hD hS hA hN (fun hp => va_runV (As := []) (rest := []) ⟨hx, hb, hml, hown, htt⟩ (c_Lines_clearAll l g _ l1 b3 f3 (w0) (w1) (w2) (w4) (w5) (w6) (w7) (w8) (w9) (w10) (w11) (w12) (w13) (w14) (w15) (w16) (w17) (w18)) ⟨(cb_L htt k_161 k_162 k_163 hd_Lines_clearAll ⟨(by decide +kernel), (by decide +kernel)⟩), htt _ k_164, htt _ k_165⟩ ⟨hp.1, va_recv hK hP (ci := 11) (q0 := 1) rfl rfl, hp.2⟩ rfl rfl hl.1 rfl (lv_room (Nat.le_of_ble_eq_true rfl)) d_Second_forget_18 ⟨(by decide +kernel), (by decide +kernel)⟩) (fun w9 H locs hw9 hP hD hS => ?_)
  obtain ⟨fl_3, rfl, h_fl_3⟩ := hw9
  refine W.widen (k := 0) (n := 0) (by decide +kernel) (by decide +kernel) ?_
  have hP : va_P g.1 classes [(h0, .inr (8, [x0, x1, x2, .ref t1, .ref m1, .ref l1, x6, x7, x8, x9, x10, x11, x12, x13, x14, x15, x16, x17, x18, x19, x20, x21])), (t1, .inr (9, [u0, u1, .int 0, .int 0, .int 60002, u5, u6, u7, .int 0, u9])), (m1, .inr (10, [v0, v1, .ref b1, v3, .int 0, .int 0, v6, v7, v8, v9, v10, v11, .int 0, v13, .ref b2, v15, .int 0, v17, v18])), (b1, .inl (g.2 1, 512, .inl fl)), (b2, .inl (g.2 1, 2048, .inl fl_2)), (l1, .inr (11, [w0, w1, w2, .ref b3, w4, w5, w6, w7, w8, w9, w10, .int 0, .int 0, .int 0, .int 0, .int 0, .int 0, .int 0, .int 1])), (b3, .inl (g.2 1, 32, .inl fl_3))] H := hP
  have hD : va_D A [(h0, .inr (8, [x0, x1, x2, .ref t1, .ref m1, .ref l1, x6, x7, x8, x9, x10, x11, x12, x13, x14, x15, x16, x17, x18, x19, x20, x21])), (t1, .inr (9, [u0, u1, .int 0, .int 0, .int 60002, u5, u6, u7, .int 0, u9])), (m1, .inr (10, [v0, v1, .ref b1, v3, .int 0, .int 0, v6, v7, v8, v9, v10, v11, .int 0, v13, .ref b2, v15, .int 0, v17, v18])), (b1, .inl (g.2 1, 512, .inl fl)), (b2, .inl (g.2 1, 2048, .inl fl_2)), (l1, .inr (11, [w0, w1, w2, .ref b3, w4, w5, w6, w7, w8, w9, w10, .int 0, .int 0, .int 0, .int 0, .int 0, .int 0, .int 0, .int 1])), (b3, .inl (g.2 1, 32, .inl fl_3))] := hD
  refine lv_aload_n hx hb d_Second_forget_21 rfl (lv_at hl 0 rfl) ?_
  refine lv_iconst (v := 0) hx hb d_Second_forget_22 (by decide) ?_
  show W _ _ _ _ _ _ _ _ _ _ _ _ _ _ _ (F0 _ 23 _ _)
  refine va_put (D := g.1) (ci := 8) (v := .int 0) (ty := t_Second 9) (C := "MacroMill$Second") (T := F_Second) (N := 22) hx hb htt in_Second t_Second t_Second_ok n_Second hown hK hP hD hS 0 rfl rfl 9 (by decide) (htt _ k_166) (fun _ h9 => h9) rfl (t_Second_ok 9 (by decide)) rfl rfl (Nat.le_of_ble_eq_true rfl) d_Second_forget_23 (fun H locs hP hD hS => ?_)
  have hP : va_P g.1 classes [(h0, .inr (8, [x0, x1, x2, .ref t1, .ref m1, .ref l1, x6, x7, x8, .int 0, x10, x11, x12, x13, x14, x15, x16, x17, x18, x19, x20, x21])), (t1, .inr (9, [u0, u1, .int 0, .int 0, .int 60002, u5, u6, u7, .int 0, u9])), (m1, .inr (10, [v0, v1, .ref b1, v3, .int 0, .int 0, v6, v7, v8, v9, v10, v11, .int 0, v13, .ref b2, v15, .int 0, v17, v18])), (b1, .inl (g.2 1, 512, .inl fl)), (b2, .inl (g.2 1, 2048, .inl fl_2)), (l1, .inr (11, [w0, w1, w2, .ref b3, w4, w5, w6, w7, w8, w9, w10, .int 0, .int 0, .int 0, .int 0, .int 0, .int 0, .int 0, .int 1])), (b3, .inl (g.2 1, 32, .inl fl_3))] H := hP
  have hD : va_D A [(h0, .inr (8, [x0, x1, x2, .ref t1, .ref m1, .ref l1, x6, x7, x8, .int 0, x10, x11, x12, x13, x14, x15, x16, x17, x18, x19, x20, x21])), (t1, .inr (9, [u0, u1, .int 0, .int 0, .int 60002, u5, u6, u7, .int 0, u9])), (m1, .inr (10, [v0, v1, .ref b1, v3, .int 0, .int 0, v6, v7, v8, v9, v10, v11, .int 0, v13, .ref b2, v15, .int 0, v17, v18])), (b1, .inl (g.2 1, 512, .inl fl)), (b2, .inl (g.2 1, 2048, .inl fl_2)), (l1, .inr (11, [w0, w1, w2, .ref b3, w4, w5, w6, w7, w8, w9, w10, .int 0, .int 0, .int 0, .int 0, .int 0, .int 0, .int 0, .int 1])), (b3, .inl (g.2 1, 32, .inl fl_3))] := hD
  exact fin_v (g := g) (ws := [(h0, .inr (8, [x0, x1, x2, .ref t1, .ref m1, .ref l1, x6, x7, x8, .int 0, x10, x11, x12, x13, x14, x15, x16, x17, x18, x19, x20, x21])), (t1, .inr (9, [u0, u1, .int 0, .int 0, .int 60002, u5, u6, u7, .int 0, u9])), (m1, .inr (10, [v0, v1, .ref b1, v3, .int 0, .int 0, v6, v7, v8, v9, v10, v11, .int 0, v13, .ref b2, v15, .int 0, v17, v18])), (b1, .inl (g.2 1, 512, .inl fl)), (b2, .inl (g.2 1, 2048, .inl fl_2)), (l1, .inr (11, [w0, w1, w2, .ref b3, w4, w5, w6, w7, w8, w9, w10, .int 0, .int 0, .int 0, .int 0, .int 0, .int 0, .int 0, .int 1])), (b3, .inl (g.2 1, 32, .inl fl_3))]) hx hb hr hlocks (by decide +kernel) (by decide +kernel) hP hD hS ⟨fl, fl_2, fl_3, rfl, h_fl, h_fl_2, h_fl_3⟩ d_Second_forget_26
end
section
abbrev rm_Second_init : Room := { frames := 3, cells := 46, slots := 597308, locals := 63 }
set_option maxHeartbeats 4000000 in
set_option maxRecDepth 100000 in
theorem c_Second_init (l : Launch) (g : gG) (sz : Nat) (h0 : Nat) (o1 : Nat) (o2 : Nat) (o3 : Nat) : Cv l y_Second_init b_Second_init 4 rm_Second_init g [.ref h0, .ref o1, .ref o2, .ref o3] [(h0, .inr (8, [.null, .null, .null, .null, .null, .null, .null, .null, .null, .int 0, .null, .int 0, .int 0, .int 0, .int 0, .int 0, .int 0, .null, .int 0, .int 0, .null, .int 0]))] sz (fun w => ∃ (q5 : Nat) (q16 : Nat) (a8 : Nat) (ab_2 : Nat) (a26 : Nat) (a35 : Nat) (a44 : Nat) (a53 : Nat) (a62 : Nat) (a71 : Nat) (a80 : Nat) (a89 : Nat) (asb : Nat) (a107 : Nat) (a115 : Nat) (a123 : Nat) (a33 : Nat) (a41 : Nat) (a49 : Nat) (a57 : Nat) (a65 : Nat) (q86 : Nat) (q103 : Nat) (fl : Nat → Int32), w = [(h0, .inr (8, [.ref o1, .ref o2, .ref o3, .ref q5, .ref q16, .ref q86, .ref q103, .ref a33, .ref a41, .int 0, .ref a49, .int 0, .int 0, .int 0, .int 0, .int 0, .int 0, .ref a57, .int 0, .int 0, .ref a65, .int 0])), (q16, .inr (10, [.ref q5, .ref a8, .ref ab_2, .ref a26, .int 0, .int 0, .ref a35, .ref a44, .ref a53, .ref a62, .ref a71, .ref a80, .int 0, .ref a89, .ref asb, .ref a107, .int 0, .ref a115, .ref a123])), (ab_2, .inl (g.2 1, 512, .inl fl))] ∧ (∀ j, j < 512 → fl j = (-1))) := by
  refine startV (by decide) (Nat.le_of_ble_eq_true rfl) ?_
  intro p e s m below meth c A ls hx hb hr hml hlocks hmn hown htt hN hA hP hK hD hS hl
  have hin : meth.name = "<init>" := hmn
  have hown : s.vm.findClass "MacroMill$Second" = some m.cls := hown
  have hl : lv_has ls 4 [(0, .ref h0), (1, .ref o1), (2, .ref o2), (3, .ref o3)] := hl
  refine lv_aload_n hx hb d_Second_init_0 rfl (lv_at hl 0 rfl) ?_
  refine W.objInit hx hb hown (htt _ k_167) (htt _ k_1) (htt _ k_2) rfl (by rw [hml]; exact hl.1) rfl d_Second_init_1 (Nat.le_of_ble_eq_true rfl) (Nat.le_of_ble_eq_true rfl) ?_
  refine W.eq (g2 := F0 m 4 ls []) rfl ?_
  refine lv_aload_n hx hb d_Second_init_4 rfl (lv_at hl 0 rfl) ?_
  refine va_new (D := g.1) (ci := 9) (fs := [.null, .null, .int 0, .int 0, .int 0, .null, .null, .null, .int 0, .int 0]) (C := "MacroMill$Tokens") (T := F_Tokens) (N := 10) hx hb htt in_Tokens t_Tokens t_Tokens_ok hown (htt _ k_168) (htt _ k_169) (htt _ k_150) hK hP hD hS hA rfl z_Tokens (by decide +kernel) (by decide +kernel) d_Second_init_5 (fun q5 H hP hD hS => ?_)
  refine W.widen (k := 1) (n := 10) (by decide +kernel) (by decide +kernel) ?_
  have hP : va_P g.1 classes [(h0, .inr (8, [.null, .null, .null, .null, .null, .null, .null, .null, .null, .int 0, .null, .int 0, .int 0, .int 0, .int 0, .int 0, .int 0, .null, .int 0, .int 0, .null, .int 0])), (q5, .inr (9, [.null, .null, .int 0, .int 0, .int 0, .null, .null, .null, .int 0, .int 0]))] H := hP
  have hD : va_D A [(h0, .inr (8, [.null, .null, .null, .null, .null, .null, .null, .null, .null, .int 0, .null, .int 0, .int 0, .int 0, .int 0, .int 0, .int 0, .null, .int 0, .int 0, .null, .int 0])), (q5, .inr (9, [.null, .null, .int 0, .int 0, .int 0, .null, .null, .null, .int 0, .int 0]))] := hD
  refine lv_dup hx hb d_Second_init_8 rfl ?_
  refine go_v (As := [.ref q5]) (g := g) (A := A) (wc := [(q5, .inr (9, [.null, .null, .int 0, .int 0, .int 0, .null, .null, .null, .int 0, .int 0]))]) (wr := [(h0, .inr (8, [.null, .null, .null, .null, .null, .null, .null, .null, .null, .int 0, .null, .int 0, .int 0, .int 0, .int 0, .int 0, .int 0, .null, .int 0, .int 0, .null, .int 0]))]) [1] [0] rfl rfl rfl rfl (by decide) hP hK hD hS hA hN (fun hp => va_runI (As := []) (rest := [.ref q5, .ref h0]) ⟨hx, hb, hml, hown, htt⟩ (c_Tokens_init l g _ q5) ⟨(cb_L htt k_170 k_150 k_171 hd_Tokens_init ⟨(by decide +kernel), (by decide +kernel)⟩), rfl, htt _ k_172⟩ hp rfl rfl hl.1 rfl (lv_room (Nat.le_of_ble_eq_true rfl)) d_Second_init_9 ⟨(by decide +kernel), (by decide +kernel)⟩) (fun w9 H locs hw9 hP hD hS => ?_)
  obtain ⟨ab, a15, a23, a31, a39, rfl⟩ := hw9
  refine W.widen (k := 6) (n := 553436) (by decide +kernel) (by decide +kernel) ?_
  have hP : va_P g.1 classes [(h0, .inr (8, [.null, .null, .null, .null, .null, .null, .null, .null, .null, .int 0, .null, .int 0, .int 0, .int 0, .int 0, .int 0, .int 0, .null, .int 0, .int 0, .null, .int 0])), (q5, .inr (9, [.ref ab, .ref a15, .int 0, .int 0, .int 0, .ref a23, .ref a31, .ref a39, .int 0, .int 0]))] H := hP
  have hD : va_D A [(h0, .inr (8, [.null, .null, .null, .null, .null, .null, .null, .null, .null, .int 0, .null, .int 0, .int 0, .int 0, .int 0, .int 0, .int 0, .null, .int 0, .int 0, .null, .int 0])), (q5, .inr (9, [.ref ab, .ref a15, .int 0, .int 0, .int 0, .ref a23, .ref a31, .ref a39, .int 0, .int 0]))] := hD
  refine va_putF (D := g.1) (ci := 8) (v := .ref q5) (ty := t_Second 3) (C := "MacroMill$Second") (T := F_Second) (N := 22) hx hb htt in_Second t_Second t_Second_ok n_Second hown hK hP hD hS 0 rfl rfl 3 (by decide) (htt _ k_148) (fun _ h9 => h9) rfl hin rfl (t_Second_ok 3 (by decide)) rfl rfl (Nat.le_of_ble_eq_true rfl) d_Second_init_12 (fun H locs hP hD hS => ?_)
  have hP : va_P g.1 classes [(h0, .inr (8, [.null, .null, .null, .ref q5, .null, .null, .null, .null, .null, .int 0, .null, .int 0, .int 0, .int 0, .int 0, .int 0, .int 0, .null, .int 0, .int 0, .null, .int 0])), (q5, .inr (9, [.ref ab, .ref a15, .int 0, .int 0, .int 0, .ref a23, .ref a31, .ref a39, .int 0, .int 0]))] H := hP
  have hD : va_D A [(h0, .inr (8, [.null, .null, .null, .ref q5, .null, .null, .null, .null, .null, .int 0, .null, .int 0, .int 0, .int 0, .int 0, .int 0, .int 0, .null, .int 0, .int 0, .null, .int 0])), (q5, .inr (9, [.ref ab, .ref a15, .int 0, .int 0, .int 0, .ref a23, .ref a31, .ref a39, .int 0, .int 0]))] := hD
  refine lv_aload_n hx hb d_Second_init_15 rfl (lv_at hl 0 rfl) ?_
  refine va_new (D := g.1) (ci := 10) (fs := [.null, .null, .null, .null, .int 0, .int 0, .null, .null, .null, .null, .null, .null, .int 0, .null, .null, .null, .int 0, .null, .null]) (C := "MacroMill$Macros") (T := F_Macros) (N := 19) hx hb htt in_Macros t_Macros t_Macros_ok hown (htt _ k_173) (htt _ k_174) (htt _ k_156) hK hP hD hS hA rfl z_Macros (by decide +kernel) (by decide +kernel) d_Second_init_16 (fun q16 H hP hD hS => ?_)
  refine W.widen (k := 7) (n := 553455) (by decide +kernel) (by decide +kernel) ?_
  have hP : va_P g.1 classes [(h0, .inr (8, [.null, .null, .null, .ref q5, .null, .null, .null, .null, .null, .int 0, .null, .int 0, .int 0, .int 0, .int 0, .int 0, .int 0, .null, .int 0, .int 0, .null, .int 0])), (q5, .inr (9, [.ref ab, .ref a15, .int 0, .int 0, .int 0, .ref a23, .ref a31, .ref a39, .int 0, .int 0])), (q16, .inr (10, [.null, .null, .null, .null, .int 0, .int 0, .null, .null, .null, .null, .null, .null, .int 0, .null, .null, .null, .int 0, .null, .null]))] H := hP
  have hD : va_D A [(h0, .inr (8, [.null, .null, .null, .ref q5, .null, .null, .null, .null, .null, .int 0, .null, .int 0, .int 0, .int 0, .int 0, .int 0, .int 0, .null, .int 0, .int 0, .null, .int 0])), (q5, .inr (9, [.ref ab, .ref a15, .int 0, .int 0, .int 0, .ref a23, .ref a31, .ref a39, .int 0, .int 0])), (q16, .inr (10, [.null, .null, .null, .null, .int 0, .int 0, .null, .null, .null, .null, .null, .null, .int 0, .null, .null, .null, .int 0, .null, .null]))] := hD
  refine lv_dup hx hb d_Second_init_19 rfl ?_
  refine lv_aload_n hx hb d_Second_init_20 rfl (lv_at hl 0 rfl) ?_
  show W _ _ _ _ _ _ _ _ _ _ _ _ _ _ _ (F0 _ 21 _ _)
  refine va_get (D := g.1) (ci := 8) (v := .ref q5) (C := "MacroMill$Second") (T := F_Second) (N := 22) hx hb htt in_Second hown hK hP 0 rfl rfl 3 (by decide) (htt _ k_148) (fun _ h9 => h9) rfl d_Second_init_21 ?_
  refine go_v (As := [.ref q16, .ref q5]) (g := g) (A := A) (wc := [(q16, .inr (10, [.null, .null, .null, .null, .int 0, .int 0, .null, .null, .null, .null, .null, .null, .int 0, .null, .null, .null, .int 0, .null, .null]))]) (wr := [(h0, .inr (8, [.null, .null, .null, .ref q5, .null, .null, .null, .null, .null, .int 0, .null, .int 0, .int 0, .int 0, .int 0, .int 0, .int 0, .null, .int 0, .int 0, .null, .int 0])), (q5, .inr (9, [.ref ab, .ref a15, .int 0, .int 0, .int 0, .ref a23, .ref a31, .ref a39, .int 0, .int 0]))]) [2] [0, 1] rfl rfl rfl rfl (by decide) hP hK hD hS hA hN (fun hp => va_runI (As := [.ref q5]) (rest := [.ref q16, .ref h0]) ⟨hx, hb, hml, hown, htt⟩ (c_Macros_init l g _ q16 q5) ⟨(cb_L htt k_175 k_156 k_176 hd_Macros_init ⟨(by decide +kernel), (by decide +kernel)⟩), rfl, htt _ k_177⟩ hp rfl rfl hl.1 rfl (lv_room (Nat.le_of_ble_eq_true rfl)) d_Second_init_24 ⟨(by decide +kernel), (by decide +kernel)⟩) (fun w9 H locs hw9 hP hD hS => ?_)
  obtain ⟨a8, ab_2, a26, a35, a44, a53, a62, a71, a80, a89, asb, a107, a115, a123, rfl⟩ := hw9
  refine W.widen (k := 21) (n := 582437) (by decide +kernel) (by decide +kernel) ?_
  have hP : va_P g.1 classes [(h0, .inr (8, [.null, .null, .null, .ref q5, .null, .null, .null, .null, .null, .int 0, .null, .int 0, .int 0, .int 0, .int 0, .int 0, .int 0, .null, .int 0, .int 0, .null, .int 0])), (q5, .inr (9, [.ref ab, .ref a15, .int 0, .int 0, .int 0, .ref a23, .ref a31, .ref a39, .int 0, .int 0])), (q16, .inr (10, [.ref q5, .ref a8, .ref ab_2, .ref a26, .int 0, .int 0, .ref a35, .ref a44, .ref a53, .ref a62, .ref a71, .ref a80, .int 0, .ref a89, .ref asb, .ref a107, .int 0, .ref a115, .ref a123])), (ab_2, .inl (g.2 1, 512, .inl (fun _ => 0))), (asb, .inl (g.2 1, 2048, .inl (fun _ => 0)))] H := hP
  have hD : va_D A [(h0, .inr (8, [.null, .null, .null, .ref q5, .null, .null, .null, .null, .null, .int 0, .null, .int 0, .int 0, .int 0, .int 0, .int 0, .int 0, .null, .int 0, .int 0, .null, .int 0])), (q5, .inr (9, [.ref ab, .ref a15, .int 0, .int 0, .int 0, .ref a23, .ref a31, .ref a39, .int 0, .int 0])), (q16, .inr (10, [.ref q5, .ref a8, .ref ab_2, .ref a26, .int 0, .int 0, .ref a35, .ref a44, .ref a53, .ref a62, .ref a71, .ref a80, .int 0, .ref a89, .ref asb, .ref a107, .int 0, .ref a115, .ref a123])), (ab_2, .inl (g.2 1, 512, .inl (fun _ => 0))), (asb, .inl (g.2 1, 2048, .inl (fun _ => 0)))] := hD
  refine va_putF (D := g.1) (ci := 8) (v := .ref q16) (ty := t_Second 4) (C := "MacroMill$Second") (T := F_Second) (N := 22) hx hb htt in_Second t_Second t_Second_ok n_Second hown hK hP hD hS 0 rfl rfl 4 (by decide) (htt _ k_154) (fun _ h9 => h9) rfl hin rfl (t_Second_ok 4 (by decide)) rfl rfl (Nat.le_of_ble_eq_true rfl) d_Second_init_27 (fun H locs hP hD hS => ?_)
  have hP : va_P g.1 classes [(h0, .inr (8, [.null, .null, .null, .ref q5, .ref q16, .null, .null, .null, .null, .int 0, .null, .int 0, .int 0, .int 0, .int 0, .int 0, .int 0, .null, .int 0, .int 0, .null, .int 0])), (q5, .inr (9, [.ref ab, .ref a15, .int 0, .int 0, .int 0, .ref a23, .ref a31, .ref a39, .int 0, .int 0])), (q16, .inr (10, [.ref q5, .ref a8, .ref ab_2, .ref a26, .int 0, .int 0, .ref a35, .ref a44, .ref a53, .ref a62, .ref a71, .ref a80, .int 0, .ref a89, .ref asb, .ref a107, .int 0, .ref a115, .ref a123])), (ab_2, .inl (g.2 1, 512, .inl (fun _ => 0))), (asb, .inl (g.2 1, 2048, .inl (fun _ => 0)))] H := hP
  have hD : va_D A [(h0, .inr (8, [.null, .null, .null, .ref q5, .ref q16, .null, .null, .null, .null, .int 0, .null, .int 0, .int 0, .int 0, .int 0, .int 0, .int 0, .null, .int 0, .int 0, .null, .int 0])), (q5, .inr (9, [.ref ab, .ref a15, .int 0, .int 0, .int 0, .ref a23, .ref a31, .ref a39, .int 0, .int 0])), (q16, .inr (10, [.ref q5, .ref a8, .ref ab_2, .ref a26, .int 0, .int 0, .ref a35, .ref a44, .ref a53, .ref a62, .ref a71, .ref a80, .int 0, .ref a89, .ref asb, .ref a107, .int 0, .ref a115, .ref a123])), (ab_2, .inl (g.2 1, 512, .inl (fun _ => 0))), (asb, .inl (g.2 1, 2048, .inl (fun _ => 0)))] := hD
  refine lv_aload_n hx hb d_Second_init_30 rfl (lv_at hl 0 rfl) ?_
  refine lv_bipush (v := 100) hx hb d_Second_init_31 (by decide) ?_
  refine nea0 (g := g) (A := A) (atype := .int) (ty := .int) (a0 := (100, .inl (fun _ => 0))) (N' := 100) hx hb htt 1 rfl no_int k_7 rfl hK hP hD hS hA (a0_int 100) (by decide +kernel) (by decide +kernel) (by decide +kernel) (by decide +kernel) (by decide +kernel) d_Second_init_33 (fun a33 H hP hD hS => ?_)
  refine W.widen (k := 22) (n := 582537) (by decide +kernel) (by decide +kernel) ?_
  refine va_putF (D := g.1) (ci := 8) (v := .ref a33) (ty := t_Second 7) (C := "MacroMill$Second") (T := F_Second) (N := 22) hx hb htt in_Second t_Second t_Second_ok n_Second hown hK hP hD hS 0 rfl rfl 7 (by decide) (htt _ k_178) (fun _ h9 => h9) rfl hin rfl (t_Second_ok 7 (by decide)) rfl rfl (Nat.le_of_ble_eq_true rfl) d_Second_init_35 (fun H locs hP hD hS => ?_)
  have hP : va_P g.1 classes [(h0, .inr (8, [.null, .null, .null, .ref q5, .ref q16, .null, .null, .ref a33, .null, .int 0, .null, .int 0, .int 0, .int 0, .int 0, .int 0, .int 0, .null, .int 0, .int 0, .null, .int 0])), (q5, .inr (9, [.ref ab, .ref a15, .int 0, .int 0, .int 0, .ref a23, .ref a31, .ref a39, .int 0, .int 0])), (q16, .inr (10, [.ref q5, .ref a8, .ref ab_2, .ref a26, .int 0, .int 0, .ref a35, .ref a44, .ref a53, .ref a62, .ref a71, .ref a80, .int 0, .ref a89, .ref asb, .ref a107, .int 0, .ref a115, .ref a123])), (ab_2, .inl (g.2 1, 512, .inl (fun _ => 0))), (asb, .inl (g.2 1, 2048, .inl (fun _ => 0)))] H := hP
  have hD : va_D A [(h0, .inr (8, [.null, .null, .null, .ref q5, .ref q16, .null, .null, .ref a33, .null, .int 0, .null, .int 0, .int 0, .int 0, .int 0, .int 0, .int 0, .null, .int 0, .int 0, .null, .int 0])), (q5, .inr (9, [.ref ab, .ref a15, .int 0, .int 0, .int 0, .ref a23, .ref a31, .ref a39, .int 0, .int 0])), (q16, .inr (10, [.ref q5, .ref a8, .ref ab_2, .ref a26, .int 0, .int 0, .ref a35, .ref a44, .ref a53, .ref a62, .ref a71, .ref a80, .int 0, .ref a89, .ref asb, .ref a107, .int 0, .ref a115, .ref a123])), (ab_2, .inl (g.2 1, 512, .inl (fun _ => 0))), (asb, .inl (g.2 1, 2048, .inl (fun _ => 0)))] := hD
  refine lv_aload_n hx hb d_Second_init_38 rfl (lv_at hl 0 rfl) ?_
  refine lv_bipush (v := 100) hx hb d_Second_init_39 (by decide) ?_
  refine nea0 (g := g) (A := A) (atype := .int) (ty := .int) (a0 := (100, .inl (fun _ => 0))) (N' := 100) hx hb htt 1 rfl no_int k_7 rfl hK hP hD hS hA (a0_int 100) (by decide +kernel) (by decide +kernel) (by decide +kernel) (by decide +kernel) (by decide +kernel) d_Second_init_41 (fun a41 H hP hD hS => ?_)
  refine W.widen (k := 23) (n := 582637) (by decide +kernel) (by decide +kernel) ?_
  refine va_putF (D := g.1) (ci := 8) (v := .ref a41) (ty := t_Second 8) (C := "MacroMill$Second") (T := F_Second) (N := 22) hx hb htt in_Second t_Second t_Second_ok n_Second hown hK hP hD hS 0 rfl rfl 8 (by decide) (htt _ k_179) (fun _ h9 => h9) rfl hin rfl (t_Second_ok 8 (by decide)) rfl rfl (Nat.le_of_ble_eq_true rfl) d_Second_init_43 (fun H locs hP hD hS => ?_)
  have hP : va_P g.1 classes [(h0, .inr (8, [.null, .null, .null, .ref q5, .ref q16, .null, .null, .ref a33, .ref a41, .int 0, .null, .int 0, .int 0, .int 0, .int 0, .int 0, .int 0, .null, .int 0, .int 0, .null, .int 0])), (q5, .inr (9, [.ref ab, .ref a15, .int 0, .int 0, .int 0, .ref a23, .ref a31, .ref a39, .int 0, .int 0])), (q16, .inr (10, [.ref q5, .ref a8, .ref ab_2, .ref a26, .int 0, .int 0, .ref a35, .ref a44, .ref a53, .ref a62, .ref a71, .ref a80, .int 0, .ref a89, .ref asb, .ref a107, .int 0, .ref a115, .ref a123])), (ab_2, .inl (g.2 1, 512, .inl (fun _ => 0))), (asb, .inl (g.2 1, 2048, .inl (fun _ => 0)))] H := hP
  have hD : va_D A [(h0, .inr (8, [.null, .null, .null, .ref q5, .ref q16, .null, .null, .ref a33, .ref a41, .int 0, .null, .int 0, .int 0, .int 0, .int 0, .int 0, .int 0, .null, .int 0, .int 0, .null, .int 0])), (q5, .inr (9, [.ref ab, .ref a15, .int 0, .int 0, .int 0, .ref a23, .ref a31, .ref a39, .int 0, .int 0])), (q16, .inr (10, [.ref q5, .ref a8, .ref ab_2, .ref a26, .int 0, .int 0, .ref a35, .ref a44, .ref a53, .ref a62, .ref a71, .ref a80, .int 0, .ref a89, .ref asb, .ref a107, .int 0, .ref a115, .ref a123])), (ab_2, .inl (g.2 1, 512, .inl (fun _ => 0))), (asb, .inl (g.2 1, 2048, .inl (fun _ => 0)))] := hD
  refine lv_aload_n hx hb d_Second_init_46 rfl (lv_at hl 0 rfl) ?_
  show W _ _ _ _ _ _ _ _ _ _ _ _ _ _ _ (F0 _ 47 _ _)
  refine lv_bipush (v := 22) hx hb d_Second_init_47 (by decide) ?_
  refine nea0 (g := g) (A := A) (atype := .int) (ty := .int) (a0 := (22, .inl (fun _ => 0))) (N' := 22) hx hb htt 1 rfl no_int k_7 rfl hK hP hD hS hA (a0_int 22) (by decide +kernel) (by decide +kernel) (by decide +kernel) (by decide +kernel) (by decide +kernel) d_Second_init_49 (fun a49 H hP hD hS => ?_)
  refine W.widen (k := 24) (n := 582659) (by decide +kernel) (by decide +kernel) ?_
  refine va_putF (D := g.1) (ci := 8) (v := .ref a49) (ty := t_Second 10) (C := "MacroMill$Second") (T := F_Second) (N := 22) hx hb htt in_Second t_Second t_Second_ok n_Second hown hK hP hD hS 0 rfl rfl 10 (by decide) (htt _ k_180) (fun _ h9 => h9) rfl hin rfl (t_Second_ok 10 (by decide)) rfl rfl (Nat.le_of_ble_eq_true rfl) d_Second_init_51 (fun H locs hP hD hS => ?_)
  have hP : va_P g.1 classes [(h0, .inr (8, [.null, .null, .null, .ref q5, .ref q16, .null, .null, .ref a33, .ref a41, .int 0, .ref a49, .int 0, .int 0, .int 0, .int 0, .int 0, .int 0, .null, .int 0, .int 0, .null, .int 0])), (q5, .inr (9, [.ref ab, .ref a15, .int 0, .int 0, .int 0, .ref a23, .ref a31, .ref a39, .int 0, .int 0])), (q16, .inr (10, [.ref q5, .ref a8, .ref ab_2, .ref a26, .int 0, .int 0, .ref a35, .ref a44, .ref a53, .ref a62, .ref a71, .ref a80, .int 0, .ref a89, .ref asb, .ref a107, .int 0, .ref a115, .ref a123])), (ab_2, .inl (g.2 1, 512, .inl (fun _ => 0))), (asb, .inl (g.2 1, 2048, .inl (fun _ => 0)))] H := hP
  have hD : va_D A [(h0, .inr (8, [.null, .null, .null, .ref q5, .ref q16, .null, .null, .ref a33, .ref a41, .int 0, .ref a49, .int 0, .int 0, .int 0, .int 0, .int 0, .int 0, .null, .int 0, .int 0, .null, .int 0])), (q5, .inr (9, [.ref ab, .ref a15, .int 0, .int 0, .int 0, .ref a23, .ref a31, .ref a39, .int 0, .int 0])), (q16, .inr (10, [.ref q5, .ref a8, .ref ab_2, .ref a26, .int 0, .int 0, .ref a35, .ref a44, .ref a53, .ref a62, .ref a71, .ref a80, .int 0, .ref a89, .ref asb, .ref a107, .int 0, .ref a115, .ref a123])), (ab_2, .inl (g.2 1, 512, .inl (fun _ => 0))), (asb, .inl (g.2 1, 2048, .inl (fun _ => 0)))] := hD
  refine lv_aload_n hx hb d_Second_init_54 rfl (lv_at hl 0 rfl) ?_
  refine lv_bipush (v := 30) hx hb d_Second_init_55 (by decide) ?_
  refine nea0 (g := g) (A := A) (atype := .int) (ty := .int) (a0 := (30, .inl (fun _ => 0))) (N' := 30) hx hb htt 1 rfl no_int k_7 rfl hK hP hD hS hA (a0_int 30) (by decide +kernel) (by decide +kernel) (by decide +kernel) (by decide +kernel) (by decide +kernel) d_Second_init_57 (fun a57 H hP hD hS => ?_)
  refine W.widen (k := 25) (n := 582689) (by decide +kernel) (by decide +kernel) ?_
  refine va_putF (D := g.1) (ci := 8) (v := .ref a57) (ty := t_Second 17) (C := "MacroMill$Second") (T := F_Second) (N := 22) hx hb htt in_Second t_Second t_Second_ok n_Second hown hK hP hD hS 0 rfl rfl 17 (by decide) (htt _ k_181) (fun _ h9 => h9) rfl hin rfl (t_Second_ok 17 (by decide)) rfl rfl (Nat.le_of_ble_eq_true rfl) d_Second_init_59 (fun H locs hP hD hS => ?_)
  have hP : va_P g.1 classes [(h0, .inr (8, [.null, .null, .null, .ref q5, .ref q16, .null, .null, .ref a33, .ref a41, .int 0, .ref a49, .int 0, .int 0, .int 0, .int 0, .int 0, .int 0, .ref a57, .int 0, .int 0, .null, .int 0])), (q5, .inr (9, [.ref ab, .ref a15, .int 0, .int 0, .int 0, .ref a23, .ref a31, .ref a39, .int 0, .int 0])), (q16, .inr (10, [.ref q5, .ref a8, .ref ab_2, .ref a26, .int 0, .int 0, .ref a35, .ref a44, .ref a53, .ref a62, .ref a71, .ref a80, .int 0, .ref a89, .ref asb, .ref a107, .int 0, .ref a115, .ref a123])), (ab_2, .inl (g.2 1, 512, .inl (fun _ => 0))), (asb, .inl (g.2 1, 2048, .inl (fun _ => 0)))] H := hP
  have hD : va_D A [(h0, .inr (8, [.null, .null, .null, .ref q5, .ref q16, .null, .null, .ref a33, .ref a41, .int 0, .ref a49, .int 0, .int 0, .int 0, .int 0, .int 0, .int 0, .ref a57, .int 0, .int 0, .null, .int 0])), (q5, .inr (9, [.ref ab, .ref a15, .int 0, .int 0, .int 0, .ref a23, .ref a31, .ref a39, .int 0, .int 0])), (q16, .inr (10, [.ref q5, .ref a8, .ref ab_2, .ref a26, .int 0, .int 0, .ref a35, .ref a44, .ref a53, .ref a62, .ref a71, .ref a80, .int 0, .ref a89, .ref asb, .ref a107, .int 0, .ref a115, .ref a123])), (ab_2, .inl (g.2 1, 512, .inl (fun _ => 0))), (asb, .inl (g.2 1, 2048, .inl (fun _ => 0)))] := hD
  refine lv_aload_n hx hb d_Second_init_62 rfl (lv_at hl 0 rfl) ?_
  refine lv_bipush (v := 64) hx hb d_Second_init_63 (by decide) ?_
  refine nea0 (g := g) (A := A) (atype := .byte) (ty := .byte) (a0 := (64, .inl (fun _ => 0))) (N' := 64) hx hb htt 0 rfl no_byte k_4 rfl hK hP hD hS hA (a0_byte 64) (by decide +kernel) (by decide +kernel) (by decide +kernel) (by decide +kernel) (by decide +kernel) d_Second_init_65 (fun a65 H hP hD hS => ?_)
  refine W.widen (k := 26) (n := 582753) (by decide +kernel) (by decide +kernel) ?_
  refine va_putF (D := g.1) (ci := 8) (v := .ref a65) (ty := t_Second 20) (C := "MacroMill$Second") (T := F_Second) (N := 22) hx hb htt in_Second t_Second t_Second_ok n_Second hown hK hP hD hS 0 rfl rfl 20 (by decide) (htt _ k_182) (fun _ h9 => h9) rfl hin rfl (t_Second_ok 20 (by decide)) rfl rfl (Nat.le_of_ble_eq_true rfl) d_Second_init_67 (fun H locs hP hD hS => ?_)
  have hP : va_P g.1 classes [(h0, .inr (8, [.null, .null, .null, .ref q5, .ref q16, .null, .null, .ref a33, .ref a41, .int 0, .ref a49, .int 0, .int 0, .int 0, .int 0, .int 0, .int 0, .ref a57, .int 0, .int 0, .ref a65, .int 0])), (q5, .inr (9, [.ref ab, .ref a15, .int 0, .int 0, .int 0, .ref a23, .ref a31, .ref a39, .int 0, .int 0])), (q16, .inr (10, [.ref q5, .ref a8, .ref ab_2, .ref a26, .int 0, .int 0, .ref a35, .ref a44, .ref a53, .ref a62, .ref a71, .ref a80, .int 0, .ref a89, .ref asb, .ref a107, .int 0, .ref a115, .ref a123])), (ab_2, .inl (g.2 1, 512, .inl (fun _ => 0))), (asb, .inl (g.2 1, 2048, .inl (fun _ => 0)))] H := hP
  have hD : va_D A [(h0, .inr (8, [.null, .null, .null, .ref q5, .ref q16, .null, .null, .ref a33, .ref a41, .int 0, .ref a49, .int 0, .int 0, .int 0, .int 0, .int 0, .int 0, .ref a57, .int 0, .int 0, .ref a65, .int 0])), (q5, .inr (9, [.ref ab, .ref a15, .int 0, .int 0, .int 0, .ref a23, .ref a31, .ref a39, .int 0, .int 0])), (q16, .inr (10, [.ref q5, .ref a8, .ref ab_2, .ref a26, .int 0, .int 0, .ref a35, .ref a44, .ref a53, .ref a62, .ref a71, .ref a80, .int 0, .ref a89, .ref asb, .ref a107, .int 0, .ref a115, .ref a123])), (ab_2, .inl (g.2 1, 512, .inl (fun _ => 0))), (asb, .inl (g.2 1, 2048, .inl (fun _ => 0)))] := hD
  refine lv_aload_n hx hb d_Second_init_70 rfl (lv_at hl 0 rfl) ?_
  show W _ _ _ _ _ _ _ _ _ _ _ _ _ _ _ (F0 _ 71 _ _)
  refine lv_aload_n hx hb d_Second_init_71 rfl (lv_at hl 1 rfl) ?_
  refine va_putF (D := g.1) (ci := 8) (v := .ref o1) (ty := t_Second 0) (C := "MacroMill$Second") (T := F_Second) (N := 22) hx hb htt in_Second t_Second t_Second_ok n_Second hown hK hP hD hS 0 rfl rfl 0 (by decide) (htt _ k_183) (fun _ h9 => h9) rfl hin rfl (t_Second_ok 0 (by decide)) rfl rfl (Nat.le_of_ble_eq_true rfl) d_Second_init_72 (fun H locs hP hD hS => ?_)
  have hP : va_P g.1 classes [(h0, .inr (8, [.ref o1, .null, .null, .ref q5, .ref q16, .null, .null, .ref a33, .ref a41, .int 0, .ref a49, .int 0, .int 0, .int 0, .int 0, .int 0, .int 0, .ref a57, .int 0, .int 0, .ref a65, .int 0])), (q5, .inr (9, [.ref ab, .ref a15, .int 0, .int 0, .int 0, .ref a23, .ref a31, .ref a39, .int 0, .int 0])), (q16, .inr (10, [.ref q5, .ref a8, .ref ab_2, .ref a26, .int 0, .int 0, .ref a35, .ref a44, .ref a53, .ref a62, .ref a71, .ref a80, .int 0, .ref a89, .ref asb, .ref a107, .int 0, .ref a115, .ref a123])), (ab_2, .inl (g.2 1, 512, .inl (fun _ => 0))), (asb, .inl (g.2 1, 2048, .inl (fun _ => 0)))] H := hP
  have hD : va_D A [(h0, .inr (8, [.ref o1, .null, .null, .ref q5, .ref q16, .null, .null, .ref a33, .ref a41, .int 0, .ref a49, .int 0, .int 0, .int 0, .int 0, .int 0, .int 0, .ref a57, .int 0, .int 0, .ref a65, .int 0])), (q5, .inr (9, [.ref ab, .ref a15, .int 0, .int 0, .int 0, .ref a23, .ref a31, .ref a39, .int 0, .int 0])), (q16, .inr (10, [.ref q5, .ref a8, .ref ab_2, .ref a26, .int 0, .int 0, .ref a35, .ref a44, .ref a53, .ref a62, .ref a71, .ref a80, .int 0, .ref a89, .ref asb, .ref a107, .int 0, .ref a115, .ref a123])), (ab_2, .inl (g.2 1, 512, .inl (fun _ => 0))), (asb, .inl (g.2 1, 2048, .inl (fun _ => 0)))] := hD
  refine lv_aload_n hx hb d_Second_init_75 rfl (lv_at hl 0 rfl) ?_
  refine lv_aload_n hx hb d_Second_init_76 rfl (lv_at hl 2 rfl) ?_
  refine va_putF (D := g.1) (ci := 8) (v := .ref o2) (ty := t_Second 1) (C := "MacroMill$Second") (T := F_Second) (N := 22) hx hb htt in_Second t_Second t_Second_ok n_Second hown hK hP hD hS 0 rfl rfl 1 (by decide) (htt _ k_184) (fun _ h9 => h9) rfl hin rfl (t_Second_ok 1 (by decide)) rfl rfl (Nat.le_of_ble_eq_true rfl) d_Second_init_77 (fun H locs hP hD hS => ?_)
  have hP : va_P g.1 classes [(h0, .inr (8, [.ref o1, .ref o2, .null, .ref q5, .ref q16, .null, .null, .ref a33, .ref a41, .int 0, .ref a49, .int 0, .int 0, .int 0, .int 0, .int 0, .int 0, .ref a57, .int 0, .int 0, .ref a65, .int 0])), (q5, .inr (9, [.ref ab, .ref a15, .int 0, .int 0, .int 0, .ref a23, .ref a31, .ref a39, .int 0, .int 0])), (q16, .inr (10, [.ref q5, .ref a8, .ref ab_2, .ref a26, .int 0, .int 0, .ref a35, .ref a44, .ref a53, .ref a62, .ref a71, .ref a80, .int 0, .ref a89, .ref asb, .ref a107, .int 0, .ref a115, .ref a123])), (ab_2, .inl (g.2 1, 512, .inl (fun _ => 0))), (asb, .inl (g.2 1, 2048, .inl (fun _ => 0)))] H := hP
  have hD : va_D A [(h0, .inr (8, [.ref o1, .ref o2, .null, .ref q5, .ref q16, .null, .null, .ref a33, .ref a41, .int 0, .ref a49, .int 0, .int 0, .int 0, .int 0, .int 0, .int 0, .ref a57, .int 0, .int 0, .ref a65, .int 0])), (q5, .inr (9, [.ref ab, .ref a15, .int 0, .int 0, .int 0, .ref a23, .ref a31, .ref a39, .int 0, .int 0])), (q16, .inr (10, [.ref q5, .ref a8, .ref ab_2, .ref a26, .int 0, .int 0, .ref a35, .ref a44, .ref a53, .ref a62, .ref a71, .ref a80, .int 0, .ref a89, .ref asb, .ref a107, .int 0, .ref a115, .ref a123])), (ab_2, .inl (g.2 1, 512, .inl (fun _ => 0))), (asb, .inl (g.2 1, 2048, .inl (fun _ => 0)))] := hD
  refine lv_aload_n hx hb d_Second_init_80 rfl (lv_at hl 0 rfl) ?_
  refine lv_aload_n hx hb d_Second_init_81 rfl (lv_at hl 3 rfl) ?_
  refine va_putF (D := g.1) (ci := 8) (v := .ref o3) (ty := t_Second 2) (C := "MacroMill$Second") (T := F_Second) (N := 22) hx hb htt in_Second t_Second t_Second_ok n_Second hown hK hP hD hS 0 rfl rfl 2 (by decide) (htt _ k_185) (fun _ h9 => h9) rfl hin rfl (t_Second_ok 2 (by decide)) rfl rfl (Nat.le_of_ble_eq_true rfl) d_Second_init_82 (fun H locs hP hD hS => ?_)
  have hP : va_P g.1 classes [(h0, .inr (8, [.ref o1, .ref o2, .ref o3, .ref q5, .ref q16, .null, .null, .ref a33, .ref a41, .int 0, .ref a49, .int 0, .int 0, .int 0, .int 0, .int 0, .int 0, .ref a57, .int 0, .int 0, .ref a65, .int 0])), (q5, .inr (9, [.ref ab, .ref a15, .int 0, .int 0, .int 0, .ref a23, .ref a31, .ref a39, .int 0, .int 0])), (q16, .inr (10, [.ref q5, .ref a8, .ref ab_2, .ref a26, .int 0, .int 0, .ref a35, .ref a44, .ref a53, .ref a62, .ref a71, .ref a80, .int 0, .ref a89, .ref asb, .ref a107, .int 0, .ref a115, .ref a123])), (ab_2, .inl (g.2 1, 512, .inl (fun _ => 0))), (asb, .inl (g.2 1, 2048, .inl (fun _ => 0)))] H := hP
  have hD : va_D A [(h0, .inr (8, [.ref o1, .ref o2, .ref o3, .ref q5, .ref q16, .null, .null, .ref a33, .ref a41, .int 0, .ref a49, .int 0, .int 0, .int 0, .int 0, .int 0, .int 0, .ref a57, .int 0, .int 0, .ref a65, .int 0])), (q5, .inr (9, [.ref ab, .ref a15, .int 0, .int 0, .int 0, .ref a23, .ref a31, .ref a39, .int 0, .int 0])), (q16, .inr (10, [.ref q5, .ref a8, .ref ab_2, .ref a26, .int 0, .int 0, .ref a35, .ref a44, .ref a53, .ref a62, .ref a71, .ref a80, .int 0, .ref a89, .ref asb, .ref a107, .int 0, .ref a115, .ref a123])), (ab_2, .inl (g.2 1, 512, .inl (fun _ => 0))), (asb, .inl (g.2 1, 2048, .inl (fun _ => 0)))] := hD
  refine lv_aload_n hx hb d_Second_init_85 rfl (lv_at hl 0 rfl) ?_
  refine va_new (D := g.1) (ci := 11) (fs := [.null, .null, .null, .null, .null, .null, .null, .null, .null, .null, .null, .int 0, .int 0, .int 0, .int 0, .int 0, .int 0, .int 0, .int 0]) (C := "MacroMill$Lines") (T := F_Lines) (N := 19) hx hb htt in_Lines t_Lines t_Lines_ok hown (htt _ k_186) (htt _ k_187) (htt _ k_162) hK hP hD hS hA rfl z_Lines (by decide +kernel) (by decide +kernel) d_Second_init_86 (fun q86 H hP hD hS => ?_)
  refine W.widen (k := 27) (n := 582772) (by decide +kernel) (by decide +kernel) ?_
  have hP : va_P g.1 classes [(h0, .inr (8, [.ref o1, .ref o2, .ref o3, .ref q5, .ref q16, .null, .null, .ref a33, .ref a41, .int 0, .ref a49, .int 0, .int 0, .int 0, .int 0, .int 0, .int 0, .ref a57, .int 0, .int 0, .ref a65, .int 0])), (q5, .inr (9, [.ref ab, .ref a15, .int 0, .int 0, .int 0, .ref a23, .ref a31, .ref a39, .int 0, .int 0])), (q16, .inr (10, [.ref q5, .ref a8, .ref ab_2, .ref a26, .int 0, .int 0, .ref a35, .ref a44, .ref a53, .ref a62, .ref a71, .ref a80, .int 0, .ref a89, .ref asb, .ref a107, .int 0, .ref a115, .ref a123])), (ab_2, .inl (g.2 1, 512, .inl (fun _ => 0))), (asb, .inl (g.2 1, 2048, .inl (fun _ => 0))), (q86, .inr (11, [.null, .null, .null, .null, .null, .null, .null, .null, .null, .null, .null, .int 0, .int 0, .int 0, .int 0, .int 0, .int 0, .int 0, .int 0]))] H := hP
  have hD : va_D A [(h0, .inr (8, [.ref o1, .ref o2, .ref o3, .ref q5, .ref q16, .null, .null, .ref a33, .ref a41, .int 0, .ref a49, .int 0, .int 0, .int 0, .int 0, .int 0, .int 0, .ref a57, .int 0, .int 0, .ref a65, .int 0])), (q5, .inr (9, [.ref ab, .ref a15, .int 0, .int 0, .int 0, .ref a23, .ref a31, .ref a39, .int 0, .int 0])), (q16, .inr (10, [.ref q5, .ref a8, .ref ab_2, .ref a26, .int 0, .int 0, .ref a35, .ref a44, .ref a53, .ref a62, .ref a71, .ref a80, .int 0, .ref a89, .ref asb, .ref a107, .int 0, .ref a115, .ref a123])), (ab_2, .inl (g.2 1, 512, .inl (fun _ => 0))), (asb, .inl (g.2 1, 2048, .inl (fun _ => 0))), (q86, .inr (11, [.null, .null, .null, .null, .null, .null, .null, .null, .null, .null, .null, .int 0, .int 0, .int 0, .int 0, .int 0, .int 0, .int 0, .int 0]))] := hD
  refine lv_dup hx hb d_Second_init_89 rfl ?_
  refine lv_aload_n hx hb d_Second_init_90 rfl (lv_at hl 1 rfl) ?_
  show W _ _ _ _ _ _ _ _ _ _ _ _ _ _ _ (F0 _ 91 _ _)
  refine lv_aload_n hx hb d_Second_init_91 rfl (lv_at hl 0 rfl) ?_
  refine va_get (D := g.1) (ci := 8) (v := .ref q5) (C := "MacroMill$Second") (T := F_Second) (N := 22) hx hb htt in_Second hown hK hP 0 rfl rfl 3 (by decide) (htt _ k_148) (fun _ h9 => h9) rfl d_Second_init_92 ?_
  refine lv_aload_n hx hb d_Second_init_95 rfl (lv_at hl 2 rfl) ?_
  refine go_v (As := [.ref q86, .ref o1, .ref q5, .ref o2]) (g := g) (A := A) (wc := [(q86, .inr (11, [.null, .null, .null, .null, .null, .null, .null, .null, .null, .null, .null, .int 0, .int 0, .int 0, .int 0, .int 0, .int 0, .int 0, .int 0]))]) (wr := [(h0, .inr (8, [.ref o1, .ref o2, .ref o3, .ref q5, .ref q16, .null, .null, .ref a33, .ref a41, .int 0, .ref a49, .int 0, .int 0, .int 0, .int 0, .int 0, .int 0, .ref a57, .int 0, .int 0, .ref a65, .int 0])), (q5, .inr (9, [.ref ab, .ref a15, .int 0, .int 0, .int 0, .ref a23, .ref a31, .ref a39, .int 0, .int 0])), (q16, .inr (10, [.ref q5, .ref a8, .ref ab_2, .ref a26, .int 0, .int 0, .ref a35, .ref a44, .ref a53, .ref a62, .ref a71, .ref a80, .int 0, .ref a89, .ref asb, .ref a107, .int 0, .ref a115, .ref a123])), (ab_2, .inl (g.2 1, 512, .inl (fun _ => 0))), (asb, .inl (g.2 1, 2048, .inl (fun _ => 0)))]) [5] [0, 1, 2, 3, 4] rfl rfl rfl rfl (by decide) hP hK hD hS hA hN (fun hp => va_runI (As := [.ref o1, .ref q5, .ref o2]) (rest := [.ref q86, .ref h0]) ⟨hx, hb, hml, hown, htt⟩ (c_Lines_init l g _ q86 o1 q5 o2) ⟨(cb_L htt k_188 k_162 k_189 hd_Lines_init ⟨(by decide +kernel), (by decide +kernel)⟩), rfl, htt _ k_190⟩ hp rfl rfl hl.1 rfl (lv_room (Nat.le_of_ble_eq_true rfl)) d_Second_init_96 ⟨(by decide +kernel), (by decide +kernel)⟩) (fun w9 H locs hw9 hP hD hS => ?_)
  obtain ⟨atf, a15_2, a23_2, a31_2, a39_2, a47, a56, a64, rfl⟩ := hw9
  refine W.widen (k := 35) (n := 584296) (by decide +kernel) (by decide +kernel) ?_
  have hP : va_P g.1 classes [(h0, .inr (8, [.ref o1, .ref o2, .ref o3, .ref q5, .ref q16, .null, .null, .ref a33, .ref a41, .int 0, .ref a49, .int 0, .int 0, .int 0, .int 0, .int 0, .int 0, .ref a57, .int 0, .int 0, .ref a65, .int 0])), (q5, .inr (9, [.ref ab, .ref a15, .int 0, .int 0, .int 0, .ref a23, .ref a31, .ref a39, .int 0, .int 0])), (q16, .inr (10, [.ref q5, .ref a8, .ref ab_2, .ref a26, .int 0, .int 0, .ref a35, .ref a44, .ref a53, .ref a62, .ref a71, .ref a80, .int 0, .ref a89, .ref asb, .ref a107, .int 0, .ref a115, .ref a123])), (ab_2, .inl (g.2 1, 512, .inl (fun _ => 0))), (asb, .inl (g.2 1, 2048, .inl (fun _ => 0))), (q86, .inr (11, [.ref o1, .ref q5, .ref o2, .ref atf, .ref a15_2, .ref a23_2, .ref a31_2, .ref a39_2, .ref a47, .ref a56, .ref a64, .int 0, .int 0, .int 0, .int 0, .int 0, .int 0, .int 0, .int 0])), (atf, .inl (g.2 1, 32, .inl (fun _ => 0)))] H := hP
  have hD : va_D A [(h0, .inr (8, [.ref o1, .ref o2, .ref o3, .ref q5, .ref q16, .null, .null, .ref a33, .ref a41, .int 0, .ref a49, .int 0, .int 0, .int 0, .int 0, .int 0, .int 0, .ref a57, .int 0, .int 0, .ref a65, .int 0])), (q5, .inr (9, [.ref ab, .ref a15, .int 0, .int 0, .int 0, .ref a23, .ref a31, .ref a39, .int 0, .int 0])), (q16, .inr (10, [.ref q5, .ref a8, .ref ab_2, .ref a26, .int 0, .int 0, .ref a35, .ref a44, .ref a53, .ref a62, .ref a71, .ref a80, .int 0, .ref a89, .ref asb, .ref a107, .int 0, .ref a115, .ref a123])), (ab_2, .inl (g.2 1, 512, .inl (fun _ => 0))), (asb, .inl (g.2 1, 2048, .inl (fun _ => 0))), (q86, .inr (11, [.ref o1, .ref q5, .ref o2, .ref atf, .ref a15_2, .ref a23_2, .ref a31_2, .ref a39_2, .ref a47, .ref a56, .ref a64, .int 0, .int 0, .int 0, .int 0, .int 0, .int 0, .int 0, .int 0])), (atf, .inl (g.2 1, 32, .inl (fun _ => 0)))] := hD
  refine va_putF (D := g.1) (ci := 8) (v := .ref q86) (ty := t_Second 5) (C := "MacroMill$Second") (T := F_Second) (N := 22) hx hb htt in_Second t_Second t_Second_ok n_Second hown hK hP hD hS 0 rfl rfl 5 (by decide) (htt _ k_160) (fun _ h9 => h9) rfl hin rfl (t_Second_ok 5 (by decide)) rfl rfl (Nat.le_of_ble_eq_true rfl) d_Second_init_99 (fun H locs hP hD hS => ?_)
  have hP : va_P g.1 classes [(h0, .inr (8, [.ref o1, .ref o2, .ref o3, .ref q5, .ref q16, .ref q86, .null, .ref a33, .ref a41, .int 0, .ref a49, .int 0, .int 0, .int 0, .int 0, .int 0, .int 0, .ref a57, .int 0, .int 0, .ref a65, .int 0])), (q5, .inr (9, [.ref ab, .ref a15, .int 0, .int 0, .int 0, .ref a23, .ref a31, .ref a39, .int 0, .int 0])), (q16, .inr (10, [.ref q5, .ref a8, .ref ab_2, .ref a26, .int 0, .int 0, .ref a35, .ref a44, .ref a53, .ref a62, .ref a71, .ref a80, .int 0, .ref a89, .ref asb, .ref a107, .int 0, .ref a115, .ref a123])), (ab_2, .inl (g.2 1, 512, .inl (fun _ => 0))), (asb, .inl (g.2 1, 2048, .inl (fun _ => 0))), (q86, .inr (11, [.ref o1, .ref q5, .ref o2, .ref atf, .ref a15_2, .ref a23_2, .ref a31_2, .ref a39_2, .ref a47, .ref a56, .ref a64, .int 0, .int 0, .int 0, .int 0, .int 0, .int 0, .int 0, .int 0])), (atf, .inl (g.2 1, 32, .inl (fun _ => 0)))] H := hP
  have hD : va_D A [(h0, .inr (8, [.ref o1, .ref o2, .ref o3, .ref q5, .ref q16, .ref q86, .null, .ref a33, .ref a41, .int 0, .ref a49, .int 0, .int 0, .int 0, .int 0, .int 0, .int 0, .ref a57, .int 0, .int 0, .ref a65, .int 0])), (q5, .inr (9, [.ref ab, .ref a15, .int 0, .int 0, .int 0, .ref a23, .ref a31, .ref a39, .int 0, .int 0])), (q16, .inr (10, [.ref q5, .ref a8, .ref ab_2, .ref a26, .int 0, .int 0, .ref a35, .ref a44, .ref a53, .ref a62, .ref a71, .ref a80, .int 0, .ref a89, .ref asb, .ref a107, .int 0, .ref a115, .ref a123])), (ab_2, .inl (g.2 1, 512, .inl (fun _ => 0))), (asb, .inl (g.2 1, 2048, .inl (fun _ => 0))), (q86, .inr (11, [.ref o1, .ref q5, .ref o2, .ref atf, .ref a15_2, .ref a23_2, .ref a31_2, .ref a39_2, .ref a47, .ref a56, .ref a64, .int 0, .int 0, .int 0, .int 0, .int 0, .int 0, .int 0, .int 0])), (atf, .inl (g.2 1, 32, .inl (fun _ => 0)))] := hD
  refine lv_aload_n hx hb d_Second_init_102 rfl (lv_at hl 0 rfl) ?_
  refine va_new (D := g.1) (ci := 12) (fs := [.null, .null, .null, .null, .null, .null, .null, .null, .null, .null, .null, .null, .null, .null, .int 0, .int 0]) (C := "MacroMill$Replacer") (T := F_Replacer) (N := 16) hx hb htt in_Replacer t_Replacer t_Replacer_ok hown (htt _ k_191) (htt _ k_192) (htt _ k_193) hK hP hD hS hA rfl z_Replacer (by decide +kernel) (by decide +kernel) d_Second_init_103 (fun q103 H hP hD hS => ?_)
  refine W.widen (k := 36) (n := 584312) (by decide +kernel) (by decide +kernel) ?_
  have hP : va_P g.1 classes [(h0, .inr (8, [.ref o1, .ref o2, .ref o3, .ref q5, .ref q16, .ref q86, .null, .ref a33, .ref a41, .int 0, .ref a49, .int 0, .int 0, .int 0, .int 0, .int 0, .int 0, .ref a57, .int 0, .int 0, .ref a65, .int 0])), (q5, .inr (9, [.ref ab, .ref a15, .int 0, .int 0, .int 0, .ref a23, .ref a31, .ref a39, .int 0, .int 0])), (q16, .inr (10, [.ref q5, .ref a8, .ref ab_2, .ref a26, .int 0, .int 0, .ref a35, .ref a44, .ref a53, .ref a62, .ref a71, .ref a80, .int 0, .ref a89, .ref asb, .ref a107, .int 0, .ref a115, .ref a123])), (ab_2, .inl (g.2 1, 512, .inl (fun _ => 0))), (asb, .inl (g.2 1, 2048, .inl (fun _ => 0))), (q86, .inr (11, [.ref o1, .ref q5, .ref o2, .ref atf, .ref a15_2, .ref a23_2, .ref a31_2, .ref a39_2, .ref a47, .ref a56, .ref a64, .int 0, .int 0, .int 0, .int 0, .int 0, .int 0, .int 0, .int 0])), (atf, .inl (g.2 1, 32, .inl (fun _ => 0))), (q103, .inr (12, [.null, .null, .null, .null, .null, .null, .null, .null, .null, .null, .null, .null, .null, .null, .int 0, .int 0]))] H := hP
  have hD : va_D A [(h0, .inr (8, [.ref o1, .ref o2, .ref o3, .ref q5, .ref q16, .ref q86, .null, .ref a33, .ref a41, .int 0, .ref a49, .int 0, .int 0, .int 0, .int 0, .int 0, .int 0, .ref a57, .int 0, .int 0, .ref a65, .int 0])), (q5, .inr (9, [.ref ab, .ref a15, .int 0, .int 0, .int 0, .ref a23, .ref a31, .ref a39, .int 0, .int 0])), (q16, .inr (10, [.ref q5, .ref a8, .ref ab_2, .ref a26, .int 0, .int 0, .ref a35, .ref a44, .ref a53, .ref a62, .ref a71, .ref a80, .int 0, .ref a89, .ref asb, .ref a107, .int 0, .ref a115, .ref a123])), (ab_2, .inl (g.2 1, 512, .inl (fun _ => 0))), (asb, .inl (g.2 1, 2048, .inl (fun _ => 0))), (q86, .inr (11, [.ref o1, .ref q5, .ref o2, .ref atf, .ref a15_2, .ref a23_2, .ref a31_2, .ref a39_2, .ref a47, .ref a56, .ref a64, .int 0, .int 0, .int 0, .int 0, .int 0, .int 0, .int 0, .int 0])), (atf, .inl (g.2 1, 32, .inl (fun _ => 0))), (q103, .inr (12, [.null, .null, .null, .null, .null, .null, .null, .null, .null, .null, .null, .null, .null, .null, .int 0, .int 0]))] := hD
  refine lv_dup hx hb d_Second_init_106 rfl ?_
  refine lv_aload_n hx hb d_Second_init_107 rfl (lv_at hl 0 rfl) ?_
  refine va_get (D := g.1) (ci := 8) (v := .ref q5) (C := "MacroMill$Second") (T := F_Second) (N := 22) hx hb htt in_Second hown hK hP 0 rfl rfl 3 (by decide) (htt _ k_148) (fun _ h9 => h9) rfl d_Second_init_108 ?_
  refine lv_aload_n hx hb d_Second_init_111 rfl (lv_at hl 0 rfl) ?_
  refine va_get (D := g.1) (ci := 8) (v := .ref q16) (C := "MacroMill$Second") (T := F_Second) (N := 22) hx hb htt in_Second hown hK hP 0 rfl rfl 4 (by decide) (htt _ k_154) (fun _ h9 => h9) rfl d_Second_init_112 ?_
  show W _ _ _ _ _ _ _ _ _ _ _ _ _ _ _ (F0 _ 115 _ _)
  refine lv_aload_n hx hb d_Second_init_115 rfl (lv_at hl 0 rfl) ?_
  refine va_get (D := g.1) (ci := 8) (v := .ref q86) (C := "MacroMill$Second") (T := F_Second) (N := 22) hx hb htt in_Second hown hK hP 0 rfl rfl 5 (by decide) (htt _ k_160) (fun _ h9 => h9) rfl d_Second_init_116 ?_
  refine lv_aload_n hx hb d_Second_init_119 rfl (lv_at hl 2 rfl) ?_
  refine go_v (As := [.ref q103, .ref q5, .ref q16, .ref q86, .ref o2]) (g := g) (A := A) (wc := [(q103, .inr (12, [.null, .null, .null, .null, .null, .null, .null, .null, .null, .null, .null, .null, .null, .null, .int 0, .int 0]))]) (wr := [(h0, .inr (8, [.ref o1, .ref o2, .ref o3, .ref q5, .ref q16, .ref q86, .null, .ref a33, .ref a41, .int 0, .ref a49, .int 0, .int 0, .int 0, .int 0, .int 0, .int 0, .ref a57, .int 0, .int 0, .ref a65, .int 0])), (q5, .inr (9, [.ref ab, .ref a15, .int 0, .int 0, .int 0, .ref a23, .ref a31, .ref a39, .int 0, .int 0])), (q16, .inr (10, [.ref q5, .ref a8, .ref ab_2, .ref a26, .int 0, .int 0, .ref a35, .ref a44, .ref a53, .ref a62, .ref a71, .ref a80, .int 0, .ref a89, .ref asb, .ref a107, .int 0, .ref a115, .ref a123])), (ab_2, .inl (g.2 1, 512, .inl (fun _ => 0))), (asb, .inl (g.2 1, 2048, .inl (fun _ => 0))), (q86, .inr (11, [.ref o1, .ref q5, .ref o2, .ref atf, .ref a15_2, .ref a23_2, .ref a31_2, .ref a39_2, .ref a47, .ref a56, .ref a64, .int 0, .int 0, .int 0, .int 0, .int 0, .int 0, .int 0, .int 0])), (atf, .inl (g.2 1, 32, .inl (fun _ => 0)))]) [7] [0, 1, 2, 3, 4, 5, 6] rfl rfl rfl rfl (by decide) hP hK hD hS hA hN (fun hp => va_runI (As := [.ref q5, .ref q16, .ref q86, .ref o2]) (rest := [.ref q103, .ref h0]) ⟨hx, hb, hml, hown, htt⟩ (c_Replacer_init l g _ q103 q5 q16 q86 o2) ⟨(cb_L htt k_194 k_193 k_195 hd_Replacer_init ⟨(by decide +kernel), (by decide +kernel)⟩), rfl, htt _ k_196⟩ hp rfl rfl hl.1 rfl (lv_room (Nat.le_of_ble_eq_true rfl)) d_Second_init_120 ⟨(by decide +kernel), (by decide +kernel)⟩) (fun w9 H locs hw9 hP hD hS => ?_)
  obtain ⟨a8_2, a17, a26_2, a35_2, a44_2, a53_2, a62_2, a70, a78, a86, rfl⟩ := hw9
  refine W.widen (k := 46) (n := 597308) (by decide +kernel) (by decide +kernel) ?_
  have hP : va_P g.1 classes [(h0, .inr (8, [.ref o1, .ref o2, .ref o3, .ref q5, .ref q16, .ref q86, .null, .ref a33, .ref a41, .int 0, .ref a49, .int 0, .int 0, .int 0, .int 0, .int 0, .int 0, .ref a57, .int 0, .int 0, .ref a65, .int 0])), (q5, .inr (9, [.ref ab, .ref a15, .int 0, .int 0, .int 0, .ref a23, .ref a31, .ref a39, .int 0, .int 0])), (q16, .inr (10, [.ref q5, .ref a8, .ref ab_2, .ref a26, .int 0, .int 0, .ref a35, .ref a44, .ref a53, .ref a62, .ref a71, .ref a80, .int 0, .ref a89, .ref asb, .ref a107, .int 0, .ref a115, .ref a123])), (ab_2, .inl (g.2 1, 512, .inl (fun _ => 0))), (asb, .inl (g.2 1, 2048, .inl (fun _ => 0))), (q86, .inr (11, [.ref o1, .ref q5, .ref o2, .ref atf, .ref a15_2, .ref a23_2, .ref a31_2, .ref a39_2, .ref a47, .ref a56, .ref a64, .int 0, .int 0, .int 0, .int 0, .int 0, .int 0, .int 0, .int 0])), (atf, .inl (g.2 1, 32, .inl (fun _ => 0))), (q103, .inr (12, [.ref q5, .ref q16, .ref q86, .ref o2, .ref a8_2, .ref a17, .ref a26_2, .ref a35_2, .ref a44_2, .ref a53_2, .ref a62_2, .ref a70, .ref a78, .ref a86, .int 0, .int 0]))] H := hP
  have hD : va_D A [(h0, .inr (8, [.ref o1, .ref o2, .ref o3, .ref q5, .ref q16, .ref q86, .null, .ref a33, .ref a41, .int 0, .ref a49, .int 0, .int 0, .int 0, .int 0, .int 0, .int 0, .ref a57, .int 0, .int 0, .ref a65, .int 0])), (q5, .inr (9, [.ref ab, .ref a15, .int 0, .int 0, .int 0, .ref a23, .ref a31, .ref a39, .int 0, .int 0])), (q16, .inr (10, [.ref q5, .ref a8, .ref ab_2, .ref a26, .int 0, .int 0, .ref a35, .ref a44, .ref a53, .ref a62, .ref a71, .ref a80, .int 0, .ref a89, .ref asb, .ref a107, .int 0, .ref a115, .ref a123])), (ab_2, .inl (g.2 1, 512, .inl (fun _ => 0))), (asb, .inl (g.2 1, 2048, .inl (fun _ => 0))), (q86, .inr (11, [.ref o1, .ref q5, .ref o2, .ref atf, .ref a15_2, .ref a23_2, .ref a31_2, .ref a39_2, .ref a47, .ref a56, .ref a64, .int 0, .int 0, .int 0, .int 0, .int 0, .int 0, .int 0, .int 0])), (atf, .inl (g.2 1, 32, .inl (fun _ => 0))), (q103, .inr (12, [.ref q5, .ref q16, .ref q86, .ref o2, .ref a8_2, .ref a17, .ref a26_2, .ref a35_2, .ref a44_2, .ref a53_2, .ref a62_2, .ref a70, .ref a78, .ref a86, .int 0, .int 0]))] := hD
  refine va_putF (D := g.1) (ci := 8) (v := .ref q103) (ty := t_Second 6) (C := "MacroMill$Second") (T := F_Second) (N := 22) hx hb htt in_Second t_Second t_Second_ok n_Second hown hK hP hD hS 0 rfl rfl 6 (by decide) (htt _ k_197) (fun _ h9 => h9) rfl hin rfl (t_Second_ok 6 (by decide)) rfl rfl (Nat.le_of_ble_eq_true rfl) d_Second_init_123 (fun H locs hP hD hS => ?_)
  have hP : va_P g.1 classes [(h0, .inr (8, [.ref o1, .ref o2, .ref o3, .ref q5, .ref q16, .ref q86, .ref q103, .ref a33, .ref a41, .int 0, .ref a49, .int 0, .int 0, .int 0, .int 0, .int 0, .int 0, .ref a57, .int 0, .int 0, .ref a65, .int 0])), (q5, .inr (9, [.ref ab, .ref a15, .int 0, .int 0, .int 0, .ref a23, .ref a31, .ref a39, .int 0, .int 0])), (q16, .inr (10, [.ref q5, .ref a8, .ref ab_2, .ref a26, .int 0, .int 0, .ref a35, .ref a44, .ref a53, .ref a62, .ref a71, .ref a80, .int 0, .ref a89, .ref asb, .ref a107, .int 0, .ref a115, .ref a123])), (ab_2, .inl (g.2 1, 512, .inl (fun _ => 0))), (asb, .inl (g.2 1, 2048, .inl (fun _ => 0))), (q86, .inr (11, [.ref o1, .ref q5, .ref o2, .ref atf, .ref a15_2, .ref a23_2, .ref a31_2, .ref a39_2, .ref a47, .ref a56, .ref a64, .int 0, .int 0, .int 0, .int 0, .int 0, .int 0, .int 0, .int 0])), (atf, .inl (g.2 1, 32, .inl (fun _ => 0))), (q103, .inr (12, [.ref q5, .ref q16, .ref q86, .ref o2, .ref a8_2, .ref a17, .ref a26_2, .ref a35_2, .ref a44_2, .ref a53_2, .ref a62_2, .ref a70, .ref a78, .ref a86, .int 0, .int 0]))] H := hP
  have hD : va_D A [(h0, .inr (8, [.ref o1, .ref o2, .ref o3, .ref q5, .ref q16, .ref q86, .ref q103, .ref a33, .ref a41, .int 0, .ref a49, .int 0, .int 0, .int 0, .int 0, .int 0, .int 0, .ref a57, .int 0, .int 0, .ref a65, .int 0])), (q5, .inr (9, [.ref ab, .ref a15, .int 0, .int 0, .int 0, .ref a23, .ref a31, .ref a39, .int 0, .int 0])), (q16, .inr (10, [.ref q5, .ref a8, .ref ab_2, .ref a26, .int 0, .int 0, .ref a35, .ref a44, .ref a53, .ref a62, .ref a71, .ref a80, .int 0, .ref a89, .ref asb, .ref a107, .int 0, .ref a115, .ref a123])), (ab_2, .inl (g.2 1, 512, .inl (fun _ => 0))), (asb, .inl (g.2 1, 2048, .inl (fun _ => 0))), (q86, .inr (11, [.ref o1, .ref q5, .ref o2, .ref atf, .ref a15_2, .ref a23_2, .ref a31_2, .ref a39_2, .ref a47, .ref a56, .ref a64, .int 0, .int 0, .int 0, .int 0, .int 0, .int 0, .int 0, .int 0])), (atf, .inl (g.2 1, 32, .inl (fun _ => 0))), (q103, .inr (12, [.ref q5, .ref q16, .ref q86, .ref o2, .ref a8_2, .ref a17, .ref a26_2, .ref a35_2, .ref a44_2, .ref a53_2, .ref a62_2, .ref a70, .ref a78, .ref a86, .int 0, .int 0]))] := hD
  refine lv_aload_n hx hb d_Second_init_126 rfl (lv_at hl 0 rfl) ?_
  refine go_v (As := [.ref h0]) (g := g) (A := A) (wc := [(h0, .inr (8, [.ref o1, .ref o2, .ref o3, .ref q5, .ref q16, .ref q86, .ref q103, .ref a33, .ref a41, .int 0, .ref a49, .int 0, .int 0, .int 0, .int 0, .int 0, .int 0, .ref a57, .int 0, .int 0, .ref a65, .int 0])), (q5, .inr (9, [.ref ab, .ref a15, .int 0, .int 0, .int 0, .ref a23, .ref a31, .ref a39, .int 0, .int 0])), (q16, .inr (10, [.ref q5, .ref a8, .ref ab_2, .ref a26, .int 0, .int 0, .ref a35, .ref a44, .ref a53, .ref a62, .ref a71, .ref a80, .int 0, .ref a89, .ref asb, .ref a107, .int 0, .ref a115, .ref a123])), (ab_2, .inl (g.2 1, 512, .inl (fun _ => 0))), (asb, .inl (g.2 1, 2048, .inl (fun _ => 0))), (q86, .inr (11, [.ref o1, .ref q5, .ref o2, .ref atf, .ref a15_2, .ref a23_2, .ref a31_2, .ref a39_2, .ref a47, .ref a56, .ref a64, .int 0, .int 0, .int 0, .int 0, .int 0, .int 0, .int 0, .int 0])), (atf, .inl (g.2 1, 32, .inl (fun _ => 0)))]) (wr := [(q103, .inr (12, [.ref q5, .ref q16, .ref q86, .ref o2, .ref a8_2, .ref a17, .ref a26_2, .ref a35_2, .ref a44_2, .ref a53_2, .ref a62_2, .ref a70, .ref a78, .ref a86, .int 0, .int 0]))]) [0, 1, 2, 3, 4, 5, 6] [7] rfl rfl rfl rfl (by decide) hP hK hD hS hA hN (fun hp => va_runV (As := []) (rest := []) ⟨hx, hb, hml, hown, htt⟩ (c_Second_forget l g _ h0 q5 q16 q86 ab_2 asb atf (fun _ => 0) (fun _ => 0) (fun _ => 0) (.ref o1) (.ref o2) (.ref o3) (.ref q103) (.ref a33) (.ref a41) (.int 0) (.ref a49) (.int 0) (.int 0) (.int 0) (.int 0) (.int 0) (.int 0) (.ref a57) (.int 0) (.int 0) (.ref a65) (.int 0) (.ref ab) (.ref a15) (.int 0) (.int 0) (.int 0) (.ref a23) (.ref a31) (.ref a39) (.int 0) (.int 0) (.ref q5) (.ref a8) (.ref a26) (.int 0) (.int 0) (.ref a35) (.ref a44) (.ref a53) (.ref a62) (.ref a71) (.ref a80) (.int 0) (.ref a89) (.ref a107) (.int 0) (.ref a115) (.ref a123) (.ref o1) (.ref q5) (.ref o2) (.ref a15_2) (.ref a23_2) (.ref a31_2) (.ref a39_2) (.ref a47) (.ref a56) (.ref a64) (.int 0) (.int 0) (.int 0) (.int 0) (.int 0) (.int 0) (.int 0) (.int 0)) ⟨(cb_L htt k_198 k_199 k_200 hd_Second_forget ⟨(by decide +kernel), (by decide +kernel)⟩), htt _ k_201, htt _ k_202⟩ ⟨hp.1, va_recv hK hP (ci := 8) (q0 := 0) rfl rfl, hp.2⟩ rfl rfl hl.1 rfl (lv_room (Nat.le_of_ble_eq_true rfl)) d_Second_init_127 ⟨(by decide +kernel), (by decide +kernel)⟩) (fun w9 H locs hw9 hP hD hS => ?_)
  obtain ⟨fl, fl_2, fl_3, rfl, h_fl, h_fl_2, h_fl_3⟩ := hw9
  refine W.widen (k := 46) (n := 597308) (by decide +kernel) (by decide +kernel) ?_
  have hP : va_P g.1 classes [(q103, .inr (12, [.ref q5, .ref q16, .ref q86, .ref o2, .ref a8_2, .ref a17, .ref a26_2, .ref a35_2, .ref a44_2, .ref a53_2, .ref a62_2, .ref a70, .ref a78, .ref a86, .int 0, .int 0])), (h0, .inr (8, [.ref o1, .ref o2, .ref o3, .ref q5, .ref q16, .ref q86, .ref q103, .ref a33, .ref a41, .int 0, .ref a49, .int 0, .int 0, .int 0, .int 0, .int 0, .int 0, .ref a57, .int 0, .int 0, .ref a65, .int 0])), (q5, .inr (9, [.ref ab, .ref a15, .int 0, .int 0, .int 60002, .ref a23, .ref a31, .ref a39, .int 0, .int 0])), (q16, .inr (10, [.ref q5, .ref a8, .ref ab_2, .ref a26, .int 0, .int 0, .ref a35, .ref a44, .ref a53, .ref a62, .ref a71, .ref a80, .int 0, .ref a89, .ref asb, .ref a107, .int 0, .ref a115, .ref a123])), (ab_2, .inl (g.2 1, 512, .inl fl)), (asb, .inl (g.2 1, 2048, .inl fl_2)), (q86, .inr (11, [.ref o1, .ref q5, .ref o2, .ref atf, .ref a15_2, .ref a23_2, .ref a31_2, .ref a39_2, .ref a47, .ref a56, .ref a64, .int 0, .int 0, .int 0, .int 0, .int 0, .int 0, .int 0, .int 1])), (atf, .inl (g.2 1, 32, .inl fl_3))] H := hP
  have hD : va_D A [(q103, .inr (12, [.ref q5, .ref q16, .ref q86, .ref o2, .ref a8_2, .ref a17, .ref a26_2, .ref a35_2, .ref a44_2, .ref a53_2, .ref a62_2, .ref a70, .ref a78, .ref a86, .int 0, .int 0])), (h0, .inr (8, [.ref o1, .ref o2, .ref o3, .ref q5, .ref q16, .ref q86, .ref q103, .ref a33, .ref a41, .int 0, .ref a49, .int 0, .int 0, .int 0, .int 0, .int 0, .int 0, .ref a57, .int 0, .int 0, .ref a65, .int 0])), (q5, .inr (9, [.ref ab, .ref a15, .int 0, .int 0, .int 60002, .ref a23, .ref a31, .ref a39, .int 0, .int 0])), (q16, .inr (10, [.ref q5, .ref a8, .ref ab_2, .ref a26, .int 0, .int 0, .ref a35, .ref a44, .ref a53, .ref a62, .ref a71, .ref a80, .int 0, .ref a89, .ref asb, .ref a107, .int 0, .ref a115, .ref a123])), (ab_2, .inl (g.2 1, 512, .inl fl)), (asb, .inl (g.2 1, 2048, .inl fl_2)), (q86, .inr (11, [.ref o1, .ref q5, .ref o2, .ref atf, .ref a15_2, .ref a23_2, .ref a31_2, .ref a39_2, .ref a47, .ref a56, .ref a64, .int 0, .int 0, .int 0, .int 0, .int 0, .int 0, .int 0, .int 1])), (atf, .inl (g.2 1, 32, .inl fl_3))] := hD
  have hP := va_PsubM (ws' := [(h0, .inr (8, [.ref o1, .ref o2, .ref o3, .ref q5, .ref q16, .ref q86, .ref q103, .ref a33, .ref a41, .int 0, .ref a49, .int 0, .int 0, .int 0, .int 0, .int 0, .int 0, .ref a57, .int 0, .int 0, .ref a65, .int 0])), (q16, .inr (10, [.ref q5, .ref a8, .ref ab_2, .ref a26, .int 0, .int 0, .ref a35, .ref a44, .ref a53, .ref a62, .ref a71, .ref a80, .int 0, .ref a89, .ref asb, .ref a107, .int 0, .ref a115, .ref a123])), (ab_2, .inl (g.2 1, 512, .inl fl))]) hP [1, 3, 4] rfl
  have hD := hD.sub (ws' := [(h0, .inr (8, [.ref o1, .ref o2, .ref o3, .ref q5, .ref q16, .ref q86, .ref q103, .ref a33, .ref a41, .int 0, .ref a49, .int 0, .int 0, .int 0, .int 0, .int 0, .int 0, .ref a57, .int 0, .int 0, .ref a65, .int 0])), (q16, .inr (10, [.ref q5, .ref a8, .ref ab_2, .ref a26, .int 0, .int 0, .ref a35, .ref a44, .ref a53, .ref a62, .ref a71, .ref a80, .int 0, .ref a89, .ref asb, .ref a107, .int 0, .ref a115, .ref a123])), (ab_2, .inl (g.2 1, 512, .inl fl))]) [1, 3, 4] rfl rfl
  exact fin_v (g := g) (ws := [(h0, .inr (8, [.ref o1, .ref o2, .ref o3, .ref q5, .ref q16, .ref q86, .ref q103, .ref a33, .ref a41, .int 0, .ref a49, .int 0, .int 0, .int 0, .int 0, .int 0, .int 0, .ref a57, .int 0, .int 0, .ref a65, .int 0])), (q16, .inr (10, [.ref q5, .ref a8, .ref ab_2, .ref a26, .int 0, .int 0, .ref a35, .ref a44, .ref a53, .ref a62, .ref a71, .ref a80, .int 0, .ref a89, .ref asb, .ref a107, .int 0, .ref a115, .ref a123])), (ab_2, .inl (g.2 1, 512, .inl fl))]) hx hb hr hlocks (by decide +kernel) (by decide +kernel) hP hD hS ⟨q5, q16, a8, ab_2, a26, a35, a44, a53, a62, a71, a80, a89, asb, a107, a115, a123, a33, a41, a49, a57, a65, q86, q103, fl, rfl, h_fl⟩ d_Second_init_130
abbrev rm_MM_init : Room := { frames := 4, cells := 86, slots := 910254, locals := 86 }
set_option maxHeartbeats 4000000 in
set_option maxRecDepth 100000 in
theorem c_MM_init (l : Launch) (g : gG) (sz : Nat) (h0 : Nat) : Cv l y_MM_init b_MM_init 2 rm_MM_init g [.ref h0] [(h0, .inr (0, [.null, .int 0, .int 0, .null, .null, .null, .null]))] sz (fun w => ∃ (atp : Nat) (q14 : Nat) (a7 : Nat) (a16 : Nat) (a24 : Nat) (a32 : Nat) (q25 : Nat) (a7_2 : Nat) (q35 : Nat) (q44 : Nat) (q60 : Nat) (q5_2 : Nat) (q16_2 : Nat) (a8_2 : Nat) (ab : Nat) (a26_2 : Nat) (a35_2 : Nat) (a44_2 : Nat) (a53_2 : Nat) (a62 : Nat) (a71 : Nat) (a80 : Nat) (a89 : Nat) (asb : Nat) (a107 : Nat) (a115 : Nat) (a123 : Nat) (a33 : Nat) (a41 : Nat) (a49 : Nat) (a57 : Nat) (a65 : Nat) (q86 : Nat) (q103 : Nat) (fl : Nat → Int32), w = [(h0, .inr (0, [.ref atp, .int 0, .int 0, .ref q14, .ref q25, .ref q44, .ref q60])), (atp, .inl (g.2 0, 16384, .inl (fun _ => 0))), (q14, .inr (1, [.ref a7, .ref a16, .ref a24, .ref a32, .int 0])), (q25, .inr (2, [.ref a7_2, .int 0, .int 0, .int 0, .int 0, .int 0, .int 0, .int 0, .int 0, .int 0])), (q60, .inr (8, [.ref q14, .ref q25, .ref q35, .ref q5_2, .ref q16_2, .ref q86, .ref q103, .ref a33, .ref a41, .int 0, .ref a49, .int 0, .int 0, .int 0, .int 0, .int 0, .int 0, .ref a57, .int 0, .int 0, .ref a65, .int 0])), (q16_2, .inr (10, [.ref q5_2, .ref a8_2, .ref ab, .ref a26_2, .int 0, .int 0, .ref a35_2, .ref a44_2, .ref a53_2, .ref a62, .ref a71, .ref a80, .int 0, .ref a89, .ref asb, .ref a107, .int 0, .ref a115, .ref a123])), (ab, .inl (g.2 1, 512, .inl fl))] ∧ (∀ j, j < 512 → fl j = (-1))) := by
  refine startV (by decide) (Nat.le_of_ble_eq_true rfl) ?_
  intro p e s m below meth c A ls hx hb hr hml hlocks hmn hown htt hN hA hP hK hD hS hl
  have hin : meth.name = "<init>" := hmn
  have hown : s.vm.findClass "MacroMill" = some m.cls := hown
  have hl : lv_has ls 2 [(0, .ref h0)] := hl
  refine lv_aload_n hx hb d_MM_init_0 rfl (lv_at hl 0 rfl) ?_
  refine W.objInit hx hb hown (htt _ k_203) (htt _ k_1) (htt _ k_2) rfl (by rw [hml]; exact hl.1) rfl d_MM_init_1 (Nat.le_of_ble_eq_true rfl) (Nat.le_of_ble_eq_true rfl) ?_
  refine W.eq (g2 := F0 m 4 ls []) rfl ?_
  refine lv_aload_n hx hb d_MM_init_4 rfl (lv_at hl 0 rfl) ?_
  refine lv_sipush (v := 16384) hx hb d_MM_init_5 (by decide) ?_
  refine nea (g := g) (A := A) (atype := .byte) (ty := .byte) (a0 := (16384, .inl (fun _ => 0))) (N' := 16384) hx hb htt 0 rfl no_byte k_4 rfl hK hP hD hS hA (a0_byte 16384) (by decide +kernel) (by decide +kernel) (by decide +kernel) (by decide +kernel) (by decide +kernel) d_MM_init_8 (fun atp H hP hD hS => ?_)
  refine W.widen (k := 1) (n := 16384) (by decide +kernel) (by decide +kernel) ?_
  have hP : va_P g.1 classes [(h0, .inr (0, [.null, .int 0, .int 0, .null, .null, .null, .null])), (atp, .inl (g.2 0, 16384, .inl (fun _ => 0)))] H := hP
  have hD : va_D A [(h0, .inr (0, [.null, .int 0, .int 0, .null, .null, .null, .null])), (atp, .inl (g.2 0, 16384, .inl (fun _ => 0)))] := hD
  refine va_putF (D := g.1) (ci := 0) (v := .ref atp) (ty := t_MM 0) (C := "MacroMill") (T := F_MM) (N := 7) hx hb htt in_MM t_MM t_MM_ok n_MM hown hK hP hD hS 0 rfl rfl 0 (by decide) (htt _ k_204) (fun _ h9 => h9) rfl hin rfl (t_MM_ok 0 (by decide)) rfl rfl (Nat.le_of_ble_eq_true rfl) d_MM_init_10 (fun H locs hP hD hS => ?_)
  have hP : va_P g.1 classes [(h0, .inr (0, [.ref atp, .int 0, .int 0, .null, .null, .null, .null])), (atp, .inl (g.2 0, 16384, .inl (fun _ => 0)))] H := hP
  have hD : va_D A [(h0, .inr (0, [.ref atp, .int 0, .int 0, .null, .null, .null, .null])), (atp, .inl (g.2 0, 16384, .inl (fun _ => 0)))] := hD
  refine lv_aload_n hx hb d_MM_init_13 rfl (lv_at hl 0 rfl) ?_
  refine va_new (D := g.1) (ci := 1) (fs := [.null, .null, .null, .null, .int 0]) (C := "MacroMill$Files") (T := F_Files) (N := 5) hx hb htt in_Files t_Files t_Files_ok hown (htt _ k_205) (htt _ k_206) (htt _ k_207) hK hP hD hS hA rfl z_Files (by decide +kernel) (by decide +kernel) d_MM_init_14 (fun q14 H hP hD hS => ?_)
  refine W.widen (k := 2) (n := 16389) (by decide +kernel) (by decide +kernel) ?_
  have hP : va_P g.1 classes [(h0, .inr (0, [.ref atp, .int 0, .int 0, .null, .null, .null, .null])), (atp, .inl (g.2 0, 16384, .inl (fun _ => 0))), (q14, .inr (1, [.null, .null, .null, .null, .int 0]))] H := hP
  have hD : va_D A [(h0, .inr (0, [.ref atp, .int 0, .int 0, .null, .null, .null, .null])), (atp, .inl (g.2 0, 16384, .inl (fun _ => 0))), (q14, .inr (1, [.null, .null, .null, .null, .int 0]))] := hD
  refine lv_dup hx hb d_MM_init_17 rfl ?_
  refine go_v (As := [.ref q14]) (g := g) (A := A) (wc := [(q14, .inr (1, [.null, .null, .null, .null, .int 0]))]) (wr := [(h0, .inr (0, [.ref atp, .int 0, .int 0, .null, .null, .null, .null])), (atp, .inl (g.2 0, 16384, .inl (fun _ => 0)))]) [2] [0, 1] rfl rfl rfl rfl (by decide) hP hK hD hS hA hN (fun hp => va_runIN (As := []) (rest := [.ref q14, .ref h0]) ⟨hx, hb, hml, hown, htt⟩ (c_Files_init l g _ q14) ⟨(cb_N (host := "MacroMill") htt k_208 k_207 hN nM_2 hd_Files_init ⟨(by decide +kernel), (by decide +kernel)⟩), rfl, htt _ k_209⟩ hp rfl rfl hl.1 rfl (lv_room (Nat.le_of_ble_eq_true rfl)) d_MM_init_18 ⟨(by decide +kernel), (by decide +kernel)⟩) (fun w9 H locs hw9 hP hD hS => ?_)
  obtain ⟨a7, a16, a24, a32, rfl⟩ := hw9
  refine W.widen (k := 6) (n := 51270) (by decide +kernel) (by decide +kernel) ?_
  have hP : va_P g.1 classes [(h0, .inr (0, [.ref atp, .int 0, .int 0, .null, .null, .null, .null])), (atp, .inl (g.2 0, 16384, .inl (fun _ => 0))), (q14, .inr (1, [.ref a7, .ref a16, .ref a24, .ref a32, .int 0]))] H := hP
  have hD : va_D A [(h0, .inr (0, [.ref atp, .int 0, .int 0, .null, .null, .null, .null])), (atp, .inl (g.2 0, 16384, .inl (fun _ => 0))), (q14, .inr (1, [.ref a7, .ref a16, .ref a24, .ref a32, .int 0]))] := hD
  refine va_putF (D := g.1) (ci := 0) (v := .ref q14) (ty := t_MM 3) (C := "MacroMill") (T := F_MM) (N := 7) hx hb htt in_MM t_MM t_MM_ok n_MM hown hK hP hD hS 0 rfl rfl 3 (by decide) (htt _ k_210) (fun _ h9 => h9) rfl hin rfl (t_MM_ok 3 (by decide)) rfl rfl (Nat.le_of_ble_eq_true rfl) d_MM_init_21 (fun H locs hP hD hS => ?_)
  have hP : va_P g.1 classes [(h0, .inr (0, [.ref atp, .int 0, .int 0, .ref q14, .null, .null, .null])), (atp, .inl (g.2 0, 16384, .inl (fun _ => 0))), (q14, .inr (1, [.ref a7, .ref a16, .ref a24, .ref a32, .int 0]))] H := hP
  have hD : va_D A [(h0, .inr (0, [.ref atp, .int 0, .int 0, .ref q14, .null, .null, .null])), (atp, .inl (g.2 0, 16384, .inl (fun _ => 0))), (q14, .inr (1, [.ref a7, .ref a16, .ref a24, .ref a32, .int 0]))] := hD
  show W _ _ _ _ _ _ _ _ _ _ _ _ _ _ _ (F0 _ 24 _ _)
  refine lv_aload_n hx hb d_MM_init_24 rfl (lv_at hl 0 rfl) ?_
  refine va_new (D := g.1) (ci := 2) (fs := [.null, .int 0, .int 0, .int 0, .int 0, .int 0, .int 0, .int 0, .int 0, .int 0]) (C := "MacroMill$Outcome") (T := F_Outcome) (N := 10) hx hb htt in_Outcome t_Outcome t_Outcome_ok hown (htt _ k_211) (htt _ k_212) (htt _ k_213) hK hP hD hS hA rfl z_Outcome (by decide +kernel) (by decide +kernel) d_MM_init_25 (fun q25 H hP hD hS => ?_)
  refine W.widen (k := 7) (n := 51280) (by decide +kernel) (by decide +kernel) ?_
  have hP : va_P g.1 classes [(h0, .inr (0, [.ref atp, .int 0, .int 0, .ref q14, .null, .null, .null])), (atp, .inl (g.2 0, 16384, .inl (fun _ => 0))), (q14, .inr (1, [.ref a7, .ref a16, .ref a24, .ref a32, .int 0])), (q25, .inr (2, [.null, .int 0, .int 0, .int 0, .int 0, .int 0, .int 0, .int 0, .int 0, .int 0]))] H := hP
  have hD : va_D A [(h0, .inr (0, [.ref atp, .int 0, .int 0, .ref q14, .null, .null, .null])), (atp, .inl (g.2 0, 16384, .inl (fun _ => 0))), (q14, .inr (1, [.ref a7, .ref a16, .ref a24, .ref a32, .int 0])), (q25, .inr (2, [.null, .int 0, .int 0, .int 0, .int 0, .int 0, .int 0, .int 0, .int 0, .int 0]))] := hD
  refine lv_dup hx hb d_MM_init_28 rfl ?_
  refine go_v (As := [.ref q25]) (g := g) (A := A) (wc := [(q25, .inr (2, [.null, .int 0, .int 0, .int 0, .int 0, .int 0, .int 0, .int 0, .int 0, .int 0]))]) (wr := [(h0, .inr (0, [.ref atp, .int 0, .int 0, .ref q14, .null, .null, .null])), (atp, .inl (g.2 0, 16384, .inl (fun _ => 0))), (q14, .inr (1, [.ref a7, .ref a16, .ref a24, .ref a32, .int 0]))]) [3] [0, 1, 2] rfl rfl rfl rfl (by decide) hP hK hD hS hA hN (fun hp => va_runIN (As := []) (rest := [.ref q25, .ref h0]) ⟨hx, hb, hml, hown, htt⟩ (c_Outcome_init l g _ q25) ⟨(cb_N (host := "MacroMill") htt k_214 k_213 hN nM_3 hd_Outcome_init ⟨(by decide +kernel), (by decide +kernel)⟩), rfl, htt _ k_215⟩ hp rfl rfl hl.1 rfl (lv_room (Nat.le_of_ble_eq_true rfl)) d_MM_init_29 ⟨(by decide +kernel), (by decide +kernel)⟩) (fun w9 H locs hw9 hP hD hS => ?_)
  obtain ⟨a7_2, rfl⟩ := hw9
  refine W.widen (k := 8) (n := 116816) (by decide +kernel) (by decide +kernel) ?_
  have hP : va_P g.1 classes [(h0, .inr (0, [.ref atp, .int 0, .int 0, .ref q14, .null, .null, .null])), (atp, .inl (g.2 0, 16384, .inl (fun _ => 0))), (q14, .inr (1, [.ref a7, .ref a16, .ref a24, .ref a32, .int 0])), (q25, .inr (2, [.ref a7_2, .int 0, .int 0, .int 0, .int 0, .int 0, .int 0, .int 0, .int 0, .int 0]))] H := hP
  have hD : va_D A [(h0, .inr (0, [.ref atp, .int 0, .int 0, .ref q14, .null, .null, .null])), (atp, .inl (g.2 0, 16384, .inl (fun _ => 0))), (q14, .inr (1, [.ref a7, .ref a16, .ref a24, .ref a32, .int 0])), (q25, .inr (2, [.ref a7_2, .int 0, .int 0, .int 0, .int 0, .int 0, .int 0, .int 0, .int 0, .int 0]))] := hD
  refine va_putF (D := g.1) (ci := 0) (v := .ref q25) (ty := t_MM 4) (C := "MacroMill") (T := F_MM) (N := 7) hx hb htt in_MM t_MM t_MM_ok n_MM hown hK hP hD hS 0 rfl rfl 4 (by decide) (htt _ k_216) (fun _ h9 => h9) rfl hin rfl (t_MM_ok 4 (by decide)) rfl rfl (Nat.le_of_ble_eq_true rfl) d_MM_init_32 (fun H locs hP hD hS => ?_)
  have hP : va_P g.1 classes [(h0, .inr (0, [.ref atp, .int 0, .int 0, .ref q14, .ref q25, .null, .null])), (atp, .inl (g.2 0, 16384, .inl (fun _ => 0))), (q14, .inr (1, [.ref a7, .ref a16, .ref a24, .ref a32, .int 0])), (q25, .inr (2, [.ref a7_2, .int 0, .int 0, .int 0, .int 0, .int 0, .int 0, .int 0, .int 0, .int 0]))] H := hP
  have hD : va_D A [(h0, .inr (0, [.ref atp, .int 0, .int 0, .ref q14, .ref q25, .null, .null])), (atp, .inl (g.2 0, 16384, .inl (fun _ => 0))), (q14, .inr (1, [.ref a7, .ref a16, .ref a24, .ref a32, .int 0])), (q25, .inr (2, [.ref a7_2, .int 0, .int 0, .int 0, .int 0, .int 0, .int 0, .int 0, .int 0, .int 0]))] := hD
  refine va_new (D := g.1) (ci := 3) (fs := [.null, .null, .int 0, .null, .null, .null, .int 0, .int 0, .int 0, .int 0, .int 0, .int 0, .int 0]) (C := "MacroMill$Reckoner") (T := F_Reckoner) (N := 13) hx hb htt in_Reckoner t_Reckoner t_Reckoner_ok hown (htt _ k_217) (htt _ k_218) (htt _ k_219) hK hP hD hS hA rfl z_Reckoner (by decide +kernel) (by decide +kernel) d_MM_init_35 (fun q35 H hP hD hS => ?_)
  refine W.widen (k := 9) (n := 116829) (by decide +kernel) (by decide +kernel) ?_
  have hP : va_P g.1 classes [(h0, .inr (0, [.ref atp, .int 0, .int 0, .ref q14, .ref q25, .null, .null])), (atp, .inl (g.2 0, 16384, .inl (fun _ => 0))), (q14, .inr (1, [.ref a7, .ref a16, .ref a24, .ref a32, .int 0])), (q25, .inr (2, [.ref a7_2, .int 0, .int 0, .int 0, .int 0, .int 0, .int 0, .int 0, .int 0, .int 0])), (q35, .inr (3, [.null, .null, .int 0, .null, .null, .null, .int 0, .int 0, .int 0, .int 0, .int 0, .int 0, .int 0]))] H := hP
  have hD : va_D A [(h0, .inr (0, [.ref atp, .int 0, .int 0, .ref q14, .ref q25, .null, .null])), (atp, .inl (g.2 0, 16384, .inl (fun _ => 0))), (q14, .inr (1, [.ref a7, .ref a16, .ref a24, .ref a32, .int 0])), (q25, .inr (2, [.ref a7_2, .int 0, .int 0, .int 0, .int 0, .int 0, .int 0, .int 0, .int 0, .int 0])), (q35, .inr (3, [.null, .null, .int 0, .null, .null, .null, .int 0, .int 0, .int 0, .int 0, .int 0, .int 0, .int 0]))] := hD
  refine lv_dup hx hb d_MM_init_38 rfl ?_
  refine go_v (As := [.ref q35]) (g := g) (A := A) (wc := [(q35, .inr (3, [.null, .null, .int 0, .null, .null, .null, .int 0, .int 0, .int 0, .int 0, .int 0, .int 0, .int 0]))]) (wr := [(h0, .inr (0, [.ref atp, .int 0, .int 0, .ref q14, .ref q25, .null, .null])), (atp, .inl (g.2 0, 16384, .inl (fun _ => 0))), (q14, .inr (1, [.ref a7, .ref a16, .ref a24, .ref a32, .int 0])), (q25, .inr (2, [.ref a7_2, .int 0, .int 0, .int 0, .int 0, .int 0, .int 0, .int 0, .int 0, .int 0]))]) [4] [0, 1, 2, 3] rfl rfl rfl rfl (by decide) hP hK hD hS hA hN (fun hp => va_runIN (As := []) (rest := [.ref q35]) ⟨hx, hb, hml, hown, htt⟩ (c_Reckoner_init l g _ q35) ⟨(cb_N (host := "MacroMill") htt k_220 k_219 hN nM_4 hd_Reckoner_init ⟨(by decide +kernel), (by decide +kernel)⟩), rfl, htt _ k_221⟩ hp rfl rfl hl.1 rfl (lv_room (Nat.le_of_ble_eq_true rfl)) d_MM_init_39 ⟨(by decide +kernel), (by decide +kernel)⟩) (fun w9 H locs hw9 hP hD hS => ?_)
  obtain ⟨a8, a17, a26, a35, a44, rfl⟩ := hw9
  refine W.widen (k := 14) (n := 121829) (by decide +kernel) (by decide +kernel) ?_
  have hP : va_P g.1 classes [(h0, .inr (0, [.ref atp, .int 0, .int 0, .ref q14, .ref q25, .null, .null])), (atp, .inl (g.2 0, 16384, .inl (fun _ => 0))), (q14, .inr (1, [.ref a7, .ref a16, .ref a24, .ref a32, .int 0])), (q25, .inr (2, [.ref a7_2, .int 0, .int 0, .int 0, .int 0, .int 0, .int 0, .int 0, .int 0, .int 0])), (q35, .inr (3, [.ref a8, .ref a17, .int 0, .ref a26, .ref a35, .ref a44, .int 0, .int 0, .int 0, .int 0, .int 0, .int 0, .int 0]))] H := hP
  have hD : va_D A [(h0, .inr (0, [.ref atp, .int 0, .int 0, .ref q14, .ref q25, .null, .null])), (atp, .inl (g.2 0, 16384, .inl (fun _ => 0))), (q14, .inr (1, [.ref a7, .ref a16, .ref a24, .ref a32, .int 0])), (q25, .inr (2, [.ref a7_2, .int 0, .int 0, .int 0, .int 0, .int 0, .int 0, .int 0, .int 0, .int 0])), (q35, .inr (3, [.ref a8, .ref a17, .int 0, .ref a26, .ref a35, .ref a44, .int 0, .int 0, .int 0, .int 0, .int 0, .int 0, .int 0]))] := hD
  refine lv_astore_n (lv' := [(1, .ref q35), (0, .ref h0)]) hx hb d_MM_init_42 rfl hl (by decide) rfl (fun ls hl => ?_)
  refine lv_aload_n hx hb d_MM_init_43 rfl (lv_at hl 1 rfl) ?_
  refine va_new (D := g.1) (ci := 4) (fs := [.null, .null, .null, .null, .null, .null, .int 0, .null, .null, .null, .null, .int 0, .int 0, .int 0, .int 0]) (C := "MacroMill$First") (T := F_First) (N := 15) hx hb htt in_First t_First t_First_ok hown (htt _ k_222) (htt _ k_223) (htt _ k_224) hK hP hD hS hA rfl z_First (by decide +kernel) (by decide +kernel) d_MM_init_44 (fun q44 H hP hD hS => ?_)
  refine W.widen (k := 15) (n := 121844) (by decide +kernel) (by decide +kernel) ?_
  have hP : va_P g.1 classes [(h0, .inr (0, [.ref atp, .int 0, .int 0, .ref q14, .ref q25, .null, .null])), (atp, .inl (g.2 0, 16384, .inl (fun _ => 0))), (q14, .inr (1, [.ref a7, .ref a16, .ref a24, .ref a32, .int 0])), (q25, .inr (2, [.ref a7_2, .int 0, .int 0, .int 0, .int 0, .int 0, .int 0, .int 0, .int 0, .int 0])), (q35, .inr (3, [.ref a8, .ref a17, .int 0, .ref a26, .ref a35, .ref a44, .int 0, .int 0, .int 0, .int 0, .int 0, .int 0, .int 0])), (q44, .inr (4, [.null, .null, .null, .null, .null, .null, .int 0, .null, .null, .null, .null, .int 0, .int 0, .int 0, .int 0]))] H := hP
  have hD : va_D A [(h0, .inr (0, [.ref atp, .int 0, .int 0, .ref q14, .ref q25, .null, .null])), (atp, .inl (g.2 0, 16384, .inl (fun _ => 0))), (q14, .inr (1, [.ref a7, .ref a16, .ref a24, .ref a32, .int 0])), (q25, .inr (2, [.ref a7_2, .int 0, .int 0, .int 0, .int 0, .int 0, .int 0, .int 0, .int 0, .int 0])), (q35, .inr (3, [.ref a8, .ref a17, .int 0, .ref a26, .ref a35, .ref a44, .int 0, .int 0, .int 0, .int 0, .int 0, .int 0, .int 0])), (q44, .inr (4, [.null, .null, .null, .null, .null, .null, .int 0, .null, .null, .null, .null, .int 0, .int 0, .int 0, .int 0]))] := hD
  refine lv_dup hx hb d_MM_init_47 rfl ?_
  show W _ _ _ _ _ _ _ _ _ _ _ _ _ _ _ (F0 _ 48 _ _)
  refine lv_aload_n hx hb d_MM_init_48 rfl (lv_at hl 1 rfl) ?_
  refine va_get (D := g.1) (ci := 0) (v := .ref q25) (C := "MacroMill") (T := F_MM) (N := 7) hx hb htt in_MM hown hK hP 0 rfl rfl 4 (by decide) (htt _ k_216) (fun _ h9 => h9) rfl d_MM_init_49 ?_
  refine lv_aload_n hx hb d_MM_init_52 rfl (lv_at hl 0 rfl) ?_
  refine go_v (As := [.ref q44, .ref q25, .ref q35]) (g := g) (A := A) (wc := [(q44, .inr (4, [.null, .null, .null, .null, .null, .null, .int 0, .null, .null, .null, .null, .int 0, .int 0, .int 0, .int 0]))]) (wr := [(h0, .inr (0, [.ref atp, .int 0, .int 0, .ref q14, .ref q25, .null, .null])), (atp, .inl (g.2 0, 16384, .inl (fun _ => 0))), (q14, .inr (1, [.ref a7, .ref a16, .ref a24, .ref a32, .int 0])), (q25, .inr (2, [.ref a7_2, .int 0, .int 0, .int 0, .int 0, .int 0, .int 0, .int 0, .int 0, .int 0])), (q35, .inr (3, [.ref a8, .ref a17, .int 0, .ref a26, .ref a35, .ref a44, .int 0, .int 0, .int 0, .int 0, .int 0, .int 0, .int 0]))]) [5] [0, 1, 2, 3, 4] rfl rfl rfl rfl (by decide) hP hK hD hS hA hN (fun hp => va_runI (As := [.ref q25, .ref q35]) (rest := [.ref q44, .ref h0]) ⟨hx, hb, hml, hown, htt⟩ (c_First_init l g _ q44 q25 q35) ⟨(cb_L htt k_225 k_224 k_226 hd_First_init ⟨(by decide +kernel), (by decide +kernel)⟩), rfl, htt _ k_227⟩ hp rfl rfl hl.1 rfl (lv_room (Nat.le_of_ble_eq_true rfl)) d_MM_init_53 ⟨(by decide +kernel), (by decide +kernel)⟩) (fun w9 H locs hw9 hP hD hS => ?_)
  obtain ⟨q5, q16, a29, a37, a45, a53, a61, q77, rfl⟩ := hw9
  refine W.widen (k := 39) (n := 312924) (by decide +kernel) (by decide +kernel) ?_
  have hP : va_P g.1 classes [(h0, .inr (0, [.ref atp, .int 0, .int 0, .ref q14, .ref q25, .null, .null])), (atp, .inl (g.2 0, 16384, .inl (fun _ => 0))), (q14, .inr (1, [.ref a7, .ref a16, .ref a24, .ref a32, .int 0])), (q25, .inr (2, [.ref a7_2, .int 0, .int 0, .int 0, .int 0, .int 0, .int 0, .int 0, .int 0, .int 0])), (q35, .inr (3, [.ref a8, .ref a17, .int 0, .ref a26, .ref a35, .ref a44, .int 0, .int 0, .int 0, .int 0, .int 0, .int 0, .int 0])), (q44, .inr (4, [.ref q25, .ref q35, .ref q77, .ref q5, .ref q16, .ref a29, .int 0, .ref a37, .ref a45, .ref a53, .ref a61, .int 0, .int 0, .int 0, .int 0]))] H := hP
  have hD : va_D A [(h0, .inr (0, [.ref atp, .int 0, .int 0, .ref q14, .ref q25, .null, .null])), (atp, .inl (g.2 0, 16384, .inl (fun _ => 0))), (q14, .inr (1, [.ref a7, .ref a16, .ref a24, .ref a32, .int 0])), (q25, .inr (2, [.ref a7_2, .int 0, .int 0, .int 0, .int 0, .int 0, .int 0, .int 0, .int 0, .int 0])), (q35, .inr (3, [.ref a8, .ref a17, .int 0, .ref a26, .ref a35, .ref a44, .int 0, .int 0, .int 0, .int 0, .int 0, .int 0, .int 0])), (q44, .inr (4, [.ref q25, .ref q35, .ref q77, .ref q5, .ref q16, .ref a29, .int 0, .ref a37, .ref a45, .ref a53, .ref a61, .int 0, .int 0, .int 0, .int 0]))] := hD
  refine va_putF (D := g.1) (ci := 0) (v := .ref q44) (ty := t_MM 5) (C := "MacroMill") (T := F_MM) (N := 7) hx hb htt in_MM t_MM t_MM_ok n_MM hown hK hP hD hS 0 rfl rfl 5 (by decide) (htt _ k_228) (fun _ h9 => h9) rfl hin rfl (t_MM_ok 5 (by decide)) rfl rfl (Nat.le_of_ble_eq_true rfl) d_MM_init_56 (fun H locs hP hD hS => ?_)
  have hP : va_P g.1 classes [(h0, .inr (0, [.ref atp, .int 0, .int 0, .ref q14, .ref q25, .ref q44, .null])), (atp, .inl (g.2 0, 16384, .inl (fun _ => 0))), (q14, .inr (1, [.ref a7, .ref a16, .ref a24, .ref a32, .int 0])), (q25, .inr (2, [.ref a7_2, .int 0, .int 0, .int 0, .int 0, .int 0, .int 0, .int 0, .int 0, .int 0])), (q35, .inr (3, [.ref a8, .ref a17, .int 0, .ref a26, .ref a35, .ref a44, .int 0, .int 0, .int 0, .int 0, .int 0, .int 0, .int 0])), (q44, .inr (4, [.ref q25, .ref q35, .ref q77, .ref q5, .ref q16, .ref a29, .int 0, .ref a37, .ref a45, .ref a53, .ref a61, .int 0, .int 0, .int 0, .int 0]))] H := hP
  have hD : va_D A [(h0, .inr (0, [.ref atp, .int 0, .int 0, .ref q14, .ref q25, .ref q44, .null])), (atp, .inl (g.2 0, 16384, .inl (fun _ => 0))), (q14, .inr (1, [.ref a7, .ref a16, .ref a24, .ref a32, .int 0])), (q25, .inr (2, [.ref a7_2, .int 0, .int 0, .int 0, .int 0, .int 0, .int 0, .int 0, .int 0, .int 0])), (q35, .inr (3, [.ref a8, .ref a17, .int 0, .ref a26, .ref a35, .ref a44, .int 0, .int 0, .int 0, .int 0, .int 0, .int 0, .int 0])), (q44, .inr (4, [.ref q25, .ref q35, .ref q77, .ref q5, .ref q16, .ref a29, .int 0, .ref a37, .ref a45, .ref a53, .ref a61, .int 0, .int 0, .int 0, .int 0]))] := hD
  refine lv_aload_n hx hb d_MM_init_59 rfl (lv_at hl 1 rfl) ?_
  refine va_new (D := g.1) (ci := 8) (fs := [.null, .null, .null, .null, .null, .null, .null, .null, .null, .int 0, .null, .int 0, .int 0, .int 0, .int 0, .int 0, .int 0, .null, .int 0, .int 0, .null, .int 0]) (C := "MacroMill$Second") (T := F_Second) (N := 22) hx hb htt in_Second t_Second t_Second_ok hown (htt _ k_229) (htt _ k_230) (htt _ k_199) hK hP hD hS hA rfl z_Second (by decide +kernel) (by decide +kernel) d_MM_init_60 (fun q60 H hP hD hS => ?_)
  refine W.widen (k := 40) (n := 312946) (by decide +kernel) (by decide +kernel) ?_
  have hP : va_P g.1 classes [(h0, .inr (0, [.ref atp, .int 0, .int 0, .ref q14, .ref q25, .ref q44, .null])), (atp, .inl (g.2 0, 16384, .inl (fun _ => 0))), (q14, .inr (1, [.ref a7, .ref a16, .ref a24, .ref a32, .int 0])), (q25, .inr (2, [.ref a7_2, .int 0, .int 0, .int 0, .int 0, .int 0, .int 0, .int 0, .int 0, .int 0])), (q35, .inr (3, [.ref a8, .ref a17, .int 0, .ref a26, .ref a35, .ref a44, .int 0, .int 0, .int 0, .int 0, .int 0, .int 0, .int 0])), (q44, .inr (4, [.ref q25, .ref q35, .ref q77, .ref q5, .ref q16, .ref a29, .int 0, .ref a37, .ref a45, .ref a53, .ref a61, .int 0, .int 0, .int 0, .int 0])), (q60, .inr (8, [.null, .null, .null, .null, .null, .null, .null, .null, .null, .int 0, .null, .int 0, .int 0, .int 0, .int 0, .int 0, .int 0, .null, .int 0, .int 0, .null, .int 0]))] H := hP
  have hD : va_D A [(h0, .inr (0, [.ref atp, .int 0, .int 0, .ref q14, .ref q25, .ref q44, .null])), (atp, .inl (g.2 0, 16384, .inl (fun _ => 0))), (q14, .inr (1, [.ref a7, .ref a16, .ref a24, .ref a32, .int 0])), (q25, .inr (2, [.ref a7_2, .int 0, .int 0, .int 0, .int 0, .int 0, .int 0, .int 0, .int 0, .int 0])), (q35, .inr (3, [.ref a8, .ref a17, .int 0, .ref a26, .ref a35, .ref a44, .int 0, .int 0, .int 0, .int 0, .int 0, .int 0, .int 0])), (q44, .inr (4, [.ref q25, .ref q35, .ref q77, .ref q5, .ref q16, .ref a29, .int 0, .ref a37, .ref a45, .ref a53, .ref a61, .int 0, .int 0, .int 0, .int 0])), (q60, .inr (8, [.null, .null, .null, .null, .null, .null, .null, .null, .null, .int 0, .null, .int 0, .int 0, .int 0, .int 0, .int 0, .int 0, .null, .int 0, .int 0, .null, .int 0]))] := hD
  refine lv_dup hx hb d_MM_init_63 rfl ?_
  refine lv_aload_n hx hb d_MM_init_64 rfl (lv_at hl 1 rfl) ?_
  refine va_get (D := g.1) (ci := 0) (v := .ref q14) (C := "MacroMill") (T := F_MM) (N := 7) hx hb htt in_MM hown hK hP 0 rfl rfl 3 (by decide) (htt _ k_210) (fun _ h9 => h9) rfl d_MM_init_65 ?_
  refine lv_aload_n hx hb d_MM_init_68 rfl (lv_at hl 1 rfl) ?_
  refine va_get (D := g.1) (ci := 0) (v := .ref q25) (C := "MacroMill") (T := F_MM) (N := 7) hx hb htt in_MM hown hK hP 0 rfl rfl 4 (by decide) (htt _ k_216) (fun _ h9 => h9) rfl d_MM_init_69 ?_
  show W _ _ _ _ _ _ _ _ _ _ _ _ _ _ _ (F0 _ 72 _ _)
  refine lv_aload_n hx hb d_MM_init_72 rfl (lv_at hl 0 rfl) ?_
  refine go_v (As := [.ref q60, .ref q14, .ref q25, .ref q35]) (g := g) (A := A) (wc := [(q60, .inr (8, [.null, .null, .null, .null, .null, .null, .null, .null, .null, .int 0, .null, .int 0, .int 0, .int 0, .int 0, .int 0, .int 0, .null, .int 0, .int 0, .null, .int 0]))]) (wr := [(h0, .inr (0, [.ref atp, .int 0, .int 0, .ref q14, .ref q25, .ref q44, .null])), (atp, .inl (g.2 0, 16384, .inl (fun _ => 0))), (q14, .inr (1, [.ref a7, .ref a16, .ref a24, .ref a32, .int 0])), (q25, .inr (2, [.ref a7_2, .int 0, .int 0, .int 0, .int 0, .int 0, .int 0, .int 0, .int 0, .int 0])), (q35, .inr (3, [.ref a8, .ref a17, .int 0, .ref a26, .ref a35, .ref a44, .int 0, .int 0, .int 0, .int 0, .int 0, .int 0, .int 0])), (q44, .inr (4, [.ref q25, .ref q35, .ref q77, .ref q5, .ref q16, .ref a29, .int 0, .ref a37, .ref a45, .ref a53, .ref a61, .int 0, .int 0, .int 0, .int 0]))]) [6] [0, 1, 2, 3, 4, 5] rfl rfl rfl rfl (by decide) hP hK hD hS hA hN (fun hp => va_runI (As := [.ref q14, .ref q25, .ref q35]) (rest := [.ref q60, .ref h0]) ⟨hx, hb, hml, hown, htt⟩ (c_Second_init l g _ q60 q14 q25 q35) ⟨(cb_L htt k_231 k_199 k_232 hd_Second_init ⟨(by decide +kernel), (by decide +kernel)⟩), rfl, htt _ k_233⟩ hp rfl rfl hl.1 rfl (lv_room (Nat.le_of_ble_eq_true rfl)) d_MM_init_73 ⟨(by decide +kernel), (by decide +kernel)⟩) (fun w9 H locs hw9 hP hD hS => ?_)
  obtain ⟨q5_2, q16_2, a8_2, ab, a26_2, a35_2, a44_2, a53_2, a62, a71, a80, a89, asb, a107, a115, a123, a33, a41, a49, a57, a65, q86, q103, fl, rfl, h_fl⟩ := hw9
  refine W.widen (k := 86) (n := 910254) (by decide +kernel) (by decide +kernel) ?_
  have hP : va_P g.1 classes [(h0, .inr (0, [.ref atp, .int 0, .int 0, .ref q14, .ref q25, .ref q44, .null])), (atp, .inl (g.2 0, 16384, .inl (fun _ => 0))), (q14, .inr (1, [.ref a7, .ref a16, .ref a24, .ref a32, .int 0])), (q25, .inr (2, [.ref a7_2, .int 0, .int 0, .int 0, .int 0, .int 0, .int 0, .int 0, .int 0, .int 0])), (q35, .inr (3, [.ref a8, .ref a17, .int 0, .ref a26, .ref a35, .ref a44, .int 0, .int 0, .int 0, .int 0, .int 0, .int 0, .int 0])), (q44, .inr (4, [.ref q25, .ref q35, .ref q77, .ref q5, .ref q16, .ref a29, .int 0, .ref a37, .ref a45, .ref a53, .ref a61, .int 0, .int 0, .int 0, .int 0])), (q60, .inr (8, [.ref q14, .ref q25, .ref q35, .ref q5_2, .ref q16_2, .ref q86, .ref q103, .ref a33, .ref a41, .int 0, .ref a49, .int 0, .int 0, .int 0, .int 0, .int 0, .int 0, .ref a57, .int 0, .int 0, .ref a65, .int 0])), (q16_2, .inr (10, [.ref q5_2, .ref a8_2, .ref ab, .ref a26_2, .int 0, .int 0, .ref a35_2, .ref a44_2, .ref a53_2, .ref a62, .ref a71, .ref a80, .int 0, .ref a89, .ref asb, .ref a107, .int 0, .ref a115, .ref a123])), (ab, .inl (g.2 1, 512, .inl fl))] H := hP
  have hD : va_D A [(h0, .inr (0, [.ref atp, .int 0, .int 0, .ref q14, .ref q25, .ref q44, .null])), (atp, .inl (g.2 0, 16384, .inl (fun _ => 0))), (q14, .inr (1, [.ref a7, .ref a16, .ref a24, .ref a32, .int 0])), (q25, .inr (2, [.ref a7_2, .int 0, .int 0, .int 0, .int 0, .int 0, .int 0, .int 0, .int 0, .int 0])), (q35, .inr (3, [.ref a8, .ref a17, .int 0, .ref a26, .ref a35, .ref a44, .int 0, .int 0, .int 0, .int 0, .int 0, .int 0, .int 0])), (q44, .inr (4, [.ref q25, .ref q35, .ref q77, .ref q5, .ref q16, .ref a29, .int 0, .ref a37, .ref a45, .ref a53, .ref a61, .int 0, .int 0, .int 0, .int 0])), (q60, .inr (8, [.ref q14, .ref q25, .ref q35, .ref q5_2, .ref q16_2, .ref q86, .ref q103, .ref a33, .ref a41, .int 0, .ref a49, .int 0, .int 0, .int 0, .int 0, .int 0, .int 0, .ref a57, .int 0, .int 0, .ref a65, .int 0])), (q16_2, .inr (10, [.ref q5_2, .ref a8_2, .ref ab, .ref a26_2, .int 0, .int 0, .ref a35_2, .ref a44_2, .ref a53_2, .ref a62, .ref a71, .ref a80, .int 0, .ref a89, .ref asb, .ref a107, .int 0, .ref a115, .ref a123])), (ab, .inl (g.2 1, 512, .inl fl))] := hD
  refine va_putF (D := g.1) (ci := 0) (v := .ref q60) (ty := t_MM 6) (C := "MacroMill") (T := F_MM) (N := 7) hx hb htt in_MM t_MM t_MM_ok n_MM hown hK hP hD hS 0 rfl rfl 6 (by decide) (htt _ k_234) (fun _ h9 => h9) rfl hin rfl (t_MM_ok 6 (by decide)) rfl rfl (Nat.le_of_ble_eq_true rfl) d_MM_init_76 (fun H locs hP hD hS => ?_)
  have hP : va_P g.1 classes [(h0, .inr (0, [.ref atp, .int 0, .int 0, .ref q14, .ref q25, .ref q44, .ref q60])), (atp, .inl (g.2 0, 16384, .inl (fun _ => 0))), (q14, .inr (1, [.ref a7, .ref a16, .ref a24, .ref a32, .int 0])), (q25, .inr (2, [.ref a7_2, .int 0, .int 0, .int 0, .int 0, .int 0, .int 0, .int 0, .int 0, .int 0])), (q35, .inr (3, [.ref a8, .ref a17, .int 0, .ref a26, .ref a35, .ref a44, .int 0, .int 0, .int 0, .int 0, .int 0, .int 0, .int 0])), (q44, .inr (4, [.ref q25, .ref q35, .ref q77, .ref q5, .ref q16, .ref a29, .int 0, .ref a37, .ref a45, .ref a53, .ref a61, .int 0, .int 0, .int 0, .int 0])), (q60, .inr (8, [.ref q14, .ref q25, .ref q35, .ref q5_2, .ref q16_2, .ref q86, .ref q103, .ref a33, .ref a41, .int 0, .ref a49, .int 0, .int 0, .int 0, .int 0, .int 0, .int 0, .ref a57, .int 0, .int 0, .ref a65, .int 0])), (q16_2, .inr (10, [.ref q5_2, .ref a8_2, .ref ab, .ref a26_2, .int 0, .int 0, .ref a35_2, .ref a44_2, .ref a53_2, .ref a62, .ref a71, .ref a80, .int 0, .ref a89, .ref asb, .ref a107, .int 0, .ref a115, .ref a123])), (ab, .inl (g.2 1, 512, .inl fl))] H := hP
  have hD : va_D A [(h0, .inr (0, [.ref atp, .int 0, .int 0, .ref q14, .ref q25, .ref q44, .ref q60])), (atp, .inl (g.2 0, 16384, .inl (fun _ => 0))), (q14, .inr (1, [.ref a7, .ref a16, .ref a24, .ref a32, .int 0])), (q25, .inr (2, [.ref a7_2, .int 0, .int 0, .int 0, .int 0, .int 0, .int 0, .int 0, .int 0, .int 0])), (q35, .inr (3, [.ref a8, .ref a17, .int 0, .ref a26, .ref a35, .ref a44, .int 0, .int 0, .int 0, .int 0, .int 0, .int 0, .int 0])), (q44, .inr (4, [.ref q25, .ref q35, .ref q77, .ref q5, .ref q16, .ref a29, .int 0, .ref a37, .ref a45, .ref a53, .ref a61, .int 0, .int 0, .int 0, .int 0])), (q60, .inr (8, [.ref q14, .ref q25, .ref q35, .ref q5_2, .ref q16_2, .ref q86, .ref q103, .ref a33, .ref a41, .int 0, .ref a49, .int 0, .int 0, .int 0, .int 0, .int 0, .int 0, .ref a57, .int 0, .int 0, .ref a65, .int 0])), (q16_2, .inr (10, [.ref q5_2, .ref a8_2, .ref ab, .ref a26_2, .int 0, .int 0, .ref a35_2, .ref a44_2, .ref a53_2, .ref a62, .ref a71, .ref a80, .int 0, .ref a89, .ref asb, .ref a107, .int 0, .ref a115, .ref a123])), (ab, .inl (g.2 1, 512, .inl fl))] := hD
  have hP := va_PsubM (ws' := [(h0, .inr (0, [.ref atp, .int 0, .int 0, .ref q14, .ref q25, .ref q44, .ref q60])), (atp, .inl (g.2 0, 16384, .inl (fun _ => 0))), (q14, .inr (1, [.ref a7, .ref a16, .ref a24, .ref a32, .int 0])), (q25, .inr (2, [.ref a7_2, .int 0, .int 0, .int 0, .int 0, .int 0, .int 0, .int 0, .int 0, .int 0])), (q60, .inr (8, [.ref q14, .ref q25, .ref q35, .ref q5_2, .ref q16_2, .ref q86, .ref q103, .ref a33, .ref a41, .int 0, .ref a49, .int 0, .int 0, .int 0, .int 0, .int 0, .int 0, .ref a57, .int 0, .int 0, .ref a65, .int 0])), (q16_2, .inr (10, [.ref q5_2, .ref a8_2, .ref ab, .ref a26_2, .int 0, .int 0, .ref a35_2, .ref a44_2, .ref a53_2, .ref a62, .ref a71, .ref a80, .int 0, .ref a89, .ref asb, .ref a107, .int 0, .ref a115, .ref a123])), (ab, .inl (g.2 1, 512, .inl fl))]) hP [0, 1, 2, 3, 6, 7, 8] rfl
  have hD := hD.sub (ws' := [(h0, .inr (0, [.ref atp, .int 0, .int 0, .ref q14, .ref q25, .ref q44, .ref q60])), (atp, .inl (g.2 0, 16384, .inl (fun _ => 0))), (q14, .inr (1, [.ref a7, .ref a16, .ref a24, .ref a32, .int 0])), (q25, .inr (2, [.ref a7_2, .int 0, .int 0, .int 0, .int 0, .int 0, .int 0, .int 0, .int 0, .int 0])), (q60, .inr (8, [.ref q14, .ref q25, .ref q35, .ref q5_2, .ref q16_2, .ref q86, .ref q103, .ref a33, .ref a41, .int 0, .ref a49, .int 0, .int 0, .int 0, .int 0, .int 0, .int 0, .ref a57, .int 0, .int 0, .ref a65, .int 0])), (q16_2, .inr (10, [.ref q5_2, .ref a8_2, .ref ab, .ref a26_2, .int 0, .int 0, .ref a35_2, .ref a44_2, .ref a53_2, .ref a62, .ref a71, .ref a80, .int 0, .ref a89, .ref asb, .ref a107, .int 0, .ref a115, .ref a123])), (ab, .inl (g.2 1, 512, .inl fl))]) [0, 1, 2, 3, 6, 7, 8] rfl rfl
  exact fin_v (g := g) (ws := [(h0, .inr (0, [.ref atp, .int 0, .int 0, .ref q14, .ref q25, .ref q44, .ref q60])), (atp, .inl (g.2 0, 16384, .inl (fun _ => 0))), (q14, .inr (1, [.ref a7, .ref a16, .ref a24, .ref a32, .int 0])), (q25, .inr (2, [.ref a7_2, .int 0, .int 0, .int 0, .int 0, .int 0, .int 0, .int 0, .int 0, .int 0])), (q60, .inr (8, [.ref q14, .ref q25, .ref q35, .ref q5_2, .ref q16_2, .ref q86, .ref q103, .ref a33, .ref a41, .int 0, .ref a49, .int 0, .int 0, .int 0, .int 0, .int 0, .int 0, .ref a57, .int 0, .int 0, .ref a65, .int 0])), (q16_2, .inr (10, [.ref q5_2, .ref a8_2, .ref ab, .ref a26_2, .int 0, .int 0, .ref a35_2, .ref a44_2, .ref a53_2, .ref a62, .ref a71, .ref a80, .int 0, .ref a89, .ref asb, .ref a107, .int 0, .ref a115, .ref a123])), (ab, .inl (g.2 1, 512, .inl fl))]) hx hb hr hlocks (by decide +kernel) (by decide +kernel) hP hD hS ⟨atp, q14, a7, a16, a24, a32, q25, a7_2, q35, q44, q60, q5_2, q16_2, a8_2, ab, a26_2, a35_2, a44_2, a53_2, a62, a71, a80, a89, asb, a107, a115, a123, a33, a41, a49, a57, a65, q86, q103, fl, rfl, h_fl⟩ d_MM_init_79
end
