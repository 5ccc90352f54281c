section
-- ===== PART A: goes FIRST, ahead of the names: the tables' words, and 'selects' of the private methods out of them =====
/-- a private method of a class that the tables say can be made, by its rows of tables_1 -/
def lw_okq (q : MethodName × Nat) : Prop := (q.1.cls ≠ "java/lang/invoke/MethodHandle" ∧ q.1.cls ≠ "java/lang/invoke/VarHandle") ∧ Cond.instantiable q.1.cls q.2 ∈ tables_1 ∧ Cond.privateMethod q.1 ∈ tables_1 ∧ Cond.instanceMethod q.1 ∈ tables_1
theorem lw_p0 : lw_okq (⟨"UnderWhitewash", "isMark", "(I)Z"⟩, 13) := ⟨⟨by decide +kernel, by decide +kernel⟩, List.mem_of_getElem? (i := 18) (by decide +kernel), List.mem_of_getElem? (i := 293) (by decide +kernel), List.mem_of_getElem? (i := 294) (by decide +kernel)⟩
theorem lw_p1 : lw_okq (⟨"UnderWhitewash", "sumOf", "(I)I"⟩, 13) := ⟨⟨by decide +kernel, by decide +kernel⟩, List.mem_of_getElem? (i := 18) (by decide +kernel), List.mem_of_getElem? (i := 409) (by decide +kernel), List.mem_of_getElem? (i := 410) (by decide +kernel)⟩
theorem lw_p2 : lw_okq (⟨"UnderWhitewash", "isMissing", "(I)Z"⟩, 13) := ⟨⟨by decide +kernel, by decide +kernel⟩, List.mem_of_getElem? (i := 18) (by decide +kernel), List.mem_of_getElem? (i := 528) (by decide +kernel), List.mem_of_getElem? (i := 529) (by decide +kernel)⟩
theorem lw_p3 : lw_okq (⟨"UnderWhitewash", "sumDifferences", "(LUnderWhitewash$Sheet;)V"⟩, 13) := ⟨⟨by decide +kernel, by decide +kernel⟩, List.mem_of_getElem? (i := 18) (by decide +kernel), List.mem_of_getElem? (i := 533) (by decide +kernel), List.mem_of_getElem? (i := 534) (by decide +kernel)⟩
theorem lw_p4 : lw_okq (⟨"UnderWhitewash", "putBytes", "(I)V"⟩, 13) := ⟨⟨by decide +kernel, by decide +kernel⟩, List.mem_of_getElem? (i := 18) (by decide +kernel), List.mem_of_getElem? (i := 554) (by decide +kernel), List.mem_of_getElem? (i := 555) (by decide +kernel)⟩
theorem lw_p5 : lw_okq (⟨"UnderWhitewash$Reader", "readLevel", "(III)V"⟩, 10) := ⟨⟨by decide +kernel, by decide +kernel⟩, List.mem_of_getElem? (i := 134) (by decide +kernel), List.mem_of_getElem? (i := 637) (by decide +kernel), List.mem_of_getElem? (i := 638) (by decide +kernel)⟩
theorem lw_p6 : lw_okq (⟨"UnderWhitewash$Reader", "readPiece", "(II)V"⟩, 10) := ⟨⟨by decide +kernel, by decide +kernel⟩, List.mem_of_getElem? (i := 134) (by decide +kernel), List.mem_of_getElem? (i := 641) (by decide +kernel), List.mem_of_getElem? (i := 642) (by decide +kernel)⟩
theorem lw_p7 : lw_okq (⟨"UnderWhitewashModel", "comes", "(IIII)V"⟩, 31) := ⟨⟨by decide +kernel, by decide +kernel⟩, List.mem_of_getElem? (i := 837) (by decide +kernel), List.mem_of_getElem? (i := 952) (by decide +kernel), List.mem_of_getElem? (i := 953) (by decide +kernel)⟩
theorem lw_p8 : lw_okq (⟨"UnderWhitewashModel", "sets", "(III)V"⟩, 31) := ⟨⟨by decide +kernel, by decide +kernel⟩, List.mem_of_getElem? (i := 837) (by decide +kernel), List.mem_of_getElem? (i := 956) (by decide +kernel), List.mem_of_getElem? (i := 957) (by decide +kernel)⟩
theorem lw_p9 : lw_okq (⟨"UnderWhitewashModel", "isMark", "(I)Z"⟩, 31) := ⟨⟨by decide +kernel, by decide +kernel⟩, List.mem_of_getElem? (i := 837) (by decide +kernel), List.mem_of_getElem? (i := 964) (by decide +kernel), List.mem_of_getElem? (i := 965) (by decide +kernel)⟩
theorem lw_p10 : lw_okq (⟨"UnderWhitewashModel", "shows", "(I)I"⟩, 31) := ⟨⟨by decide +kernel, by decide +kernel⟩, List.mem_of_getElem? (i := 837) (by decide +kernel), List.mem_of_getElem? (i := 969) (by decide +kernel), List.mem_of_getElem? (i := 970) (by decide +kernel)⟩
theorem lw_p11 : lw_okq (⟨"UnderWhitewashModel", "plain", "(I)I"⟩, 31) := ⟨⟨by decide +kernel, by decide +kernel⟩, List.mem_of_getElem? (i := 837) (by decide +kernel), List.mem_of_getElem? (i := 973) (by decide +kernel), List.mem_of_getElem? (i := 974) (by decide +kernel)⟩
theorem lw_p12 : lw_okq (⟨"UnderWhitewashModel", "counts", "(I)I"⟩, 31) := ⟨⟨by decide +kernel, by decide +kernel⟩, List.mem_of_getElem? (i := 837) (by decide +kernel), List.mem_of_getElem? (i := 977) (by decide +kernel), List.mem_of_getElem? (i := 978) (by decide +kernel)⟩
theorem lw_p13 : lw_okq (⟨"UnderWhitewashModel", "textAt", "(I)I"⟩, 31) := ⟨⟨by decide +kernel, by decide +kernel⟩, List.mem_of_getElem? (i := 837) (by decide +kernel), List.mem_of_getElem? (i := 981) (by decide +kernel), List.mem_of_getElem? (i := 982) (by decide +kernel)⟩
theorem lw_p14 : lw_okq (⟨"UnderWhitewashModel", "of", "(II)I"⟩, 31) := ⟨⟨by decide +kernel, by decide +kernel⟩, List.mem_of_getElem? (i := 837) (by decide +kernel), List.mem_of_getElem? (i := 985) (by decide +kernel), List.mem_of_getElem? (i := 986) (by decide +kernel)⟩
theorem lw_p15 : lw_okq (⟨"UnderWhitewashModel", "marksIn", "(I)I"⟩, 31) := ⟨⟨by decide +kernel, by decide +kernel⟩, List.mem_of_getElem? (i := 837) (by decide +kernel), List.mem_of_getElem? (i := 992) (by decide +kernel), List.mem_of_getElem? (i := 993) (by decide +kernel)⟩
def lw_privs_1 : List (MethodName × Nat) := [(⟨"UnderWhitewash", "isMark", "(I)Z"⟩, 13), (⟨"UnderWhitewash", "sumOf", "(I)I"⟩, 13), (⟨"UnderWhitewash", "isMissing", "(I)Z"⟩, 13), (⟨"UnderWhitewash", "sumDifferences", "(LUnderWhitewash$Sheet;)V"⟩, 13), (⟨"UnderWhitewash", "putBytes", "(I)V"⟩, 13), (⟨"UnderWhitewash$Reader", "readLevel", "(III)V"⟩, 10), (⟨"UnderWhitewash$Reader", "readPiece", "(II)V"⟩, 10), (⟨"UnderWhitewashModel", "comes", "(IIII)V"⟩, 31), (⟨"UnderWhitewashModel", "sets", "(III)V"⟩, 31), (⟨"UnderWhitewashModel", "isMark", "(I)Z"⟩, 31), (⟨"UnderWhitewashModel", "shows", "(I)I"⟩, 31), (⟨"UnderWhitewashModel", "plain", "(I)I"⟩, 31), (⟨"UnderWhitewashModel", "counts", "(I)I"⟩, 31), (⟨"UnderWhitewashModel", "textAt", "(I)I"⟩, 31), (⟨"UnderWhitewashModel", "of", "(II)I"⟩, 31), (⟨"UnderWhitewashModel", "marksIn", "(I)I"⟩, 31)]
theorem lw_r1 : ∀ q ∈ lw_privs_1, lw_okq q := List.forall_mem_cons.mpr ⟨lw_p0, List.forall_mem_cons.mpr ⟨lw_p1, List.forall_mem_cons.mpr ⟨lw_p2, List.forall_mem_cons.mpr ⟨lw_p3, List.forall_mem_cons.mpr ⟨lw_p4, List.forall_mem_cons.mpr ⟨lw_p5, List.forall_mem_cons.mpr ⟨lw_p6, List.forall_mem_cons.mpr ⟨lw_p7, List.forall_mem_cons.mpr ⟨lw_p8, List.forall_mem_cons.mpr ⟨lw_p9, List.forall_mem_cons.mpr ⟨lw_p10, List.forall_mem_cons.mpr ⟨lw_p11, List.forall_mem_cons.mpr ⟨lw_p12, List.forall_mem_cons.mpr ⟨lw_p13, List.forall_mem_cons.mpr ⟨lw_p14, List.forall_mem_cons.mpr ⟨lw_p15, fun _ h => absurd h List.not_mem_nil⟩⟩⟩⟩⟩⟩⟩⟩⟩⟩⟩⟩⟩⟩⟩⟩
theorem lw_p16 : lw_okq (⟨"UnderWhitewashModel", "worked", "(I)I"⟩, 31) := ⟨⟨by decide +kernel, by decide +kernel⟩, List.mem_of_getElem? (i := 837) (by decide +kernel), List.mem_of_getElem? (i := 999) (by decide +kernel), List.mem_of_getElem? (i := 1000) (by decide +kernel)⟩
theorem lw_p17 : lw_okq (⟨"UnderWhitewashModel", "sinks", "(I)I"⟩, 31) := ⟨⟨by decide +kernel, by decide +kernel⟩, List.mem_of_getElem? (i := 837) (by decide +kernel), List.mem_of_getElem? (i := 1009) (by decide +kernel), List.mem_of_getElem? (i := 1010) (by decide +kernel)⟩
theorem lw_p18 : lw_okq (⟨"UnderWhitewashModel", "fades", "(I)I"⟩, 31) := ⟨⟨by decide +kernel, by decide +kernel⟩, List.mem_of_getElem? (i := 837) (by decide +kernel), List.mem_of_getElem? (i := 1013) (by decide +kernel), List.mem_of_getElem? (i := 1014) (by decide +kernel)⟩
theorem lw_p19 : lw_okq (⟨"UnderWhitewashModel", "worth", "(I)I"⟩, 31) := ⟨⟨by decide +kernel, by decide +kernel⟩, List.mem_of_getElem? (i := 837) (by decide +kernel), List.mem_of_getElem? (i := 1017) (by decide +kernel), List.mem_of_getElem? (i := 1018) (by decide +kernel)⟩
theorem lw_p20 : lw_okq (⟨"UnderWhitewashModel", "changes", "(II)I"⟩, 31) := ⟨⟨by decide +kernel, by decide +kernel⟩, List.mem_of_getElem? (i := 837) (by decide +kernel), List.mem_of_getElem? (i := 1033) (by decide +kernel), List.mem_of_getElem? (i := 1034) (by decide +kernel)⟩
theorem lw_p21 : lw_okq (⟨"UnderWhitewashModel", "shownBy", "(I)I"⟩, 31) := ⟨⟨by decide +kernel, by decide +kernel⟩, List.mem_of_getElem? (i := 837) (by decide +kernel), List.mem_of_getElem? (i := 1051) (by decide +kernel), List.mem_of_getElem? (i := 1052) (by decide +kernel)⟩
theorem lw_p22 : lw_okq (⟨"UnderWhitewashModel", "drawn", "()I"⟩, 31) := ⟨⟨by decide +kernel, by decide +kernel⟩, List.mem_of_getElem? (i := 837) (by decide +kernel), List.mem_of_getElem? (i := 1067) (by decide +kernel), List.mem_of_getElem? (i := 1068) (by decide +kernel)⟩
theorem lw_p23 : lw_okq (⟨"UnderWhitewashModel", "isBreathedOn", "(I)I"⟩, 31) := ⟨⟨by decide +kernel, by decide +kernel⟩, List.mem_of_getElem? (i := 837) (by decide +kernel), List.mem_of_getElem? (i := 1086) (by decide +kernel), List.mem_of_getElem? (i := 1087) (by decide +kernel)⟩
theorem lw_p24 : lw_okq (⟨"UnderWhitewashModel", "legible", "()I"⟩, 31) := ⟨⟨by decide +kernel, by decide +kernel⟩, List.mem_of_getElem? (i := 837) (by decide +kernel), List.mem_of_getElem? (i := 1090) (by decide +kernel), List.mem_of_getElem? (i := 1091) (by decide +kernel)⟩
theorem lw_p25 : lw_okq (⟨"UnderWhitewashModel", "isLegible", "(I)Z"⟩, 31) := ⟨⟨by decide +kernel, by decide +kernel⟩, List.mem_of_getElem? (i := 837) (by decide +kernel), List.mem_of_getElem? (i := 1094) (by decide +kernel), List.mem_of_getElem? (i := 1095) (by decide +kernel)⟩
theorem lw_p26 : lw_okq (⟨"UnderWhitewashModel", "isDug", "(II)I"⟩, 31) := ⟨⟨by decide +kernel, by decide +kernel⟩, List.mem_of_getElem? (i := 837) (by decide +kernel), List.mem_of_getElem? (i := 1103) (by decide +kernel), List.mem_of_getElem? (i := 1104) (by decide +kernel)⟩
theorem lw_p27 : lw_okq (⟨"UnderWhitewashModel", "goesOnMany", "(I)V"⟩, 31) := ⟨⟨by decide +kernel, by decide +kernel⟩, List.mem_of_getElem? (i := 837) (by decide +kernel), List.mem_of_getElem? (i := 1111) (by decide +kernel), List.mem_of_getElem? (i := 1112) (by decide +kernel)⟩
theorem lw_p28 : lw_okq (⟨"UnderWhitewashModel", "goesOn", "()V"⟩, 31) := ⟨⟨by decide +kernel, by decide +kernel⟩, List.mem_of_getElem? (i := 837) (by decide +kernel), List.mem_of_getElem? (i := 1115) (by decide +kernel), List.mem_of_getElem? (i := 1116) (by decide +kernel)⟩
theorem lw_p29 : lw_okq (⟨"UnderWhitewashModel", "isCoated", "(I)V"⟩, 31) := ⟨⟨by decide +kernel, by decide +kernel⟩, List.mem_of_getElem? (i := 837) (by decide +kernel), List.mem_of_getElem? (i := 1119) (by decide +kernel), List.mem_of_getElem? (i := 1120) (by decide +kernel)⟩
theorem lw_p30 : lw_okq (⟨"UnderWhitewashModel", "wallsOf", "(I)I"⟩, 31) := ⟨⟨by decide +kernel, by decide +kernel⟩, List.mem_of_getElem? (i := 837) (by decide +kernel), List.mem_of_getElem? (i := 1127) (by decide +kernel), List.mem_of_getElem? (i := 1128) (by decide +kernel)⟩
theorem lw_p31 : lw_okq (⟨"UnderWhitewashModel", "sumOf", "(I)I"⟩, 31) := ⟨⟨by decide +kernel, by decide +kernel⟩, List.mem_of_getElem? (i := 837) (by decide +kernel), List.mem_of_getElem? (i := 1131) (by decide +kernel), List.mem_of_getElem? (i := 1132) (by decide +kernel)⟩
def lw_privs_2 : List (MethodName × Nat) := [(⟨"UnderWhitewashModel", "worked", "(I)I"⟩, 31), (⟨"UnderWhitewashModel", "sinks", "(I)I"⟩, 31), (⟨"UnderWhitewashModel", "fades", "(I)I"⟩, 31), (⟨"UnderWhitewashModel", "worth", "(I)I"⟩, 31), (⟨"UnderWhitewashModel", "changes", "(II)I"⟩, 31), (⟨"UnderWhitewashModel", "shownBy", "(I)I"⟩, 31), (⟨"UnderWhitewashModel", "drawn", "()I"⟩, 31), (⟨"UnderWhitewashModel", "isBreathedOn", "(I)I"⟩, 31), (⟨"UnderWhitewashModel", "legible", "()I"⟩, 31), (⟨"UnderWhitewashModel", "isLegible", "(I)Z"⟩, 31), (⟨"UnderWhitewashModel", "isDug", "(II)I"⟩, 31), (⟨"UnderWhitewashModel", "goesOnMany", "(I)V"⟩, 31), (⟨"UnderWhitewashModel", "goesOn", "()V"⟩, 31), (⟨"UnderWhitewashModel", "isCoated", "(I)V"⟩, 31), (⟨"UnderWhitewashModel", "wallsOf", "(I)I"⟩, 31), (⟨"UnderWhitewashModel", "sumOf", "(I)I"⟩, 31)]
theorem lw_r2 : ∀ q ∈ lw_privs_2, lw_okq q := List.forall_mem_cons.mpr ⟨lw_p16, List.forall_mem_cons.mpr ⟨lw_p17, List.forall_mem_cons.mpr ⟨lw_p18, List.forall_mem_cons.mpr ⟨lw_p19, List.forall_mem_cons.mpr ⟨lw_p20, List.forall_mem_cons.mpr ⟨lw_p21, List.forall_mem_cons.mpr ⟨lw_p22, List.forall_mem_cons.mpr ⟨lw_p23, List.forall_mem_cons.mpr ⟨lw_p24, List.forall_mem_cons.mpr ⟨lw_p25, List.forall_mem_cons.mpr ⟨lw_p26, List.forall_mem_cons.mpr ⟨lw_p27, List.forall_mem_cons.mpr ⟨lw_p28, List.forall_mem_cons.mpr ⟨lw_p29, List.forall_mem_cons.mpr ⟨lw_p30, List.forall_mem_cons.mpr ⟨lw_p31, fun _ h => absurd h List.not_mem_nil⟩⟩⟩⟩⟩⟩⟩⟩⟩⟩⟩⟩⟩⟩⟩⟩
theorem lw_p32 : lw_okq (⟨"UnderWhitewashModel", "narrowest", "()I"⟩, 31) := ⟨⟨by decide +kernel, by decide +kernel⟩, List.mem_of_getElem? (i := 837) (by decide +kernel), List.mem_of_getElem? (i := 1135) (by decide +kernel), List.mem_of_getElem? (i := 1136) (by decide +kernel)⟩
theorem lw_p33 : lw_okq (⟨"UnderWhitewashModel", "laysBy", "()V"⟩, 31) := ⟨⟨by decide +kernel, by decide +kernel⟩, List.mem_of_getElem? (i := 837) (by decide +kernel), List.mem_of_getElem? (i := 1143) (by decide +kernel), List.mem_of_getElem? (i := 1144) (by decide +kernel)⟩
theorem lw_p34 : lw_okq (⟨"UnderWhitewashModel", "laysBack", "()V"⟩, 31) := ⟨⟨by decide +kernel, by decide +kernel⟩, List.mem_of_getElem? (i := 837) (by decide +kernel), List.mem_of_getElem? (i := 1147) (by decide +kernel), List.mem_of_getElem? (i := 1148) (by decide +kernel)⟩
theorem lw_p35 : lw_okq (⟨"UnderWhitewashModel", "mostBy", "(IIII)I"⟩, 31) := ⟨⟨by decide +kernel, by decide +kernel⟩, List.mem_of_getElem? (i := 837) (by decide +kernel), List.mem_of_getElem? (i := 1171) (by decide +kernel), List.mem_of_getElem? (i := 1172) (by decide +kernel)⟩
theorem lw_p36 : lw_okq (⟨"UnderWhitewashModel", "parse", "()I"⟩, 31) := ⟨⟨by decide +kernel, by decide +kernel⟩, List.mem_of_getElem? (i := 837) (by decide +kernel), List.mem_of_getElem? (i := 1204) (by decide +kernel), List.mem_of_getElem? (i := 1205) (by decide +kernel)⟩
theorem lw_p37 : lw_okq (⟨"UnderWhitewashModel", "nextToken", "()V"⟩, 31) := ⟨⟨by decide +kernel, by decide +kernel⟩, List.mem_of_getElem? (i := 837) (by decide +kernel), List.mem_of_getElem? (i := 1208) (by decide +kernel), List.mem_of_getElem? (i := 1209) (by decide +kernel)⟩
theorem lw_p38 : lw_okq (⟨"UnderWhitewashModel", "isLetter", "(I)Z"⟩, 31) := ⟨⟨by decide +kernel, by decide +kernel⟩, List.mem_of_getElem? (i := 837) (by decide +kernel), List.mem_of_getElem? (i := 1212) (by decide +kernel), List.mem_of_getElem? (i := 1213) (by decide +kernel)⟩
theorem lw_p39 : lw_okq (⟨"UnderWhitewashModel", "isDigit", "(I)Z"⟩, 31) := ⟨⟨by decide +kernel, by decide +kernel⟩, List.mem_of_getElem? (i := 837) (by decide +kernel), List.mem_of_getElem? (i := 1218) (by decide +kernel), List.mem_of_getElem? (i := 1219) (by decide +kernel)⟩
theorem lw_p40 : lw_okq (⟨"UnderWhitewashModel", "key", "()I"⟩, 31) := ⟨⟨by decide +kernel, by decide +kernel⟩, List.mem_of_getElem? (i := 837) (by decide +kernel), List.mem_of_getElem? (i := 1224) (by decide +kernel), List.mem_of_getElem? (i := 1225) (by decide +kernel)⟩
theorem lw_p41 : lw_okq (⟨"UnderWhitewashModel", "isWordAt", "(IIII)Z"⟩, 31) := ⟨⟨by decide +kernel, by decide +kernel⟩, List.mem_of_getElem? (i := 837) (by decide +kernel), List.mem_of_getElem? (i := 1228) (by decide +kernel), List.mem_of_getElem? (i := 1229) (by decide +kernel)⟩
theorem lw_p42 : lw_okq (⟨"UnderWhitewashModel", "either", "(I)Z"⟩, 31) := ⟨⟨by decide +kernel, by decide +kernel⟩, List.mem_of_getElem? (i := 837) (by decide +kernel), List.mem_of_getElem? (i := 1232) (by decide +kernel), List.mem_of_getElem? (i := 1233) (by decide +kernel)⟩
theorem lw_p43 : lw_okq (⟨"UnderWhitewashModel", "both", "(I)Z"⟩, 31) := ⟨⟨by decide +kernel, by decide +kernel⟩, List.mem_of_getElem? (i := 837) (by decide +kernel), List.mem_of_getElem? (i := 1236) (by decide +kernel), List.mem_of_getElem? (i := 1237) (by decide +kernel)⟩
theorem lw_p44 : lw_okq (⟨"UnderWhitewashModel", "test", "(I)Z"⟩, 31) := ⟨⟨by decide +kernel, by decide +kernel⟩, List.mem_of_getElem? (i := 837) (by decide +kernel), List.mem_of_getElem? (i := 1240) (by decide +kernel), List.mem_of_getElem? (i := 1241) (by decide +kernel)⟩
theorem lw_p45 : lw_okq (⟨"UnderWhitewashModel", "sum", "(I)Z"⟩, 31) := ⟨⟨by decide +kernel, by decide +kernel⟩, List.mem_of_getElem? (i := 837) (by decide +kernel), List.mem_of_getElem? (i := 1244) (by decide +kernel), List.mem_of_getElem? (i := 1245) (by decide +kernel)⟩
theorem lw_p46 : lw_okq (⟨"UnderWhitewashModel", "term", "(I)Z"⟩, 31) := ⟨⟨by decide +kernel, by decide +kernel⟩, List.mem_of_getElem? (i := 837) (by decide +kernel), List.mem_of_getElem? (i := 1248) (by decide +kernel), List.mem_of_getElem? (i := 1249) (by decide +kernel)⟩
theorem lw_p47 : lw_okq (⟨"UnderWhitewashModel", "part0", "(I)Z"⟩, 31) := ⟨⟨by decide +kernel, by decide +kernel⟩, List.mem_of_getElem? (i := 837) (by decide +kernel), List.mem_of_getElem? (i := 1252) (by decide +kernel), List.mem_of_getElem? (i := 1253) (by decide +kernel)⟩
def lw_privs_3 : List (MethodName × Nat) := [(⟨"UnderWhitewashModel", "narrowest", "()I"⟩, 31), (⟨"UnderWhitewashModel", "laysBy", "()V"⟩, 31), (⟨"UnderWhitewashModel", "laysBack", "()V"⟩, 31), (⟨"UnderWhitewashModel", "mostBy", "(IIII)I"⟩, 31), (⟨"UnderWhitewashModel", "parse", "()I"⟩, 31), (⟨"UnderWhitewashModel", "nextToken", "()V"⟩, 31), (⟨"UnderWhitewashModel", "isLetter", "(I)Z"⟩, 31), (⟨"UnderWhitewashModel", "isDigit", "(I)Z"⟩, 31), (⟨"UnderWhitewashModel", "key", "()I"⟩, 31), (⟨"UnderWhitewashModel", "isWordAt", "(IIII)Z"⟩, 31), (⟨"UnderWhitewashModel", "either", "(I)Z"⟩, 31), (⟨"UnderWhitewashModel", "both", "(I)Z"⟩, 31), (⟨"UnderWhitewashModel", "test", "(I)Z"⟩, 31), (⟨"UnderWhitewashModel", "sum", "(I)Z"⟩, 31), (⟨"UnderWhitewashModel", "term", "(I)Z"⟩, 31), (⟨"UnderWhitewashModel", "part0", "(I)Z"⟩, 31)]
theorem lw_r3 : ∀ q ∈ lw_privs_3, lw_okq q := List.forall_mem_cons.mpr ⟨lw_p32, List.forall_mem_cons.mpr ⟨lw_p33, List.forall_mem_cons.mpr ⟨lw_p34, List.forall_mem_cons.mpr ⟨lw_p35, List.forall_mem_cons.mpr ⟨lw_p36, List.forall_mem_cons.mpr ⟨lw_p37, List.forall_mem_cons.mpr ⟨lw_p38, List.forall_mem_cons.mpr ⟨lw_p39, List.forall_mem_cons.mpr ⟨lw_p40, List.forall_mem_cons.mpr ⟨lw_p41, List.forall_mem_cons.mpr ⟨lw_p42, List.forall_mem_cons.mpr ⟨lw_p43, List.forall_mem_cons.mpr ⟨lw_p44, List.forall_mem_cons.mpr ⟨lw_p45, List.forall_mem_cons.mpr ⟨lw_p46, List.forall_mem_cons.mpr ⟨lw_p47, fun _ h => absurd h List.not_mem_nil⟩⟩⟩⟩⟩⟩⟩⟩⟩⟩⟩⟩⟩⟩⟩⟩
theorem lw_p48 : lw_okq (⟨"UnderWhitewashModel", "step", "(II)V"⟩, 31) := ⟨⟨by decide +kernel, by decide +kernel⟩, List.mem_of_getElem? (i := 837) (by decide +kernel), List.mem_of_getElem? (i := 1256) (by decide +kernel), List.mem_of_getElem? (i := 1257) (by decide +kernel)⟩
theorem lw_p49 : lw_okq (⟨"UnderWhitewashModel", "isSign", "(I)Z"⟩, 31) := ⟨⟨by decide +kernel, by decide +kernel⟩, List.mem_of_getElem? (i := 837) (by decide +kernel), List.mem_of_getElem? (i := 1263) (by decide +kernel), List.mem_of_getElem? (i := 1264) (by decide +kernel)⟩
theorem lw_p50 : lw_okq (⟨"UnderWhitewashModel", "isText", "(I)Z"⟩, 31) := ⟨⟨by decide +kernel, by decide +kernel⟩, List.mem_of_getElem? (i := 837) (by decide +kernel), List.mem_of_getElem? (i := 1271) (by decide +kernel), List.mem_of_getElem? (i := 1272) (by decide +kernel)⟩
theorem lw_p51 : lw_okq (⟨"UnderWhitewashModel", "unlike", "(II)J"⟩, 31) := ⟨⟨by decide +kernel, by decide +kernel⟩, List.mem_of_getElem? (i := 837) (by decide +kernel), List.mem_of_getElem? (i := 1310) (by decide +kernel), List.mem_of_getElem? (i := 1311) (by decide +kernel)⟩
theorem lw_p52 : lw_okq (⟨"UnderWhitewashModel", "setAside", "([I[I)V"⟩, 31) := ⟨⟨by decide +kernel, by decide +kernel⟩, List.mem_of_getElem? (i := 837) (by decide +kernel), List.mem_of_getElem? (i := 1350) (by decide +kernel), List.mem_of_getElem? (i := 1351) (by decide +kernel)⟩
def lw_privs_4 : List (MethodName × Nat) := [(⟨"UnderWhitewashModel", "step", "(II)V"⟩, 31), (⟨"UnderWhitewashModel", "isSign", "(I)Z"⟩, 31), (⟨"UnderWhitewashModel", "isText", "(I)Z"⟩, 31), (⟨"UnderWhitewashModel", "unlike", "(II)J"⟩, 31), (⟨"UnderWhitewashModel", "setAside", "([I[I)V"⟩, 31)]
theorem lw_r4 : ∀ q ∈ lw_privs_4, lw_okq q := List.forall_mem_cons.mpr ⟨lw_p48, List.forall_mem_cons.mpr ⟨lw_p49, List.forall_mem_cons.mpr ⟨lw_p50, List.forall_mem_cons.mpr ⟨lw_p51, List.forall_mem_cons.mpr ⟨lw_p52, fun _ h => absurd h List.not_mem_nil⟩⟩⟩⟩⟩
def lw_privs : List (MethodName × Nat) := lw_privs_1 ++ (lw_privs_2 ++ (lw_privs_3 ++ (lw_privs_4)))
def lw_tbl : List Cond := k2_sels lw_privs ++ tables_1
theorem lw_privs_ok : ∀ q ∈ lw_privs, lw_okq q := by
  show ∀ q ∈ lw_privs_1 ++ (lw_privs_2 ++ (lw_privs_3 ++ (lw_privs_4))), lw_okq q
  exact List.forall_mem_append.mpr ⟨lw_r1, List.forall_mem_append.mpr ⟨lw_r2, List.forall_mem_append.mpr ⟨lw_r3, lw_r4⟩⟩⟩
end
section
def RX0 : String := "UnderWhitewash$Reader"
def TX0 : u_T := fun k => match k with
  | 0 => ("UnderWhitewash$Reader", "steps", "[I", true)
  | 1 => ("UnderWhitewash$Reader", "size", "I", false)
  | 2 => ("UnderWhitewash$Reader", "key", "I", false)
  | 3 => ("UnderWhitewash$Reader", "leaves", "I", false)
  | 4 => ("UnderWhitewash$Reader", "tape", "[I", false)
  | 5 => ("UnderWhitewash$Reader", "length", "I", false)
  | 6 => ("UnderWhitewash$Reader", "sort", "I", false)
  | 7 => ("UnderWhitewash$Reader", "at", "I", false)
  | 8 => ("UnderWhitewash$Reader", "behind", "I", false)
  | _ => ("UnderWhitewash$Reader", "fault", "I", false)
def tyX0 : Nat → FieldType := fun k => match k with
  | 0 => .array .int
  | 1 => .int
  | 2 => .int
  | 3 => .int
  | 4 => .array .int
  | 5 => .int
  | 6 => .int
  | 7 => .int
  | 8 => .int
  | _ => .int
abbrev wsX00 : List Cond := u_ws RX0 TX0 10
theorem nmX0 : ∀ a, a < 10 → ∀ b, b < 10 → a ≠ b → (TX0 a).2.1 ≠ (TX0 b).2.1 := by decide +kernel
theorem tyX0_ok : ∀ k, k < 10 → parseFieldDescriptor (TX0 k).2.2.1 = some (tyX0 k) := by decide +kernel
abbrev cX0_init : ByteArray := prog_2_method_1_code
def yX0_init : MethodName := ⟨RX0, "<init>", "()V"⟩
abbrev cX0_faultOf : ByteArray := prog_2_method_2_code
def yX0_faultOf : MethodName := ⟨RX0, "faultOf", "([II)I"⟩
abbrev cX0_goOn : ByteArray := prog_2_method_3_code
def yX0_goOn : MethodName := ⟨RX0, "goOn", "()V"⟩
abbrev cX0_sortOf : ByteArray := prog_2_method_4_code
def yX0_sortOf : MethodName := ⟨RX0, "sortOf", "(I)I"⟩
abbrev cX0_stop : ByteArray := prog_2_method_5_code
def yX0_stop : MethodName := ⟨RX0, "stop", "()V"⟩
abbrev cX0_isSign : ByteArray := prog_2_method_6_code
def yX0_isSign : MethodName := ⟨RX0, "isSign", "(I)Z"⟩
abbrev cX0_isWord : ByteArray := prog_2_method_7_code
def yX0_isWord : MethodName := ⟨RX0, "isWord", "(Ljava/lang/String;)Z"⟩
abbrev cX0_keyRead : ByteArray := prog_2_method_8_code
def yX0_keyRead : MethodName := ⟨RX0, "keyRead", "()I"⟩
abbrev cX0_nameRead : ByteArray := prog_2_method_9_code
def yX0_nameRead : MethodName := ⟨RX0, "nameRead", "()I"⟩
abbrev cX0_numberRead : ByteArray := prog_2_method_10_code
def yX0_numberRead : MethodName := ⟨RX0, "numberRead", "()I"⟩
abbrev cX0_put : ByteArray := prog_2_method_11_code
def yX0_put : MethodName := ⟨RX0, "put", "(I)V"⟩
abbrev cX0_putLeaf : ByteArray := prog_2_method_12_code
def yX0_putLeaf : MethodName := ⟨RX0, "putLeaf", "(I)V"⟩
abbrev cX0_signsOf : ByteArray := prog_2_method_13_code
def yX0_signsOf : MethodName := ⟨RX0, "signsOf", "(I)Ljava/lang/String;"⟩
abbrev cX0_isSignOf : ByteArray := prog_2_method_14_code
def yX0_isSignOf : MethodName := ⟨RX0, "isSignOf", "(I)Z"⟩
abbrev cX0_readLevel : ByteArray := prog_2_method_15_code
def yX0_readLevel : MethodName := ⟨RX0, "readLevel", "(III)V"⟩
abbrev cX0_readPiece : ByteArray := prog_2_method_16_code
def yX0_readPiece : MethodName := ⟨RX0, "readPiece", "(II)V"⟩
def RX1 : String := "UnderWhitewash$Sheet"
def TX1 : u_T := fun k => match k with
  | 0 => ("UnderWhitewash$Sheet", "row", "[I", true)
  | 1 => ("UnderWhitewash$Sheet", "sort", "I", false)
  | _ => ("UnderWhitewash$Sheet", "places", "I", false)
def tyX1 : Nat → FieldType := fun k => match k with
  | 0 => .array .int
  | 1 => .int
  | _ => .int
abbrev wsX10 : List Cond := u_ws RX1 TX1 3
theorem nmX1 : ∀ a, a < 3 → ∀ b, b < 3 → a ≠ b → (TX1 a).2.1 ≠ (TX1 b).2.1 := by decide +kernel
theorem tyX1_ok : ∀ k, k < 3 → parseFieldDescriptor (TX1 k).2.2.1 = some (tyX1 k) := by decide +kernel
abbrev cX1_init : ByteArray := prog_3_method_1_code
def yX1_init : MethodName := ⟨RX1, "<init>", "()V"⟩
abbrev cX1_clear : ByteArray := prog_3_method_2_code
def yX1_clear : MethodName := ⟨RX1, "clear", "(II)V"⟩
abbrev cX1_become : ByteArray := prog_3_method_3_code
def yX1_become : MethodName := ⟨RX1, "become", "(LUnderWhitewash$Sheet;)V"⟩
abbrev cX1_hasRun : ByteArray := prog_3_method_4_code
def yX1_hasRun : MethodName := ⟨RX1, "hasRun", "(II)Z"⟩
def RX2 : String := "UnderWhitewash$Slot"
def TX2 : u_T := fun k => match k with
  | 0 => ("UnderWhitewash$Slot", "sheet", "LUnderWhitewash$Sheet;", true)
  | 1 => ("UnderWhitewash$Slot", "thing", "I", false)
  | 2 => ("UnderWhitewash$Slot", "number", "I", false)
  | 3 => ("UnderWhitewash$Slot", "kind", "I", false)
  | 4 => ("UnderWhitewash$Slot", "ink", "I", false)
  | _ => ("UnderWhitewash$Slot", "seen", "I", false)
def tyX2 : Nat → FieldType := fun k => match k with
  | 0 => .object "UnderWhitewash$Sheet"
  | 1 => .int
  | 2 => .int
  | 3 => .int
  | 4 => .int
  | _ => .int
abbrev wsX20 : List Cond := u_ws RX2 TX2 6
theorem nmX2 : ∀ a, a < 6 → ∀ b, b < 6 → a ≠ b → (TX2 a).2.1 ≠ (TX2 b).2.1 := by decide +kernel
theorem tyX2_ok : ∀ k, k < 6 → parseFieldDescriptor (TX2 k).2.2.1 = some (tyX2 k) := by decide +kernel
abbrev cX2_init : ByteArray := prog_4_method_1_code
def yX2_init : MethodName := ⟨RX2, "<init>", "()V"⟩
abbrev cX2_takeMark : ByteArray := prog_4_method_2_code
def yX2_takeMark : MethodName := ⟨RX2, "takeMark", "(III)V"⟩
def RX3 : String := "UnderWhitewash$Texts"
def TX3 : u_T := fun k => match k with
  | 0 => ("UnderWhitewash$Texts", "steps", "[[I", true)
  | 1 => ("UnderWhitewash$Texts", "size", "[I", true)
  | 2 => ("UnderWhitewash$Texts", "key", "[I", true)
  | 3 => ("UnderWhitewash$Texts", "leaves", "[I", true)
  | _ => ("UnderWhitewash$Texts", "stack", "[I", true)
def tyX3 : Nat → FieldType := fun k => match k with
  | 0 => .array (.array .int)
  | 1 => .array .int
  | 2 => .array .int
  | 3 => .array .int
  | _ => .array .int
abbrev wsX30 : List Cond := u_ws RX3 TX3 5
theorem nmX3 : ∀ a, a < 5 → ∀ b, b < 5 → a ≠ b → (TX3 a).2.1 ≠ (TX3 b).2.1 := by decide +kernel
theorem tyX3_ok : ∀ k, k < 5 → parseFieldDescriptor (TX3 k).2.2.1 = some (tyX3 k) := by decide +kernel
abbrev cX3_init : ByteArray := prog_5_method_1_code
def yX3_init : MethodName := ⟨RX3, "<init>", "()V"⟩
abbrev cX3_take : ByteArray := prog_5_method_2_code
def yX3_take : MethodName := ⟨RX3, "take", "(ILUnderWhitewash$Reader;)V"⟩
abbrev cX3_gives : ByteArray := prog_5_method_3_code
def yX3_gives : MethodName := ⟨RX3, "gives", "(IIIII)I"⟩
abbrev cX3_joined : ByteArray := prog_5_method_4_code
def yX3_joined : MethodName := ⟨RX3, "joined", "(III)I"⟩
def RX4 : String := "UnderWhitewash$Wall"
def TX4 : u_T := fun k => match k with
  | 0 => ("UnderWhitewash$Wall", "texts", "LUnderWhitewash$Texts;", true)
  | 1 => ("UnderWhitewash$Wall", "wide", "[I", true)
  | 2 => ("UnderWhitewash$Wall", "coats", "[I", true)
  | 3 => ("UnderWhitewash$Wall", "crowd", "[I", true)
  | 4 => ("UnderWhitewash$Wall", "kind", "[I", true)
  | 5 => ("UnderWhitewash$Wall", "ink", "[I", true)
  | 6 => ("UnderWhitewash$Wall", "depth", "[I", true)
  | 7 => ("UnderWhitewash$Wall", "cell", "[I", true)
  | 8 => ("UnderWhitewash$Wall", "seen", "[I", true)
  | 9 => ("UnderWhitewash$Wall", "rules", "[I", true)
  | 10 => ("UnderWhitewash$Wall", "counts", "[I", true)
  | 11 => ("UnderWhitewash$Wall", "marks", "I", false)
  | 12 => ("UnderWhitewash$Wall", "shown", "I", false)
  | 13 => ("UnderWhitewash$Wall", "dug", "I", false)
  | 14 => ("UnderWhitewash$Wall", "spring", "I", false)
  | 15 => ("UnderWhitewash$Wall", "z", "I", false)
  | 16 => ("UnderWhitewash$Wall", "textsTold", "I", false)
  | _ => ("UnderWhitewash$Wall", "bestUnseen", "I", false)
def tyX4 : Nat → FieldType := fun k => match k with
  | 0 => .object "UnderWhitewash$Texts"
  | 1 => .array .int
  | 2 => .array .int
  | 3 => .array .int
  | 4 => .array .int
  | 5 => .array .int
  | 6 => .array .int
  | 7 => .array .int
  | 8 => .array .int
  | 9 => .array .int
  | 10 => .array .int
  | 11 => .int
  | 12 => .int
  | 13 => .int
  | 14 => .int
  | 15 => .int
  | 16 => .int
  | _ => .int
abbrev wsX40 : List Cond := u_ws RX4 TX4 18
theorem nmX4 : ∀ a, a < 18 → ∀ b, b < 18 → a ≠ b → (TX4 a).2.1 ≠ (TX4 b).2.1 := by decide +kernel
theorem tyX4_ok : ∀ k, k < 18 → parseFieldDescriptor (TX4 k).2.2.1 = some (tyX4 k) := by decide +kernel
abbrev cX4_init : ByteArray := prog_6_method_1_code
def yX4_init : MethodName := ⟨RX4, "<init>", "(LUnderWhitewash$Texts;)V"⟩
abbrev cX4_become : ByteArray := prog_6_method_2_code
def yX4_become : MethodName := ⟨RX4, "become", "(LUnderWhitewash$Wall;)V"⟩
abbrev cX4_add : ByteArray := prog_6_method_3_code
def yX4_add : MethodName := ⟨RX4, "add", "(IIII)I"⟩
abbrev cX4_moveTo : ByteArray := prog_6_method_4_code
def yX4_moveTo : MethodName := ⟨RX4, "moveTo", "(II)I"⟩
abbrev cX4_leaveOnly : ByteArray := prog_6_method_5_code
def yX4_leaveOnly : MethodName := ⟨RX4, "leaveOnly", "(I)V"⟩
abbrev cX4_leaveNone : ByteArray := prog_6_method_6_code
def yX4_leaveNone : MethodName := ⟨RX4, "leaveNone", "()V"⟩
abbrev cX4_draw : ByteArray := prog_6_method_7_code
def yX4_draw : MethodName := ⟨RX4, "draw", "()I"⟩
abbrev cX4_plain : ByteArray := prog_6_method_8_code
def yX4_plain : MethodName := ⟨RX4, "plain", "(I)I"⟩
abbrev cX4_shows : ByteArray := prog_6_method_9_code
def yX4_shows : MethodName := ⟨RX4, "shows", "(I)I"⟩
abbrev cX4_sinks : ByteArray := prog_6_method_10_code
def yX4_sinks : MethodName := ⟨RX4, "sinks", "(I)I"⟩
abbrev cX4_fades : ByteArray := prog_6_method_11_code
def yX4_fades : MethodName := ⟨RX4, "fades", "(I)I"⟩
abbrev cX4_isLegible : ByteArray := prog_6_method_12_code
def yX4_isLegible : MethodName := ⟨RX4, "isLegible", "(I)Z"⟩
abbrev cX4_legibleSet : ByteArray := prog_6_method_13_code
def yX4_legibleSet : MethodName := ⟨RX4, "legibleSet", "()I"⟩
abbrev cX4_setIn : ByteArray := prog_6_method_14_code
def yX4_setIn : MethodName := ⟨RX4, "setIn", "(I)I"⟩
abbrev cX4_showIn : ByteArray := prog_6_method_15_code
def yX4_showIn : MethodName := ⟨RX4, "showIn", "(I)I"⟩
abbrev cX4_narrowest : ByteArray := prog_6_method_16_code
def yX4_narrowest : MethodName := ⟨RX4, "narrowest", "()I"⟩
abbrev cX4_total : ByteArray := prog_6_method_17_code
def yX4_total : MethodName := ⟨RX4, "total", "(I)I"⟩
abbrev cX4_sumOfMarks : ByteArray := prog_6_method_18_code
def yX4_sumOfMarks : MethodName := ⟨RX4, "sumOfMarks", "([I)I"⟩
abbrev cX4_coatAll : ByteArray := prog_6_method_19_code
def yX4_coatAll : MethodName := ⟨RX4, "coatAll", "()V"⟩
abbrev cX4_breathOn : ByteArray := prog_6_method_20_code
def yX4_breathOn : MethodName := ⟨RX4, "breathOn", "(I)I"⟩
abbrev cX4_digOut : ByteArray := prog_6_method_21_code
def yX4_digOut : MethodName := ⟨RX4, "digOut", "(II)I"⟩
abbrev cX4_spoonByChance : ByteArray := prog_6_method_22_code
def yX4_spoonByChance : MethodName := ⟨RX4, "spoonByChance", "()V"⟩
abbrev cX4_pass : ByteArray := prog_6_method_23_code
def yX4_pass : MethodName := ⟨RX4, "pass", "(I)V"⟩
def RX5 : String := "UnderWhitewash"
def TX5 : u_T := fun k => match k with
  | 0 => ("UnderWhitewash", "texts", "LUnderWhitewash$Texts;", true)
  | 1 => ("UnderWhitewash", "now", "LUnderWhitewash$Wall;", true)
  | 2 => ("UnderWhitewash", "image", "LUnderWhitewash$Wall;", true)
  | 3 => ("UnderWhitewash", "thought", "LUnderWhitewash$Wall;", true)
  | 4 => ("UnderWhitewash", "imageKept", "Z", false)
  | 5 => ("UnderWhitewash", "reader", "LUnderWhitewash$Reader;", true)
  | 6 => ("UnderWhitewash", "tape", "[I", true)
  | 7 => ("UnderWhitewash", "taped", "I", false)
  | 8 => ("UnderWhitewash", "sheets", "[LUnderWhitewash$Sheet;", true)
  | 9 => ("UnderWhitewash", "slots", "[LUnderWhitewash$Slot;", true)
  | 10 => ("UnderWhitewash", "waiting", "[I", true)
  | 11 => ("UnderWhitewash", "waits", "I", false)
  | _ => ("UnderWhitewash", "byMark", "[I", true)
def tyX5 : Nat → FieldType := fun k => match k with
  | 0 => .object "UnderWhitewash$Texts"
  | 1 => .object "UnderWhitewash$Wall"
  | 2 => .object "UnderWhitewash$Wall"
  | 3 => .object "UnderWhitewash$Wall"
  | 4 => .boolean
  | 5 => .object "UnderWhitewash$Reader"
  | 6 => .array .int
  | 7 => .int
  | 8 => .array (.object "UnderWhitewash$Sheet")
  | 9 => .array (.object "UnderWhitewash$Slot")
  | 10 => .array .int
  | 11 => .int
  | _ => .array .int
abbrev wsX50 : List Cond := u_ws RX5 TX5 13
theorem nmX5 : ∀ a, a < 13 → ∀ b, b < 13 → a ≠ b → (TX5 a).2.1 ≠ (TX5 b).2.1 := by decide +kernel
theorem tyX5_ok : ∀ k, k < 13 → parseFieldDescriptor (TX5 k).2.2.1 = some (tyX5 k) := by decide +kernel
abbrev cX5_init : ByteArray := prog_1_method_1_code
def yX5_init : MethodName := ⟨RX5, "<init>", "()V"⟩
abbrev cX5_writes : ByteArray := prog_1_method_2_code
def yX5_writes : MethodName := ⟨RX5, "writes", "(IIII)I"⟩
abbrev cX5_told : ByteArray := prog_1_method_3_code
def yX5_told : MethodName := ⟨RX5, "told", "(II)I"⟩
abbrev cX5_as : ByteArray := prog_1_method_4_code
def yX5_as : MethodName := ⟨RX5, "as", "(II)I"⟩
abbrev cX5_turns : ByteArray := prog_1_method_5_code
def yX5_turns : MethodName := ⟨RX5, "turns", "(II)I"⟩
abbrev cX5_set : ByteArray := prog_1_method_6_code
def yX5_set : MethodName := ⟨RX5, "set", "(III)I"⟩
abbrev cX5_cell : ByteArray := prog_1_method_7_code
def yX5_cell : MethodName := ⟨RX5, "cell", "(III)I"⟩
abbrev cX5_cellOf : ByteArray := prog_1_method_8_code
def yX5_cellOf : MethodName := ⟨RX5, "cellOf", "(II)I"⟩
abbrev cX5_rule : ByteArray := prog_1_method_9_code
def yX5_rule : MethodName := ⟨RX5, "rule", "(II)I"⟩
abbrev cX5_deal : ByteArray := prog_1_method_10_code
def yX5_deal : MethodName := ⟨RX5, "deal", "(I)I"⟩
abbrev cX5_seed : ByteArray := prog_1_method_11_code
def yX5_seed : MethodName := ⟨RX5, "seed", "(I)I"⟩
abbrev cX5_fewest : ByteArray := prog_1_method_12_code
def yX5_fewest : MethodName := ⟨RX5, "fewest", "(II)I"⟩
abbrev cX5_breathe : ByteArray := prog_1_method_13_code
def yX5_breathe : MethodName := ⟨RX5, "breathe", "(I)I"⟩
abbrev cX5_dig : ByteArray := prog_1_method_14_code
def yX5_dig : MethodName := ⟨RX5, "dig", "(II)I"⟩
abbrev cX5_springs : ByteArray := prog_1_method_15_code
def yX5_springs : MethodName := ⟨RX5, "springs", "(I)I"⟩
abbrev cX5_walls : ByteArray := prog_1_method_16_code
def yX5_walls : MethodName := ⟨RX5, "walls", "(I)I"⟩
abbrev cX5_behind : ByteArray := prog_1_method_17_code
def yX5_behind : MethodName := ⟨RX5, "behind", "(II)I"⟩
abbrev cX5_lost : ByteArray := prog_1_method_18_code
def yX5_lost : MethodName := ⟨RX5, "lost", "(I)I"⟩
abbrev cX5_solid : ByteArray := prog_1_method_19_code
def yX5_solid : MethodName := ⟨RX5, "solid", "(I)I"⟩
abbrev cX5_spoon : ByteArray := prog_1_method_20_code
def yX5_spoon : MethodName := ⟨RX5, "spoon", "(II)I"⟩
abbrev cX5_place : ByteArray := prog_1_method_21_code
def yX5_place : MethodName := ⟨RX5, "place", "(III)I"⟩
abbrev cX5_becomes : ByteArray := prog_1_method_22_code
def yX5_becomes : MethodName := ⟨RX5, "becomes", "(III)I"⟩
abbrev cX5_eyes : ByteArray := prog_1_method_23_code
def yX5_eyes : MethodName := ⟨RX5, "eyes", "(II)I"⟩
abbrev cX5_like : ByteArray := prog_1_method_24_code
def yX5_like : MethodName := ⟨RX5, "like", "(II)I"⟩
abbrev cX5_fee : ByteArray := prog_1_method_25_code
def yX5_fee : MethodName := ⟨RX5, "fee", "()I"⟩
abbrev cX5_fine : ByteArray := prog_1_method_26_code
def yX5_fine : MethodName := ⟨RX5, "fine", "(I)I"⟩
abbrev cX5_feed : ByteArray := prog_1_method_27_code
def yX5_feed : MethodName := ⟨RX5, "feed", "(III)I"⟩
abbrev cX5_trim : ByteArray := prog_1_method_28_code
def yX5_trim : MethodName := ⟨RX5, "trim", "(I)I"⟩
abbrev cX5_text : ByteArray := prog_1_method_29_code
def yX5_text : MethodName := ⟨RX5, "text", "()I"⟩
abbrev cX5_textTold : ByteArray := prog_1_method_30_code
def yX5_textTold : MethodName := ⟨RX5, "textTold", "(II)I"⟩
abbrev cX5_why : ByteArray := prog_1_method_31_code
def yX5_why : MethodName := ⟨RX5, "why", "(I)I"⟩
abbrev cX5_sheet : ByteArray := prog_1_method_32_code
def yX5_sheet : MethodName := ⟨RX5, "sheet", "(III)I"⟩
abbrev cX5_mark : ByteArray := prog_1_method_33_code
def yX5_mark : MethodName := ⟨RX5, "mark", "(III)I"⟩
abbrev cX5_pour : ByteArray := prog_1_method_34_code
def yX5_pour : MethodName := ⟨RX5, "pour", "(I)I"⟩
abbrev cX5_reads : ByteArray := prog_1_method_35_code
def yX5_reads : MethodName := ⟨RX5, "reads", "(I)I"⟩
abbrev cX5_copy : ByteArray := prog_1_method_36_code
def yX5_copy : MethodName := ⟨RX5, "copy", "(IIIII)I"⟩
abbrev cX5_lay : ByteArray := prog_1_method_37_code
def yX5_lay : MethodName := ⟨RX5, "lay", "(III)I"⟩
abbrev cX5_ask : ByteArray := prog_1_method_38_code
def yX5_ask : MethodName := ⟨RX5, "ask", "(II)I"⟩
abbrev cX5_item : ByteArray := prog_1_method_39_code
def yX5_item : MethodName := ⟨RX5, "item", "(II)I"⟩
abbrev cX5_rest : ByteArray := prog_1_method_40_code
def yX5_rest : MethodName := ⟨RX5, "rest", "(II)I"⟩
abbrev cX5_tell : ByteArray := prog_1_method_41_code
def yX5_tell : MethodName := ⟨RX5, "tell", "(I)I"⟩
abbrev cX5_check : ByteArray := prog_1_method_42_code
def yX5_check : MethodName := ⟨RX5, "check", "(I)I"⟩
abbrev cX5_keep : ByteArray := prog_1_method_43_code
def yX5_keep : MethodName := ⟨RX5, "keep", "()I"⟩
abbrev cX5_back : ByteArray := prog_1_method_44_code
def yX5_back : MethodName := ⟨RX5, "back", "()I"⟩
abbrev cX5_count : ByteArray := prog_1_method_45_code
def yX5_count : MethodName := ⟨RX5, "count", "(I)I"⟩
abbrev cX5_within : ByteArray := prog_1_method_46_code
def yX5_within : MethodName := ⟨RX5, "within", "(III)Z"⟩
abbrev cX5_held : ByteArray := prog_1_method_47_code
def yX5_held : MethodName := ⟨RX5, "held", "(II)I"⟩
abbrev cX5_isKind : ByteArray := prog_1_method_48_code
def yX5_isKind : MethodName := ⟨RX5, "isKind", "(I)Z"⟩
abbrev cX5_isCell : ByteArray := prog_1_method_49_code
def yX5_isCell : MethodName := ⟨RX5, "isCell", "(I)Z"⟩
abbrev cX5_isSlot : ByteArray := prog_1_method_50_code
def yX5_isSlot : MethodName := ⟨RX5, "isSlot", "(I)Z"⟩
abbrev cX5_isSheet : ByteArray := prog_1_method_51_code
def yX5_isSheet : MethodName := ⟨RX5, "isSheet", "(I)Z"⟩
abbrev cX5_isMark : ByteArray := prog_1_method_52_code
def yX5_isMark : MethodName := ⟨RX5, "isMark", "(I)Z"⟩
abbrev cX5_isMissing : ByteArray := prog_1_method_53_code
def yX5_isMissing : MethodName := ⟨RX5, "isMissing", "(I)Z"⟩
abbrev cX5_isOf : ByteArray := prog_1_method_54_code
def yX5_isOf : MethodName := ⟨RX5, "isOf", "(II)Z"⟩
abbrev cX5_worthOf : ByteArray := prog_1_method_55_code
def yX5_worthOf : MethodName := ⟨RX5, "worthOf", "(III)I"⟩
abbrev cX5_replaced : ByteArray := prog_1_method_56_code
def yX5_replaced : MethodName := ⟨RX5, "replaced", "([IIII)I"⟩
abbrev cX5_sumOf : ByteArray := prog_1_method_57_code
def yX5_sumOf : MethodName := ⟨RX5, "sumOf", "(I)I"⟩
abbrev cX5_sumDifferences : ByteArray := prog_1_method_58_code
def yX5_sumDifferences : MethodName := ⟨RX5, "sumDifferences", "(LUnderWhitewash$Sheet;)V"⟩
abbrev cX5_putBytes : ByteArray := prog_1_method_59_code
def yX5_putBytes : MethodName := ⟨RX5, "putBytes", "(I)V"⟩
def RX6 : String := "UnderWhitewashModel"
def TX6 : u_T := fun k => match k with
  | 0 => ("UnderWhitewashModel", "s", "[I", true)
  | 1 => ("UnderWhitewashModel", "image", "[I", true)
  | 2 => ("UnderWhitewashModel", "aside", "[I", true)
  | 3 => ("UnderWhitewashModel", "hasImage", "Z", false)
  | 4 => ("UnderWhitewashModel", "tSort", "[I", true)
  | 5 => ("UnderWhitewashModel", "tSize", "[I", true)
  | 6 => ("UnderWhitewashModel", "tNumber", "[I", true)
  | 7 => ("UnderWhitewashModel", "held", "[I", true)
  | 8 => ("UnderWhitewashModel", "heldNumber", "[I", true)
  | 9 => ("UnderWhitewashModel", "heldWorth", "[I", true)
  | 10 => ("UnderWhitewashModel", "heldSize", "[I", true)
  | 11 => ("UnderWhitewashModel", "heldRow", "[I", true)
  | 12 => ("UnderWhitewashModel", "close", "[I", true)
  | 13 => ("UnderWhitewashModel", "tape", "[I", true)
  | 14 => ("UnderWhitewashModel", "taped", "I", false)
  | 15 => ("UnderWhitewashModel", "begin", "I", false)
  | 16 => ("UnderWhitewashModel", "behind", "I", false)
  | 17 => ("UnderWhitewashModel", "token", "I", false)
  | 18 => ("UnderWhitewashModel", "number", "I", false)
  | 19 => ("UnderWhitewashModel", "letter", "I", false)
  | 20 => ("UnderWhitewashModel", "deep", "I", false)
  | 21 => ("UnderWhitewashModel", "turned", "I", false)
  | 22 => ("UnderWhitewashModel", "laid", "I", false)
  | 23 => ("UnderWhitewashModel", "laidAt", "I", false)
  | 24 => ("UnderWhitewashModel", "said", "I", false)
  | 25 => ("UnderWhitewashModel", "named", "[I", true)
  | 26 => ("UnderWhitewashModel", "pile", "[I", true)
  | 27 => ("UnderWhitewashModel", "carried", "[I", true)
  | 28 => ("UnderWhitewashModel", "waits", "[I", true)
  | 29 => ("UnderWhitewashModel", "waiting", "I", false)
  | _ => ("UnderWhitewashModel", "rowDue", "[I", true)
def tyX6 : Nat → FieldType := fun k => match k with
  | 0 => .array .int
  | 1 => .array .int
  | 2 => .array .int
  | 3 => .boolean
  | 4 => .array .int
  | 5 => .array .int
  | 6 => .array .int
  | 7 => .array .int
  | 8 => .array .int
  | 9 => .array .int
  | 10 => .array .int
  | 11 => .array .int
  | 12 => .array .int
  | 13 => .array .int
  | 14 => .int
  | 15 => .int
  | 16 => .int
  | 17 => .int
  | 18 => .int
  | 19 => .int
  | 20 => .int
  | 21 => .int
  | 22 => .int
  | 23 => .int
  | 24 => .int
  | 25 => .array .int
  | 26 => .array .int
  | 27 => .array .int
  | 28 => .array .int
  | 29 => .int
  | _ => .array .int
abbrev wsX60 : List Cond := u_ws RX6 TX6 31
theorem nmX6 : ∀ a, a < 31 → ∀ b, b < 31 → a ≠ b → (TX6 a).2.1 ≠ (TX6 b).2.1 := by decide +kernel
theorem tyX6_ok : ∀ k, k < 31 → parseFieldDescriptor (TX6 k).2.2.1 = some (tyX6 k) := by decide +kernel
abbrev cX6_init : ByteArray := prog_8_method_1_code
def yX6_init : MethodName := ⟨RX6, "<init>", "()V"⟩
abbrev cX6_isIn : ByteArray := prog_8_method_2_code
def yX6_isIn : MethodName := ⟨RX6, "isIn", "(JJJ)Z"⟩
abbrev cX6_orNone : ByteArray := prog_8_method_3_code
def yX6_orNone : MethodName := ⟨RX6, "orNone", "(I)I"⟩
abbrev cX6_within : ByteArray := prog_8_method_4_code
def yX6_within : MethodName := ⟨RX6, "within", "(II)I"⟩
abbrev cX6_off : ByteArray := prog_8_method_5_code
def yX6_off : MethodName := ⟨RX6, "off", "(II)I"⟩
abbrev cX6_least : ByteArray := prog_8_method_6_code
def yX6_least : MethodName := ⟨RX6, "least", "(II)I"⟩
abbrev cX6_changes : ByteArray := prog_8_method_7_code
def yX6_changes : MethodName := ⟨RX6, "changes", "(II)I"⟩
abbrev cX6_textAt : ByteArray := prog_8_method_8_code
def yX6_textAt : MethodName := ⟨RX6, "textAt", "(I)I"⟩
abbrev cX6_of : ByteArray := prog_8_method_9_code
def yX6_of : MethodName := ⟨RX6, "of", "(II)I"⟩
abbrev cX6_sets : ByteArray := prog_8_method_10_code
def yX6_sets : MethodName := ⟨RX6, "sets", "(III)V"⟩
abbrev cX6_isMark : ByteArray := prog_8_method_11_code
def yX6_isMark : MethodName := ⟨RX6, "isMark", "(I)Z"⟩
abbrev cX6_isText : ByteArray := prog_8_method_12_code
def yX6_isText : MethodName := ⟨RX6, "isText", "(I)Z"⟩
abbrev cX6_drawn : ByteArray := prog_8_method_13_code
def yX6_drawn : MethodName := ⟨RX6, "drawn", "()I"⟩
abbrev cX6_isOf : ByteArray := prog_8_method_14_code
def yX6_isOf : MethodName := ⟨RX6, "isOf", "(II)Z"⟩
abbrev cX6_isCell : ByteArray := prog_8_method_15_code
def yX6_isCell : MethodName := ⟨RX6, "isCell", "(I)Z"⟩
abbrev cX6_many : ByteArray := prog_8_method_16_code
def yX6_many : MethodName := ⟨RX6, "many", "(I)I"⟩
abbrev cX6_marksIn : ByteArray := prog_8_method_17_code
def yX6_marksIn : MethodName := ⟨RX6, "marksIn", "(I)I"⟩
abbrev cX6_plain : ByteArray := prog_8_method_18_code
def yX6_plain : MethodName := ⟨RX6, "plain", "(I)I"⟩
abbrev cX6_shows : ByteArray := prog_8_method_19_code
def yX6_shows : MethodName := ⟨RX6, "shows", "(I)I"⟩
abbrev cX6_sinks : ByteArray := prog_8_method_20_code
def yX6_sinks : MethodName := ⟨RX6, "sinks", "(I)I"⟩
abbrev cX6_fades : ByteArray := prog_8_method_21_code
def yX6_fades : MethodName := ⟨RX6, "fades", "(I)I"⟩
abbrev cX6_worth : ByteArray := prog_8_method_22_code
def yX6_worth : MethodName := ⟨RX6, "worth", "(I)I"⟩
abbrev cX6_comes : ByteArray := prog_8_method_23_code
def yX6_comes : MethodName := ⟨RX6, "comes", "(IIII)V"⟩
abbrev cX6_writes : ByteArray := prog_8_method_24_code
def yX6_writes : MethodName := ⟨RX6, "writes", "(IIII)I"⟩
abbrev cX6_told : ByteArray := prog_8_method_25_code
def yX6_told : MethodName := ⟨RX6, "told", "(II)I"⟩
abbrev cX6_as : ByteArray := prog_8_method_26_code
def yX6_as : MethodName := ⟨RX6, "as", "(II)I"⟩
abbrev cX6_turns : ByteArray := prog_8_method_27_code
def yX6_turns : MethodName := ⟨RX6, "turns", "(II)I"⟩
abbrev cX6_set : ByteArray := prog_8_method_28_code
def yX6_set : MethodName := ⟨RX6, "set", "(III)I"⟩
abbrev cX6_cell : ByteArray := prog_8_method_29_code
def yX6_cell : MethodName := ⟨RX6, "cell", "(III)I"⟩
abbrev cX6_shownBy : ByteArray := prog_8_method_30_code
def yX6_shownBy : MethodName := ⟨RX6, "shownBy", "(I)I"⟩
abbrev cX6_cellOf : ByteArray := prog_8_method_31_code
def yX6_cellOf : MethodName := ⟨RX6, "cellOf", "(II)I"⟩
abbrev cX6_rule : ByteArray := prog_8_method_32_code
def yX6_rule : MethodName := ⟨RX6, "rule", "(II)I"⟩
abbrev cX6_deal : ByteArray := prog_8_method_33_code
def yX6_deal : MethodName := ⟨RX6, "deal", "(I)I"⟩
abbrev cX6_seed : ByteArray := prog_8_method_34_code
def yX6_seed : MethodName := ⟨RX6, "seed", "(I)I"⟩
abbrev cX6_fewest : ByteArray := prog_8_method_35_code
def yX6_fewest : MethodName := ⟨RX6, "fewest", "(II)I"⟩
abbrev cX6_isLegible : ByteArray := prog_8_method_36_code
def yX6_isLegible : MethodName := ⟨RX6, "isLegible", "(I)Z"⟩
abbrev cX6_legible : ByteArray := prog_8_method_37_code
def yX6_legible : MethodName := ⟨RX6, "legible", "()I"⟩
abbrev cX6_isCoated : ByteArray := prog_8_method_38_code
def yX6_isCoated : MethodName := ⟨RX6, "isCoated", "(I)V"⟩
abbrev cX6_isBreathedOn : ByteArray := prog_8_method_39_code
def yX6_isBreathedOn : MethodName := ⟨RX6, "isBreathedOn", "(I)I"⟩
abbrev cX6_isDug : ByteArray := prog_8_method_40_code
def yX6_isDug : MethodName := ⟨RX6, "isDug", "(II)I"⟩
abbrev cX6_breathe : ByteArray := prog_8_method_41_code
def yX6_breathe : MethodName := ⟨RX6, "breathe", "(I)I"⟩
abbrev cX6_dig : ByteArray := prog_8_method_42_code
def yX6_dig : MethodName := ⟨RX6, "dig", "(II)I"⟩
abbrev cX6_goesOn : ByteArray := prog_8_method_43_code
def yX6_goesOn : MethodName := ⟨RX6, "goesOn", "()V"⟩
abbrev cX6_goesOnMany : ByteArray := prog_8_method_44_code
def yX6_goesOnMany : MethodName := ⟨RX6, "goesOnMany", "(I)V"⟩
abbrev cX6_springs : ByteArray := prog_8_method_45_code
def yX6_springs : MethodName := ⟨RX6, "springs", "(I)I"⟩
abbrev cX6_sumOf : ByteArray := prog_8_method_46_code
def yX6_sumOf : MethodName := ⟨RX6, "sumOf", "(I)I"⟩
abbrev cX6_narrowest : ByteArray := prog_8_method_47_code
def yX6_narrowest : MethodName := ⟨RX6, "narrowest", "()I"⟩
abbrev cX6_wallsOf : ByteArray := prog_8_method_48_code
def yX6_wallsOf : MethodName := ⟨RX6, "wallsOf", "(I)I"⟩
abbrev cX6_walls : ByteArray := prog_8_method_49_code
def yX6_walls : MethodName := ⟨RX6, "walls", "(I)I"⟩
abbrev cX6_laysBy : ByteArray := prog_8_method_50_code
def yX6_laysBy : MethodName := ⟨RX6, "laysBy", "()V"⟩
abbrev cX6_laysBack : ByteArray := prog_8_method_51_code
def yX6_laysBack : MethodName := ⟨RX6, "laysBack", "()V"⟩
abbrev cX6_behind : ByteArray := prog_8_method_52_code
def yX6_behind : MethodName := ⟨RX6, "behind", "(II)I"⟩
abbrev cX6_lost : ByteArray := prog_8_method_53_code
def yX6_lost : MethodName := ⟨RX6, "lost", "(I)I"⟩
abbrev cX6_solid : ByteArray := prog_8_method_54_code
def yX6_solid : MethodName := ⟨RX6, "solid", "(I)I"⟩
abbrev cX6_spoon : ByteArray := prog_8_method_55_code
def yX6_spoon : MethodName := ⟨RX6, "spoon", "(II)I"⟩
abbrev cX6_isAsked : ByteArray := prog_8_method_56_code
def yX6_isAsked : MethodName := ⟨RX6, "isAsked", "(II)Z"⟩
abbrev cX6_mostBy : ByteArray := prog_8_method_57_code
def yX6_mostBy : MethodName := ⟨RX6, "mostBy", "(IIII)I"⟩
abbrev cX6_place : ByteArray := prog_8_method_58_code
def yX6_place : MethodName := ⟨RX6, "place", "(III)I"⟩
abbrev cX6_becomes : ByteArray := prog_8_method_59_code
def yX6_becomes : MethodName := ⟨RX6, "becomes", "(III)I"⟩
abbrev cX6_eyes : ByteArray := prog_8_method_60_code
def yX6_eyes : MethodName := ⟨RX6, "eyes", "(II)I"⟩
abbrev cX6_fee : ByteArray := prog_8_method_61_code
def yX6_fee : MethodName := ⟨RX6, "fee", "()I"⟩
abbrev cX6_fine : ByteArray := prog_8_method_62_code
def yX6_fine : MethodName := ⟨RX6, "fine", "(I)I"⟩
abbrev cX6_feed : ByteArray := prog_8_method_63_code
def yX6_feed : MethodName := ⟨RX6, "feed", "(III)I"⟩
abbrev cX6_trim : ByteArray := prog_8_method_64_code
def yX6_trim : MethodName := ⟨RX6, "trim", "(I)I"⟩
abbrev cX6_isLetter : ByteArray := prog_8_method_65_code
def yX6_isLetter : MethodName := ⟨RX6, "isLetter", "(I)Z"⟩
abbrev cX6_isDigit : ByteArray := prog_8_method_66_code
def yX6_isDigit : MethodName := ⟨RX6, "isDigit", "(I)Z"⟩
abbrev cX6_nextToken : ByteArray := prog_8_method_67_code
def yX6_nextToken : MethodName := ⟨RX6, "nextToken", "()V"⟩
abbrev cX6_isSign : ByteArray := prog_8_method_68_code
def yX6_isSign : MethodName := ⟨RX6, "isSign", "(I)Z"⟩
abbrev cX6_isWordAt : ByteArray := prog_8_method_69_code
def yX6_isWordAt : MethodName := ⟨RX6, "isWordAt", "(IIII)Z"⟩
abbrev cX6_key : ByteArray := prog_8_method_70_code
def yX6_key : MethodName := ⟨RX6, "key", "()I"⟩
abbrev cX6_isName : ByteArray := prog_8_method_71_code
def yX6_isName : MethodName := ⟨RX6, "isName", "(II)Z"⟩
abbrev cX6_step : ByteArray := prog_8_method_72_code
def yX6_step : MethodName := ⟨RX6, "step", "(II)V"⟩
abbrev cX6_either : ByteArray := prog_8_method_73_code
def yX6_either : MethodName := ⟨RX6, "either", "(I)Z"⟩
abbrev cX6_both : ByteArray := prog_8_method_74_code
def yX6_both : MethodName := ⟨RX6, "both", "(I)Z"⟩
abbrev cX6_test : ByteArray := prog_8_method_75_code
def yX6_test : MethodName := ⟨RX6, "test", "(I)Z"⟩
abbrev cX6_sum : ByteArray := prog_8_method_76_code
def yX6_sum : MethodName := ⟨RX6, "sum", "(I)Z"⟩
abbrev cX6_term : ByteArray := prog_8_method_77_code
def yX6_term : MethodName := ⟨RX6, "term", "(I)Z"⟩
abbrev cX6_part0 : ByteArray := prog_8_method_78_code
def yX6_part0 : MethodName := ⟨RX6, "part0", "(I)Z"⟩
abbrev cX6_parse : ByteArray := prog_8_method_79_code
def yX6_parse : MethodName := ⟨RX6, "parse", "()I"⟩
abbrev cX6_text : ByteArray := prog_8_method_80_code
def yX6_text : MethodName := ⟨RX6, "text", "()I"⟩
abbrev cX6_textTold : ByteArray := prog_8_method_81_code
def yX6_textTold : MethodName := ⟨RX6, "textTold", "(II)I"⟩
abbrev cX6_counts : ByteArray := prog_8_method_82_code
def yX6_counts : MethodName := ⟨RX6, "counts", "(I)I"⟩
abbrev cX6_why : ByteArray := prog_8_method_83_code
def yX6_why : MethodName := ⟨RX6, "why", "(I)I"⟩
abbrev cX6_joined : ByteArray := prog_8_method_84_code
def yX6_joined : MethodName := ⟨RX6, "joined", "(III)I"⟩
abbrev cX6_worked : ByteArray := prog_8_method_85_code
def yX6_worked : MethodName := ⟨RX6, "worked", "(I)I"⟩
abbrev cX6_isSheet : ByteArray := prog_8_method_86_code
def yX6_isSheet : MethodName := ⟨RX6, "isSheet", "(I)Z"⟩
abbrev cX6_sheet : ByteArray := prog_8_method_87_code
def yX6_sheet : MethodName := ⟨RX6, "sheet", "(III)I"⟩
abbrev cX6_mark : ByteArray := prog_8_method_88_code
def yX6_mark : MethodName := ⟨RX6, "mark", "(III)I"⟩
abbrev cX6_pour : ByteArray := prog_8_method_89_code
def yX6_pour : MethodName := ⟨RX6, "pour", "(I)I"⟩
abbrev cX6_reads : ByteArray := prog_8_method_90_code
def yX6_reads : MethodName := ⟨RX6, "reads", "(I)I"⟩
abbrev cX6_unlike : ByteArray := prog_8_method_91_code
def yX6_unlike : MethodName := ⟨RX6, "unlike", "(II)J"⟩
abbrev cX6_like : ByteArray := prog_8_method_92_code
def yX6_like : MethodName := ⟨RX6, "like", "(II)I"⟩
abbrev cX6_copy : ByteArray := prog_8_method_93_code
def yX6_copy : MethodName := ⟨RX6, "copy", "(IIIII)I"⟩
abbrev cX6_isSlot : ByteArray := prog_8_method_94_code
def yX6_isSlot : MethodName := ⟨RX6, "isSlot", "(I)Z"⟩
abbrev cX6_lay : ByteArray := prog_8_method_95_code
def yX6_lay : MethodName := ⟨RX6, "lay", "(III)I"⟩
abbrev cX6_ask : ByteArray := prog_8_method_96_code
def yX6_ask : MethodName := ⟨RX6, "ask", "(II)I"⟩
abbrev cX6_item : ByteArray := prog_8_method_97_code
def yX6_item : MethodName := ⟨RX6, "item", "(II)I"⟩
abbrev cX6_rest : ByteArray := prog_8_method_98_code
def yX6_rest : MethodName := ⟨RX6, "rest", "(II)I"⟩
abbrev cX6_tell : ByteArray := prog_8_method_99_code
def yX6_tell : MethodName := ⟨RX6, "tell", "(I)I"⟩
abbrev cX6_setAside : ByteArray := prog_8_method_100_code
def yX6_setAside : MethodName := ⟨RX6, "setAside", "([I[I)V"⟩
abbrev cX6_check : ByteArray := prog_8_method_101_code
def yX6_check : MethodName := ⟨RX6, "check", "(I)I"⟩
abbrev cX6_keep : ByteArray := prog_8_method_102_code
def yX6_keep : MethodName := ⟨RX6, "keep", "()I"⟩
abbrev cX6_back : ByteArray := prog_8_method_103_code
def yX6_back : MethodName := ⟨RX6, "back", "()I"⟩
abbrev cX6_count : ByteArray := prog_8_method_104_code
def yX6_count : MethodName := ⟨RX6, "count", "(I)I"⟩
def RJx145de : String := "java/io/Serializable"
def TJx145de : u_T := fun k => match k with
  | _ => ("", "", "", false)
def tyJx145de : Nat → FieldType := fun k => match k with
  | _ => .int
abbrev wsJx145de0 : List Cond := u_ws RJx145de TJx145de 0
theorem nmJx145de : ∀ a, a < 0 → ∀ b, b < 0 → a ≠ b → (TJx145de a).2.1 ≠ (TJx145de b).2.1 := by decide +kernel
theorem tyJx145de_ok : ∀ k, k < 0 → parseFieldDescriptor (TJx145de k).2.2.1 = some (tyJx145de k) := by decide +kernel
def RJx9f9b0 : String := "java/lang/CharSequence"
def TJx9f9b0 : u_T := fun k => match k with
  | _ => ("", "", "", false)
def tyJx9f9b0 : Nat → FieldType := fun k => match k with
  | _ => .int
abbrev wsJx9f9b00 : List Cond := u_ws RJx9f9b0 TJx9f9b0 0
theorem nmJx9f9b0 : ∀ a, a < 0 → ∀ b, b < 0 → a ≠ b → (TJx9f9b0 a).2.1 ≠ (TJx9f9b0 b).2.1 := by decide +kernel
theorem tyJx9f9b0_ok : ∀ k, k < 0 → parseFieldDescriptor (TJx9f9b0 k).2.2.1 = some (tyJx9f9b0 k) := by decide +kernel
def RJ11 : String := "java/lang/Character"
def TJ11 : u_T := fun k => match k with
  | _ => ("", "", "", false)
def tyJ11 : Nat → FieldType := fun k => match k with
  | _ => .int
abbrev wsJ110 : List Cond := u_ws RJ11 TJ11 0
theorem nmJ11 : ∀ a, a < 0 → ∀ b, b < 0 → a ≠ b → (TJ11 a).2.1 ≠ (TJ11 b).2.1 := by decide +kernel
theorem tyJ11_ok : ∀ k, k < 0 → parseFieldDescriptor (TJ11 k).2.2.1 = some (tyJ11 k) := by decide +kernel
abbrev cJ11_isValidCodePoint_9a6ad : ByteArray := prog_9_method_11_code
def yJ11_isValidCodePoint_9a6ad : MethodName := ⟨RJ11, "isValidCodePoint", "(I)Z"⟩
abbrev cJ11_highSurrogate_5068e : ByteArray := prog_9_method_28_code
def yJ11_highSurrogate_5068e : MethodName := ⟨RJ11, "highSurrogate", "(I)C"⟩
abbrev cJ11_lowSurrogate_5068e : ByteArray := prog_9_method_29_code
def yJ11_lowSurrogate_5068e : MethodName := ⟨RJ11, "lowSurrogate", "(I)C"⟩
def RJxb160c : String := "java/lang/Comparable"
def TJxb160c : u_T := fun k => match k with
  | _ => ("", "", "", false)
def tyJxb160c : Nat → FieldType := fun k => match k with
  | _ => .int
abbrev wsJxb160c0 : List Cond := u_ws RJxb160c TJxb160c 0
theorem nmJxb160c : ∀ a, a < 0 → ∀ b, b < 0 → a ≠ b → (TJxb160c a).2.1 ≠ (TJxb160c b).2.1 := by decide +kernel
theorem tyJxb160c_ok : ∀ k, k < 0 → parseFieldDescriptor (TJxb160c k).2.2.1 = some (tyJxb160c k) := by decide +kernel
def RJ6 : String := "java/lang/Integer"
def TJ6 : u_T := fun k => match k with
  | _ => ("", "", "", false)
def tyJ6 : Nat → FieldType := fun k => match k with
  | _ => .int
abbrev wsJ60 : List Cond := u_ws RJ6 TJ6 0
theorem nmJ6 : ∀ a, a < 0 → ∀ b, b < 0 → a ≠ b → (TJ6 a).2.1 ≠ (TJ6 b).2.1 := by decide +kernel
theorem tyJ6_ok : ∀ k, k < 0 → parseFieldDescriptor (TJ6 k).2.2.1 = some (tyJ6 k) := by decide +kernel
abbrev cJ6_bitCount_0f7a4 : ByteArray := prog_10_method_49_code
def yJ6_bitCount_0f7a4 : MethodName := ⟨RJ6, "bitCount", "(I)I"⟩
def RJ9 : String := "java/lang/Math"
def TJ9 : u_T := fun k => match k with
  | _ => ("", "", "", false)
def tyJ9 : Nat → FieldType := fun k => match k with
  | _ => .int
abbrev wsJ90 : List Cond := u_ws RJ9 TJ9 0
theorem nmJ9 : ∀ a, a < 0 → ∀ b, b < 0 → a ≠ b → (TJ9 a).2.1 ≠ (TJ9 b).2.1 := by decide +kernel
theorem tyJ9_ok : ∀ k, k < 0 → parseFieldDescriptor (TJ9 k).2.2.1 = some (tyJ9 k) := by decide +kernel
abbrev cJ9_abs_0f7a4 : ByteArray := prog_11_method_59_code
def yJ9_abs_0f7a4 : MethodName := ⟨RJ9, "abs", "(I)I"⟩
abbrev cJ9_max_7cf53 : ByteArray := prog_11_method_65_code
def yJ9_max_7cf53 : MethodName := ⟨RJ9, "max", "(II)I"⟩
abbrev cJ9_min_7cf53 : ByteArray := prog_11_method_69_code
def yJ9_min_7cf53 : MethodName := ⟨RJ9, "min", "(II)I"⟩
def RJ0 : String := "java/lang/String"
def TJ0 : u_T := fun k => match k with
  | _ => ("", "", "", false)
def tyJ0 : Nat → FieldType := fun k => match k with
  | _ => .int
abbrev wsJ00 : List Cond := u_ws RJ0 TJ0 0
theorem nmJ0 : ∀ a, a < 0 → ∀ b, b < 0 → a ≠ b → (TJ0 a).2.1 ≠ (TJ0 b).2.1 := by decide +kernel
theorem tyJ0_ok : ∀ k, k < 0 → parseFieldDescriptor (TJ0 k).2.2.1 = some (tyJ0 k) := by decide +kernel
abbrev cJ0_length_8abf5 : ByteArray := prog_12_method_54_code
def yJ0_length_8abf5 : MethodName := ⟨RJ0, "length", "()I"⟩
abbrev cJ0_charAt_5068e : ByteArray := prog_12_method_56_code
def yJ0_charAt_5068e : MethodName := ⟨RJ0, "charAt", "(I)C"⟩
abbrev cJ0_indexOf_0f7a4 : ByteArray := prog_12_method_79_code
def yJ0_indexOf_0f7a4 : MethodName := ⟨RJ0, "indexOf", "(I)I"⟩
abbrev cJ0_indexOf_7cf53 : ByteArray := prog_12_method_80_code
def yJ0_indexOf_7cf53 : MethodName := ⟨RJ0, "indexOf", "(II)I"⟩
abbrev cJ0_coder_7d493 : ByteArray := prog_12_method_152_code
def yJ0_coder_7d493 : MethodName := ⟨RJ0, "coder", "()B"⟩
abbrev cJ0_isLatin1_aae02 : ByteArray := prog_12_method_154_code
def yJ0_isLatin1_aae02 : MethodName := ⟨RJ0, "isLatin1", "()Z"⟩
abbrev cJ0_checkIndex_df160 : ByteArray := prog_12_method_155_code
def yJ0_checkIndex_df160 : MethodName := ⟨RJ0, "checkIndex", "(II)V"⟩
abbrev cJ0_checkBoundsBeginEnd_23922 : ByteArray := prog_12_method_158_code
def yJ0_checkBoundsBeginEnd_23922 : MethodName := ⟨RJ0, "checkBoundsBeginEnd", "(III)V"⟩
def RJ1 : String := "java/lang/StringLatin1"
def TJ1 : u_T := fun k => match k with
  | _ => ("", "", "", false)
def tyJ1 : Nat → FieldType := fun k => match k with
  | _ => .int
abbrev wsJ10 : List Cond := u_ws RJ1 TJ1 0
theorem nmJ1 : ∀ a, a < 0 → ∀ b, b < 0 → a ≠ b → (TJ1 a).2.1 ≠ (TJ1 b).2.1 := by decide +kernel
theorem tyJ1_ok : ∀ k, k < 0 → parseFieldDescriptor (TJ1 k).2.2.1 = some (tyJ1 k) := by decide +kernel
abbrev cJ1_charAt_3b067 : ByteArray := prog_13_method_2_code
def yJ1_charAt_3b067 : MethodName := ⟨RJ1, "charAt", "([BI)C"⟩
abbrev cJ1_canEncode_9a6ad : ByteArray := prog_13_method_4_code
def yJ1_canEncode_9a6ad : MethodName := ⟨RJ1, "canEncode", "(I)Z"⟩
abbrev cJ1_indexOf_4cfef : ByteArray := prog_13_method_22_code
def yJ1_indexOf_4cfef : MethodName := ⟨RJ1, "indexOf", "([BIII)I"⟩
abbrev cJ1_indexOfChar_4cfef : ByteArray := prog_13_method_23_code
def yJ1_indexOfChar_4cfef : MethodName := ⟨RJ1, "indexOfChar", "([BIII)I"⟩
def RJ2 : String := "java/lang/StringUTF16"
def TJ2 : u_T := fun k => match k with
  | _ => ("", "", "", false)
def tyJ2 : Nat → FieldType := fun k => match k with
  | _ => .int
abbrev wsJ20 : List Cond := u_ws RJ2 TJ2 0
theorem nmJ2 : ∀ a, a < 0 → ∀ b, b < 0 → a ≠ b → (TJ2 a).2.1 ≠ (TJ2 b).2.1 := by decide +kernel
theorem tyJ2_ok : ∀ k, k < 0 → parseFieldDescriptor (TJ2 k).2.2.1 = some (tyJ2 k) := by decide +kernel
abbrev cJ2_getChar_3b067 : ByteArray := prog_14_method_5_code
def yJ2_getChar_3b067 : MethodName := ⟨RJ2, "getChar", "([BI)C"⟩
abbrev cJ2_length_9d52b : ByteArray := prog_14_method_6_code
def yJ2_length_9d52b : MethodName := ⟨RJ2, "length", "([B)I"⟩
abbrev cJ2_indexOf_4cfef : ByteArray := prog_14_method_40_code
def yJ2_indexOf_4cfef : MethodName := ⟨RJ2, "indexOf", "([BIII)I"⟩
abbrev cJ2_indexOfChar_4cfef : ByteArray := prog_14_method_47_code
def yJ2_indexOfChar_4cfef : MethodName := ⟨RJ2, "indexOfChar", "([BIII)I"⟩
abbrev cJ2_indexOfCharUnsafe_4cfef : ByteArray := prog_14_method_48_code
def yJ2_indexOfCharUnsafe_4cfef : MethodName := ⟨RJ2, "indexOfCharUnsafe", "([BIII)I"⟩
abbrev cJ2_indexOfSupplementary_4cfef : ByteArray := prog_14_method_49_code
def yJ2_indexOfSupplementary_4cfef : MethodName := ⟨RJ2, "indexOfSupplementary", "([BIII)I"⟩
abbrev cJ2_charAt_3b067 : ByteArray := prog_14_method_83_code
def yJ2_charAt_3b067 : MethodName := ⟨RJ2, "charAt", "([BI)C"⟩
abbrev cJ2_checkIndex_2214a : ByteArray := prog_14_method_91_code
def yJ2_checkIndex_2214a : MethodName := ⟨RJ2, "checkIndex", "(I[B)V"⟩
abbrev cJ2_checkBoundsBeginEnd_d044e : ByteArray := prog_14_method_93_code
def yJ2_checkBoundsBeginEnd_d044e : MethodName := ⟨RJ2, "checkBoundsBeginEnd", "(II[B)V"⟩
def RJ10 : String := "java/lang/System"
def TJ10 : u_T := fun k => match k with
  | _ => ("", "", "", false)
def tyJ10 : Nat → FieldType := fun k => match k with
  | _ => .int
abbrev wsJ100 : List Cond := u_ws RJ10 TJ10 0
theorem nmJ10 : ∀ a, a < 0 → ∀ b, b < 0 → a ≠ b → (TJ10 a).2.1 ≠ (TJ10 b).2.1 := by decide +kernel
theorem tyJ10_ok : ∀ k, k < 0 → parseFieldDescriptor (TJ10 k).2.2.1 = some (tyJ10 k) := by decide +kernel
def RJxfd54e : String := "java/lang/constant/Constable"
def TJxfd54e : u_T := fun k => match k with
  | _ => ("", "", "", false)
def tyJxfd54e : Nat → FieldType := fun k => match k with
  | _ => .int
abbrev wsJxfd54e0 : List Cond := u_ws RJxfd54e TJxfd54e 0
theorem nmJxfd54e : ∀ a, a < 0 → ∀ b, b < 0 → a ≠ b → (TJxfd54e a).2.1 ≠ (TJxfd54e b).2.1 := by decide +kernel
theorem tyJxfd54e_ok : ∀ k, k < 0 → parseFieldDescriptor (TJxfd54e k).2.2.1 = some (tyJxfd54e k) := by decide +kernel
def RJx3cf43 : String := "java/lang/constant/ConstantDesc"
def TJx3cf43 : u_T := fun k => match k with
  | _ => ("", "", "", false)
def tyJx3cf43 : Nat → FieldType := fun k => match k with
  | _ => .int
abbrev wsJx3cf430 : List Cond := u_ws RJx3cf43 TJx3cf43 0
theorem nmJx3cf43 : ∀ a, a < 0 → ∀ b, b < 0 → a ≠ b → (TJx3cf43 a).2.1 ≠ (TJx3cf43 b).2.1 := by decide +kernel
theorem tyJx3cf43_ok : ∀ k, k < 0 → parseFieldDescriptor (TJx3cf43 k).2.2.1 = some (tyJx3cf43 k) := by decide +kernel
def RJ7 : String := "java/util/Arrays"
def TJ7 : u_T := fun k => match k with
  | _ => ("", "", "", false)
def tyJ7 : Nat → FieldType := fun k => match k with
  | _ => .int
abbrev wsJ70 : List Cond := u_ws RJ7 TJ7 0
theorem nmJ7 : ∀ a, a < 0 → ∀ b, b < 0 → a ≠ b → (TJ7 a).2.1 ≠ (TJ7 b).2.1 := by decide +kernel
theorem tyJ7_ok : ∀ k, k < 0 → parseFieldDescriptor (TJ7 k).2.2.1 = some (tyJ7 k) := by decide +kernel
abbrev cJ7_fill_53178 : ByteArray := prog_16_method_103_code
def yJ7_fill_53178 : MethodName := ⟨RJ7, "fill", "([II)V"⟩
def RJ3 : String := "jdk/internal/util/Preconditions"
def TJ3 : u_T := fun k => match k with
  | _ => ("", "", "", false)
def tyJ3 : Nat → FieldType := fun k => match k with
  | _ => .int
abbrev wsJ30 : List Cond := u_ws RJ3 TJ3 0
theorem nmJ3 : ∀ a, a < 0 → ∀ b, b < 0 → a ≠ b → (TJ3 a).2.1 ≠ (TJ3 b).2.1 := by decide +kernel
theorem tyJ3_ok : ∀ k, k < 0 → parseFieldDescriptor (TJ3 k).2.2.1 = some (tyJ3 k) := by decide +kernel
abbrev cJ3_checkIndex_8e157 : ByteArray := prog_17_method_11_code
def yJ3_checkIndex_8e157 : MethodName := ⟨RJ3, "checkIndex", "(IILjava/util/function/BiFunction;)I"⟩
abbrev cJ3_checkFromToIndex_8c36e : ByteArray := prog_17_method_12_code
def yJ3_checkFromToIndex_8c36e : MethodName := ⟨RJ3, "checkFromToIndex", "(IIILjava/util/function/BiFunction;)I"⟩
def RL : String := "UnderWhitewashLaw"
abbrev cL_law : ByteArray := code
def yL_law : MethodName := ⟨RL, "law", "([I)Z"⟩
abbrev vwCl : List vw_C := [(RX0, TX0, 10), (RX1, TX1, 3), (RX2, TX2, 6), (RX3, TX3, 5), (RX4, TX4, 18), (RX5, TX5, 13), (RX6, TX6, 31)]
end
section
/-! THE WORLD: every cell that the two objects hold, by a tag and a number; M is what the whole numbers in them are -/
def TB : List Cond := lw_tbl.filter goodWord
theorem TB_tbl {w : Cond} (h : w ∈ TB) : w ∈ lw_tbl := (List.mem_filter.mp h).1
theorem TB_good {w : Cond} (h : w ∈ TB) : goodWord w = true := (List.mem_filter.mp h).2
theorem TB_of {w : Cond} (h : w ∈ lw_tbl) (g : goodWord w = true) : w ∈ TB := List.mem_filter.mpr ⟨h, g⟩
abbrev TM : Type := Nat → Nat → Nat → Int32
/-- a row (of a tag, of a number) becomes f -/
def putA (M : TM) (t k : Nat) (f : Nat → Int32) : TM := fun a b => if a = t ∧ b = k then f else M a b
theorem putA_s (M : TM) (t k : Nat) (f : Nat → Int32) : putA M t k f t k = f := if_pos ⟨rfl, rfl⟩
theorem putA_n (M : TM) (t k : Nat) (f : Nat → Int32) {a b : Nat} (h : ¬ (a = t ∧ b = k)) : putA M t k f a b = M a b := if_neg h
theorem putA_nt (M : TM) (t k : Nat) (f : Nat → Int32) {a b : Nat} (h : a ≠ t) : putA M t k f a b = M a b := if_neg (fun q => h q.1)
theorem putA_nk (M : TM) (t k : Nat) (f : Nat → Int32) {a b : Nat} (h : b ≠ k) : putA M t k f a b = M a b := if_neg (fun q => h q.2)
theorem putA_pp (M : TM) (t k : Nat) (f f2 : Nat → Int32) : putA (putA M t k f) t k f2 = putA M t k f2 := by
  funext a b; unfold putA; split <;> rfl
theorem putA_id (M : TM) (t k : Nat) : putA M t k (M t k) = M := by
  funext a b; unfold putA; split
  · next h => rw [h.1, h.2]
  · rfl
theorem putA_cm (M : TM) {t k t2 k2 : Nat} (f f2 : Nat → Int32) (h : ¬ (t = t2 ∧ k = k2)) : putA (putA M t k f) t2 k2 f2 = putA (putA M t2 k2 f2) t k f := by
  funext a b; unfold putA
  by_cases h1 : a = t2 ∧ b = k2
  · rw [if_pos h1]
    by_cases h2 : a = t ∧ b = k
    · exact absurd ⟨h2.1.symm.trans h1.1, h2.2.symm.trans h1.2⟩ h
    · rw [if_neg h2, if_pos h1]
  · rw [if_neg h1, if_neg h1]
def cntL : List Nat := [1, 9, 5, 1, 3, 1, 1, 1, 1, 1, 1, 1, 9, 14, 1, 1, 1, 1, 3, 3, 3, 3, 3, 3, 3, 3, 3, 3, 1, 1, 1, 1, 1, 1, 1, 1, 1, 1, 1, 1, 1, 1, 1, 1, 1, 1, 1, 1, 1]
def lenL : List Nat := [0, 0, 0, 0, 0, 0, 0, 4, 5, 14, 96, 0, 24, 96, 14, 14, 14, 96, 6, 6, 6, 10, 10, 10, 10, 10, 3, 3, 96, 60, 10, 3071, 3071, 3071, 4, 4, 96, 5, 5, 5, 5, 120, 71, 96, 128, 100, 24, 60, 60]
def cnt (t : Nat) : Nat := cntL.getD t 0
def len (t : Nat) : Nat := lenL.getD t 0
/-- where a field of references leads -/
def fldL : List (List (Option (Nat → Nat × Nat))) := [
  [some (fun _ => (10, 0)), none, none, none, none, none, none, none, none, none],
  [some (fun k => (12, k)), none, none],
  [some (fun k => (1, k + 4)), none, none, none, none, none],
  [some (fun _ => (9, 0)), some (fun _ => (14, 0)), some (fun _ => (15, 0)), some (fun _ => (16, 0)), some (fun _ => (17, 0))],
  [some (fun _ => (3, 0)), some (fun k => (18, k)), some (fun k => (19, k)), some (fun k => (20, k)), some (fun k => (21, k)), some (fun k => (22, k)), some (fun k => (23, k)), some (fun k => (24, k)), some (fun k => (25, k)), some (fun k => (26, k)), some (fun k => (27, k)), none, none, none, none, none, none, none],
  [some (fun _ => (3, 0)), some (fun _ => (4, 0)), some (fun _ => (4, 1)), some (fun _ => (4, 2)), none, some (fun _ => (0, 0)), some (fun _ => (28, 0)), none, some (fun _ => (7, 0)), some (fun _ => (8, 0)), some (fun _ => (29, 0)), none, some (fun _ => (30, 0))],
  [some (fun _ => (31, 0)), some (fun _ => (32, 0)), some (fun _ => (33, 0)), none, some (fun _ => (34, 0)), some (fun _ => (35, 0)), some (fun _ => (36, 0)), some (fun _ => (37, 0)), some (fun _ => (38, 0)), some (fun _ => (39, 0)), some (fun _ => (40, 0)), some (fun _ => (41, 0)), some (fun _ => (42, 0)), some (fun _ => (43, 0)), none, none, none, none, none, none, none, none, none, none, none, some (fun _ => (44, 0)), some (fun _ => (45, 0)), some (fun _ => (46, 0)), some (fun _ => (47, 0)), none, some (fun _ => (48, 0))]]
def fldOf (c j : Nat) : Option (Nat → Nat × Nat) := (fldL.getD c []).getD j none
def nF (c : Nat) : Nat := (fldL.getD c []).length
/-- launch, tables, addresses by tag and number, classes of arrays (0 int, 1 Sheet, 2 Slot, 3 int[]), what is ours, the script's length and ints, the addresses of the bytes of the String constants -/
abbrev GT : Type := Launch × va_G × (Nat → Nat → Nat) × (Nat → ClassId) × (Nat → Prop) × Nat × (Nat → Int32) × (Nat → Nat)
def gl (g : GT) : Launch := g.1
def gD (g : GT) : va_G := g.2.1
def gad (g : GT) : Nat → Nat → Nat := g.2.2.1
def gc (g : GT) : Nat → ClassId := g.2.2.2.1
def gA (g : GT) : Nat → Prop := g.2.2.2.2.1
def gN (g : GT) : Nat := g.2.2.2.2.2.1
def gxs (g : GT) : Nat → Int32 := g.2.2.2.2.2.2.1
def gsv (g : GT) : Nat → Nat := g.2.2.2.2.2.2.2
def gty (g : GT) : List (ClassId × FieldType) := [(gc g 0, .int), (gc g 1, .object "UnderWhitewash$Sheet"), (gc g 2, .object "UnderWhitewash$Slot"), (gc g 3, .array .int)]
def fval (g : GT) (M : TM) (c k j : Nat) : Value := match fldOf c j with
  | some f => .ref (gad g (f k).1 (f k).2)
  | none => if c = 0 ∧ j = 4 then .ref (if M 0 k 4 = 1 then gad g 28 0 else gad g 11 0) else .int (M c k j)
def cellE (g : GT) (M : TM) (t k : Nat) : va_E :=
  if t < 7 then .inr (t, (List.range (nF t)).map (fval g M t k))
  else if t = 7 then .inl (gc g 1, 4, .inr (.inr (.inr (.inr (fun i => some (gad g 1 i))))))
  else if t = 8 then .inl (gc g 2, 5, .inr (.inr (.inr (.inr (fun i => some (gad g 2 i))))))
  else if t = 9 then .inl (gc g 3, 14, .inr (.inr (.inr (.inr (fun i => some (gad g 13 i))))))
  else .inl (gc g 0, len t, .inl (M t k))
def wcells : List (Nat × Nat) := (List.range 49).flatMap (fun t => (List.range (cnt t)).map (fun k => (t, k)))
def WS (g : GT) (M : TM) : va_W := wcells.map (fun q => (gad g q.1 q.2, cellE g M q.1 q.2))
theorem wcells_mem {t k : Nat} (h : k < cnt t) : (t, k) ∈ wcells := by
  have ht : t < 49 := by
    by_cases h1 : t < 49
    · exact h1
    · have h2 : cntL[t]? = none := List.getElem?_eq_none (by show 49 ≤ t; omega)
      have h3 : cnt t = 0 := by unfold cnt; rw [List.getD_eq_getElem?_getD, h2]; rfl
      omega
  exact List.mem_flatMap.mpr ⟨t, List.mem_range.mpr ht, List.mem_map.mpr ⟨k, List.mem_range.mpr h, rfl⟩⟩
theorem wcells_nd : wcells.Nodup := by decide +kernel
theorem wcells_at {t k : Nat} (h : k < cnt t) : ∃ q : Nat, wcells[q]? = some (t, k) := List.getElem?_of_mem (wcells_mem h)
theorem WS_at (g : GT) (M : TM) {q t k : Nat} (h : wcells[q]? = some (t, k)) : (WS g M)[q]? = some (gad g t k, cellE g M t k) := by
  unfold WS; rw [List.getElem?_map, h]; rfl
/-- one cell changes: the world is another -/
theorem WS_set (g : GT) {M M' : TM} {q t k : Nat} (h : wcells[q]? = some (t, k)) (hs : ∀ a b, ¬ (a = t ∧ b = k) → cellE g M' a b = cellE g M a b) : (WS g M).set q (gad g t k, cellE g M' t k) = WS g M' := by
  apply List.ext_getElem?
  intro i
  unfold WS
  rw [List.getElem?_set, List.getElem?_map, List.getElem?_map, List.length_map]
  by_cases hi : q = i
  · subst hi
    have hl : q < wcells.length := (List.getElem?_eq_some_iff.mp h).1
    rw [if_pos rfl, if_pos hl, h]; rfl
  · rw [if_neg hi]
    cases hc : wcells[i]? with
    | none => rfl
    | some p =>
      obtain ⟨a, b⟩ := p
      have : ¬ (a = t ∧ b = k) := by
        rintro ⟨rfl, rfl⟩
        obtain ⟨h1, h2⟩ := List.getElem?_eq_some_iff.mp h
        obtain ⟨h3, h4⟩ := List.getElem?_eq_some_iff.mp hc
        exact hi ((List.getElem_inj wcells_nd).mp (h2.trans h4.symm))
      simp only [Option.map_some]
      rw [hs a b this]
theorem nF_le (c : Nat) : ∀ j, nF c ≤ j → fldOf c j = none := fun j h => by
  unfold fldOf; rw [List.getD_eq_getElem?_getD, List.getElem?_eq_none h]; rfl
theorem cellE_arr (g : GT) (M : TM) {t k : Nat} (h : 9 < t) : cellE g M t k = .inl (gc g 0, len t, .inl (M t k)) := by
  unfold cellE; rw [if_neg (by omega), if_neg (by omega), if_neg (by omega), if_neg (by omega)]
theorem cellE_obj (g : GT) (M : TM) {t k : Nat} (h : t < 7) : cellE g M t k = .inr (t, (List.range (nF t)).map (fval g M t k)) := by
  unfold cellE; rw [if_pos h]
theorem cellE_put (g : GT) (M : TM) {t k a b : Nat} (f : Nat → Int32) (h : ¬ (a = t ∧ b = k)) : cellE g (putA M t k f) a b = cellE g M a b := by
  have e : putA M t k f a b = M a b := putA_n M t k f h
  by_cases h7 : a < 7
  · rw [cellE_obj _ _ h7, cellE_obj _ _ h7]
    congr 2
    apply List.map_congr_left
    intro j _
    unfold fval
    cases fldOf a j with
    | some f => rfl
    | none =>
      simp only
      by_cases h0 : a = 0 ∧ j = 4
      · rw [if_pos h0, if_pos h0]
        obtain ⟨rfl, rfl⟩ := h0
        rw [e]
      · rw [if_neg h0, if_neg h0, e]
  · unfold cellE; rw [e, if_neg h7, if_neg h7]
end
section
/-! THE LOGIC: what holds at a start (Ev), the judgement TR over the world, contracts Cn -/
def raL : List Int32 := [-1, 0, 0, 1, 2, 0]
def lrL : List Int32 := [1, 0, 0]
def mrL : List Int32 := [9, 99, 100]
def strI : List Nat := [75, 81, 83, 85, 87, 89, 98, 100, 102, 104, 106, 108]
def strT : List String := ["breath", "fee", "fine", "idcn", "sg", "id", "|", "&", "<=>", "+-", "*/", ""]
def strL : List Nat := [6, 3, 4, 4, 2, 2, 1, 1, 3, 2, 2, 0]
def strB : List (List Int32) := [[98, 114, 101, 97, 116, 104], [102, 101, 101], [102, 105, 110, 101], [105, 100, 99, 110], [115, 103], [105, 100], [124], [38], [60, 61, 62], [43, 45], [42, 47], []]
def nestM : List (String × Nat × MethodName) := [(RX3, 29, yX5_within), (RX4, 89, yX5_held)]
def Ev (g : GT) (s : State) : Prop :=
  va_K (gD g) vwCl (gty g) s ∧ (∀ M, va_D (gA g) (WS g M)) ∧
  (va_Z RX5 "RIGHT_ABOVE" "[I" (.ref (gad g 49 0)) (gA g) s s.heap ∧ va_T .int (gad g 49 0) 6 (fun j => .int (raL.getD j 0)) (gA g) s s.heap) ∧
  (va_Z RX5 "LEAST_RULE" "[I" (.ref (gad g 50 0)) (gA g) s s.heap ∧ va_T .int (gad g 50 0) 3 (fun j => .int (lrL.getD j 0)) (gA g) s s.heap) ∧
  (va_Z RX5 "MOST_RULE" "[I" (.ref (gad g 51 0)) (gA g) s s.heap ∧ va_T .int (gad g 51 0) 3 (fun j => .int (mrL.getD j 0)) (gA g) s s.heap) ∧
  va_T .int (gad g 52 0) (gN g) (fun j => .int (gxs g j)) (gA g) s s.heap ∧
  vk_S 12 strL strB (gad g 53) (gsv g) (gA g) s s.heap ∧
  (∀ i, i < 12 → vk_R RX0 (strI.getD i 0) (strT.getD i "") (gad g 53 i) s) ∧
  va_Z RJ0 "COMPACT_STRINGS" "Z" (.int 1) (gA g) s s.heap ∧
  (∀ q ∈ nestM, va_Nw (.methodLinkNest q.1 q.2.1 q.2.2 RX5) s)
theorem Ev.moved {g : GT} {s U : State} (h : Ev g s) (hW : s.WarmedH U.vm) (hq : ∀ a : Nat, a < s.heap.size → ¬ gA g a → U.heap[a]? = s.heap[a]?) : Ev g U := by
  obtain ⟨h1, h2, ⟨h3, h4⟩, ⟨h5, h6⟩, ⟨h7, h8⟩, h9, h10, h11, h12, h13⟩ := h
  have hv := hW.alike
  exact ⟨va_K.moved hv h1, h2, ⟨(va_Z.moved hv h3).kept hq, (va_T.moved hv h4).kept hq⟩, ⟨(va_Z.moved hv h5).kept hq, (va_T.moved hv h6).kept hq⟩, ⟨(va_Z.moved hv h7).kept hq, (va_T.moved hv h8).kept hq⟩, (va_T.moved hv h9).kept hq, (vk_S.moved hv h10).kept hq, fun i hi => vk_R.warm hW (h11 i hi), (va_Z.moved hv h12).kept hq, fun q hm => va_Nw.warmM hW (h13 q hm)⟩
def rmD (d : Nat) : Room := { frames := d, cells := 0, slots := 0, locals := 40 * d }
/-- the locals, place by place -/
def LF (ls : Array Slot) (nL : Nat) (tl : List (Option Value)) : Prop := ls.size = nL ∧ lv_wf ls ∧ ∀ (i : Nat) (v : Value), tl[i]? = some (some v) → ls[i]? = some (Slot.val v)
def TC (g : GT) (own : String) (cc : ByteArray) (nL : Nat) (ret : Option FieldType) (p : Program) (s : State) (m : MethodId) (args : Array Value) (meth : Method) (c : Code) : Prop :=
  p.tables.exec = Jvm.exec ∧ c.code = cc ∧ c.maxLocals = nL ∧ meth.sig.returnType = ret ∧ meth.locks = false ∧ s.vm.findClass own = some m.cls ∧ (∀ w ∈ TB, w.before args s = true) ∧ Ev g s
def TR (g : GT) (R : Room) (own : String) (cc : ByteArray) (nL : Nat) (ret : Option FieldType) (kc ks : Nat) (Z : List Frame → Array Value → State → State → Prop) (pc : Nat) (tl : List (Option Value)) (st : List Value) (M : TM) : Prop :=
  ∀ (p : Program) (e : Env) (s : State) (m : MethodId) (args : Array Value) (below : List Frame) (meth : Method) (c : Code) (H : Heap) (locs : List Loc) (ls : Array Slot),
    TC g own cc nL ret p s m args meth c → va_P (gD g) vwCl (WS g M) H → va_S (gA g) s.heap H locs → LF ls nL tl →
    W p (gl g) e R s m args below meth c H locs kc ks (Z below args s) (F0 m pc ls st)
/-- a contract's start and end -/
def Pcn (g : GT) (M : TM) (av : List Value) : Array Value → State → Prop := va_Pc av (fun U => va_P (gD g) vwCl (WS g M) U.heap ∧ Ev g U)
def Qcn (g : GT) (P : Option Value → TM → Prop) : Array Value → State → Outcome → State → Prop := fun _ st oc t => ∃ (r : Option Value) (M' : TM), oc = .returned r ∧ P r M' ∧ va_P (gD g) vwCl (WS g M') t.heap ∧ va_F (gA g) st t
def Cn (g : GT) (y : MethodName) (cc : ByteArray) (nL : Nat) (ret : Option FieldType) (d : Nat) (av : List Value) (M : TM) (P : Option Value → TM → Prop) : Prop :=
  Met (gl g) y (.code y cc nL ret :: TB) (rmD d) (Pcn g M av) (Qcn g P) 0 0 (gA g)
/-- a method's own end -/
def Zm (g : GT) (P : Option Value → TM → Prop) : List Frame → Array Value → State → State → Prop := fun below args s => MQ below (Qcn g P) args s 0 0 (gA g)
theorem Cn.mono {g : GT} {y : MethodName} {cc : ByteArray} {nL : Nat} {ret : Option FieldType} {d : Nat} {av : List Value} {M : TM} {P P' : Option Value → TM → Prop} (h : Cn g y cc nL ret d av M P) (hp : ∀ r M', P r M' → P' r M') : Cn g y cc nL ret d av M P' := by
  have e : ∀ a st o t, Qcn g P a st o t → Qcn g P' a st o t := by
    rintro a st o t ⟨r, M', h1, h2, h3, h4⟩
    exact ⟨r, M', h1, hp _ _ h2, h3, h4⟩
  intro p e' ha hc hk s m args below hf happ hP hK
  obtain ⟨k, o, h1, h2, h3, h4, h5⟩ := h p e' ha hc hk s m args below hf happ hP hK
  exact ⟨k, o, h1, h2, h3, e _ _ _ _ h4, h5⟩
theorem LF.entry (vs : List Value) (n : Nat) (h : (lg_sl vs).length ≤ n) (tl : List (Option Value)) (htl : ∀ (i : Nat) (v : Value), tl[i]? = some (some v) → (i, v) ∈ lv_args 0 vs) : LF ((lg_sl vs ++ List.replicate (n - (lg_sl vs).length) Slot.unset).toArray) n tl := by
  obtain ⟨h1, h2, h3⟩ := lv_entry vs h
  exact ⟨h1, h2, fun i v hi => h3 (i, v) (htl i v hi)⟩
/-- the positional list out of the argument list -/
def tlA : List Value → List (Option Value)
  | [] => []
  | v :: vs => if v.category = 2 then some v :: none :: tlA vs else some v :: tlA vs
theorem tlA_mem : ∀ (vs : List Value) (k i : Nat) (v : Value), (tlA vs)[i]? = some (some v) → (k + i, v) ∈ lv_args k vs
  | [], _, _, _, h => by simp [tlA] at h
  | x :: vs, k, i, v, h => by
    unfold tlA at h
    by_cases hc : x.category = 2
    · rw [if_pos hc] at h
      match i, h with
      | 0, h => simp at h; subst h; simp [lv_args]
      | 1, h => simp at h
      | i + 2, h =>
        have h' : (tlA vs)[i]? = some (some v) := by simpa using h
        have := tlA_mem vs (k + 2) i v h'
        simp only [lv_args, hc]
        rw [show k + (i + 2) = k + 2 + i by omega]
        exact List.mem_cons_of_mem _ this
    · rw [if_neg hc] at h
      have hc1 : x.category = 1 := (lv_cat x).resolve_right hc
      match i, h with
      | 0, h => simp at h; subst h; simp [lv_args]
      | i + 1, h =>
        have h' : (tlA vs)[i]? = some (some v) := by simpa using h
        have := tlA_mem vs (k + 1) i v h'
        simp only [lv_args, hc1]
        rw [show k + (i + 1) = k + 1 + i by omega]
        exact List.mem_cons_of_mem _ this
/-- a contract out of a walk of the body -/
theorem Cn.ofTR {g : GT} {y : MethodName} {cc : ByteArray} {nL : Nat} {ret : Option FieldType} {d : Nat} {av : List Value} {M : TM} {P : Option Value → TM → Prop} (hy : plainName y.cls = true) (ha : (lg_sl av).length ≤ nL) (k : TR g (rmD d) y.cls cc nL ret 0 0 (Zm g P) 0 (tlA av ++ List.replicate nL none) [] M) : Cn g y cc nL ret d av M P := by
  refine Met.ofW (cc := cc) (maxL := nL) (ret := ret) hy rfl ?_
  intro p e s m args below meth c s₁ B hml hv
  obtain ⟨rfl, hP, hE⟩ := hv
  have hts : ∀ w ∈ TB, w.before av.toArray s = true := fun w hw => atoms_spec (ws := .code y cc nL ret :: TB) B.pre w (List.mem_cons_of_mem _ hw)
  rw [lg_entry_eq]
  refine k p e s m av.toArray below meth c s.heap [] _ ⟨B.exec, B.bytes, hml, B.returns, B.notSynchronized, findClass_of_methodNamed B.named, hts, hE⟩ hP va_S.rf (LF.entry av nL ha _ ?_)
  intro i v hi
  by_cases hl : i < (tlA av).length
  · rw [List.getElem?_append_left hl] at hi
    have := tlA_mem av 0 i v hi
    rwa [Nat.zero_add] at this
  · rw [List.getElem?_append_right (by omega), List.getElem?_replicate] at hi
    split at hi <;> simp at hi
end
section
section TRR
variable {g : GT} {R : Room} {own : String} {cc : ByteArray} {nL : Nat} {ret : Option FieldType} {kc ks : Nat} {Z : List Frame → Array Value → State → State → Prop} {pc : Nat} {tl : List (Option Value)} {st : List Value} {M : TM}
theorem q_iconst {i : Int} {v : Int32} (n : Nat) (hd : decode cc pc = .ok (.iconst i, 1)) (hn : pc + 1 = n) (hv : Int32.ofInt i = v) (k : TR g R own cc nL ret kc ks Z n tl (.int v :: st) M) : TR g R own cc nL ret kc ks Z pc tl (st) M := by
  subst hn
  intro p e s m args below meth c H locs ls C hP hS hl
  exact lv_iconst C.1 C.2.1 hd hv (k p e s m args below meth c H locs ls C hP hS hl)
theorem q_bipush {i : Int} {v : Int32} (n : Nat) (hd : decode cc pc = .ok (.bipush i, 2)) (hn : pc + 2 = n) (hv : (Int8.ofInt i).toInt32 = v) (k : TR g R own cc nL ret kc ks Z n tl (.int v :: st) M) : TR g R own cc nL ret kc ks Z pc tl (st) M := by
  subst hn
  intro p e s m args below meth c H locs ls C hP hS hl
  exact lv_bipush C.1 C.2.1 hd hv (k p e s m args below meth c H locs ls C hP hS hl)
theorem q_sipush {i : Int} {v : Int32} (n : Nat) (hd : decode cc pc = .ok (.sipush i, 3)) (hn : pc + 3 = n) (hv : (Int16.ofInt i).toInt32 = v) (k : TR g R own cc nL ret kc ks Z n tl (.int v :: st) M) : TR g R own cc nL ret kc ks Z pc tl (st) M := by
  subst hn
  intro p e s m args below meth c H locs ls C hP hS hl
  exact lv_sipush C.1 C.2.1 hd hv (k p e s m args below meth c H locs ls C hP hS hl)
theorem q_lconst {i : Fin 2} {v : Int64} (n : Nat) (hd : decode cc pc = .ok (.lconst i, 1)) (hn : pc + 1 = n) (hv : Int64.ofNat (i : Nat) = v) (k : TR g R own cc nL ret kc ks Z n tl (.long v :: st) M) : TR g R own cc nL ret kc ks Z pc tl (st) M := by
  subst hn
  intro p e s m args below meth c H locs ls C hP hS hl
  exact lv_lconst C.1 C.2.1 hd hv (k p e s m args below meth c H locs ls C hP hS hl)
theorem q_ldc {idx : Nat} {v : Int32} (n : Nat) (hd : decode cc pc = .ok (.ldc idx, 2)) (hn : pc + 2 = n) (hw : Cond.constant own idx v ∈ TB) (k : TR g R own cc nL ret kc ks Z n tl (.int v :: st) M) : TR g R own cc nL ret kc ks Z pc tl st M := by
  subst hn
  intro p e s m args below meth c H locs ls C hP hS hl
  exact lv_ldc C.1 C.2.1 C.2.2.2.2.2.1 (C.2.2.2.2.2.2.1 _ hw) hd (k p e s m args below meth c H locs ls C hP hS hl)
theorem q_ldc_w {idx : Nat} {v : Int32} (n : Nat) (hd : decode cc pc = .ok (.ldc_w idx, 3)) (hn : pc + 3 = n) (hw : Cond.constant own idx v ∈ TB) (k : TR g R own cc nL ret kc ks Z n tl (.int v :: st) M) : TR g R own cc nL ret kc ks Z pc tl st M := by
  subst hn
  intro p e s m args below meth c H locs ls C hP hS hl
  exact lv_ldcw C.1 C.2.1 C.2.2.2.2.2.1 (C.2.2.2.2.2.2.1 _ hw) hd (k p e s m args below meth c H locs ls C hP hS hl)
theorem q_ldc2 {idx : Nat} {v : Int64} (n : Nat) (hd : decode cc pc = .ok (.ldc2_w idx, 3)) (hn : pc + 3 = n) (hw : Cond.constantLong own idx v ∈ TB) (k : TR g R own cc nL ret kc ks Z n tl (.long v :: st) M) : TR g R own cc nL ret kc ks Z pc tl st M := by
  subst hn
  intro p e s m args below meth c H locs ls C hP hS hl
  exact lv_ldc2 C.1 C.2.1 C.2.2.2.2.2.1 (C.2.2.2.2.2.2.1 _ hw) hd (k p e s m args below meth c H locs ls C hP hS hl)
theorem q_ldcS {idx i : Nat} (n : Nat) (hd : decode cc pc = .ok (.ldc idx, 2)) (hn : pc + 2 = n) (hi : i < 12) (hs : strI.getD i 0 = idx) (ho : own = RX0) (k : TR g R own cc nL ret kc ks Z n tl (.ref (gad g 53 i) :: st) M) : TR g R own cc nL ret kc ks Z pc tl st M := by
  subst hn; subst hs; subst ho
  intro p e s m args below meth c H locs ls C hP hS hl
  exact va_ldcS C.1 C.2.1 C.2.2.2.2.2.1 (C.2.2.2.2.2.2.2.2.2.2.2.2.2.2.1 i hi) hd (k p e s m args below meth c H locs ls C hP hS hl)
theorem q_iload_n {i : Fin 4} {x : Int32} (n : Nat) (hd : decode cc pc = .ok (.iload_n i, 1)) (hn : pc + 1 = n) (h : tl[(i : Nat)]? = some (some (.int x))) (k : TR g R own cc nL ret kc ks Z n tl (.int x :: st) M) : TR g R own cc nL ret kc ks Z pc tl st M := by
  subst hn
  intro p e s m args below meth c H locs ls C hP hS hl
  exact lv_iload_n C.1 C.2.1 hd rfl (hl.2.2 _ _ h) (k p e s m args below meth c H locs ls C hP hS hl)
theorem q_iload {i : Nat} {x : Int32} (n : Nat) (hd : decode cc pc = .ok (.iload i, 2)) (hn : pc + 2 = n) (h : tl[i]? = some (some (.int x))) (k : TR g R own cc nL ret kc ks Z n tl (.int x :: st) M) : TR g R own cc nL ret kc ks Z pc tl st M := by
  subst hn
  intro p e s m args below meth c H locs ls C hP hS hl
  exact lv_iload C.1 C.2.1 hd (hl.2.2 _ _ h) (k p e s m args below meth c H locs ls C hP hS hl)
theorem q_lload_n {i : Fin 4} {x : Int64} (n : Nat) (hd : decode cc pc = .ok (.lload_n i, 1)) (hn : pc + 1 = n) (h : tl[(i : Nat)]? = some (some (.long x))) (k : TR g R own cc nL ret kc ks Z n tl (.long x :: st) M) : TR g R own cc nL ret kc ks Z pc tl st M := by
  subst hn
  intro p e s m args below meth c H locs ls C hP hS hl
  exact lv_lload_n C.1 C.2.1 hd rfl (hl.2.2 _ _ h) (k p e s m args below meth c H locs ls C hP hS hl)
theorem q_lload {i : Nat} {x : Int64} (n : Nat) (hd : decode cc pc = .ok (.lload i, 2)) (hn : pc + 2 = n) (h : tl[i]? = some (some (.long x))) (k : TR g R own cc nL ret kc ks Z n tl (.long x :: st) M) : TR g R own cc nL ret kc ks Z pc tl st M := by
  subst hn
  intro p e s m args below meth c H locs ls C hP hS hl
  exact lv_lload C.1 C.2.1 hd (hl.2.2 _ _ h) (k p e s m args below meth c H locs ls C hP hS hl)
theorem q_aload_n {i : Fin 4} {x : Nat} (n : Nat) (hd : decode cc pc = .ok (.aload_n i, 1)) (hn : pc + 1 = n) (h : tl[(i : Nat)]? = some (some (.ref x))) (k : TR g R own cc nL ret kc ks Z n tl (.ref x :: st) M) : TR g R own cc nL ret kc ks Z pc tl st M := by
  subst hn
  intro p e s m args below meth c H locs ls C hP hS hl
  exact lv_aload_n C.1 C.2.1 hd rfl (hl.2.2 _ _ h) (k p e s m args below meth c H locs ls C hP hS hl)
theorem q_aload {i : Nat} {x : Nat} (n : Nat) (hd : decode cc pc = .ok (.aload i, 2)) (hn : pc + 2 = n) (h : tl[i]? = some (some (.ref x))) (k : TR g R own cc nL ret kc ks Z n tl (.ref x :: st) M) : TR g R own cc nL ret kc ks Z pc tl st M := by
  subst hn
  intro p e s m args below meth c H locs ls C hP hS hl
  exact lv_aload C.1 C.2.1 hd (hl.2.2 _ _ h) (k p e s m args below meth c H locs ls C hP hS hl)
def lvOf (tl : List (Option Value)) : List (Nat × Value) := (List.range tl.length).filterMap (fun i => match tl[i]? with | some (some v) => some (i, v) | _ => none)
theorem lvOf_mem {tl : List (Option Value)} {i : Nat} {v : Value} : (i, v) ∈ lvOf tl ↔ tl[i]? = some (some v) := by
  unfold lvOf
  rw [List.mem_filterMap]
  constructor
  · rintro ⟨j, -, h⟩
    cases hj : tl[j]? with
    | none => rw [hj] at h; cases h
    | some o =>
      cases o with
      | none => rw [hj] at h; cases h
      | some w => rw [hj] at h; cases h; exact hj
  · intro h
    exact ⟨i, List.mem_range.mpr (List.getElem?_eq_some_iff.mp h).1, by rw [h]⟩
theorem LF.has {ls : Array Slot} {nL : Nat} {tl : List (Option Value)} (h : LF ls nL tl) : lv_has ls nL (lvOf tl) := ⟨h.1, h.2.1, fun q hq => h.2.2 q.1 q.2 (lvOf_mem.mp hq)⟩
/-- no long stands right ahead of the place -/
def okst (tl : List (Option Value)) : Nat → Bool
  | 0 => true
  | i + 1 => match tl[i]? with
    | some (some v) => v.category == 1
    | _ => true
theorem LF.st1 {ls : Array Slot} {nL : Nat} {tl : List (Option Value)} {i : Nat} {v : Value} (h : lv_has ls nL ((i, v) :: (lvOf tl).filter (fun q => !(q.1 == i) && !(q.1 + 1 == i && q.2.category == 2)))) (ho : okst tl i = true) : LF ls nL (tl.set i (some v)) := by
  refine ⟨h.1, h.2.1, fun j w hj => ?_⟩
  rw [List.getElem?_set] at hj
  by_cases hij : i = j
  · subst hij
    rw [if_pos rfl] at hj
    split at hj
    · cases hj; exact h.2.2 (i, v) List.mem_cons_self
    · cases hj
  · rw [if_neg hij] at hj
    refine h.2.2 (j, w) (List.mem_cons_of_mem _ (List.mem_filter.mpr ⟨lvOf_mem.mpr hj, ?_⟩))
    have h1 : ¬ j = i := fun q => hij q.symm
    by_cases h2 : j + 1 = i
    · subst h2
      have ho : (match tl[j]? with | some (some v) => v.category == 1 | _ => true) = true := ho
      rw [hj] at ho
      have : w.category = 1 := by simpa using ho
      simp [this]
    · simp [h1, h2]
theorem LF.st2 {ls : Array Slot} {nL : Nat} {tl : List (Option Value)} {i : Nat} {v : Value} (h : lv_has ls nL ((i, v) :: (lvOf tl).filter (fun q => !(q.1 == i) && (!(q.1 == i + 1) && !(q.1 + 1 == i && q.2.category == 2))))) (ho : okst tl i = true) : LF ls nL ((tl.set i (some v)).set (i + 1) none) := by
  refine ⟨h.1, h.2.1, fun j w hj => ?_⟩
  rw [List.getElem?_set] at hj
  by_cases hij1 : i + 1 = j
  · rw [if_pos hij1] at hj
    split at hj <;> simp at hj
  · rw [if_neg hij1, List.getElem?_set] at hj
    by_cases hij : i = j
    · subst hij
      rw [if_pos rfl] at hj
      split at hj
      · cases hj; exact h.2.2 (i, v) List.mem_cons_self
      · cases hj
    · rw [if_neg hij] at hj
      refine h.2.2 (j, w) (List.mem_cons_of_mem _ (List.mem_filter.mpr ⟨lvOf_mem.mpr hj, ?_⟩))
      have h1 : ¬ j = i := fun q => hij q.symm
      have h3 : ¬ j = i + 1 := fun q => hij1 q.symm
      by_cases h2 : j + 1 = i
      · subst h2
        have ho : (match tl[j]? with | some (some v) => v.category == 1 | _ => true) = true := ho
        rw [hj] at ho
        have : w.category = 1 := by simpa using ho
        simp [this]; omega
      · simp [h1, h2, h3]
theorem LF.forget {ls : Array Slot} {nL : Nat} {tl tl' : List (Option Value)} (h : LF ls nL tl) (hs : ∀ (i : Nat) (v : Value), tl'[i]? = some (some v) → tl[i]? = some (some v)) : LF ls nL tl' := ⟨h.1, h.2.1, fun i v q => h.2.2 i v (hs i v q)⟩
/-- fewer locals are known -/
def lsub : List (Option Value) → List (Option Value) → Prop
  | [], _ => True
  | none :: a, [] => lsub a []
  | none :: a, _ :: b => lsub a b
  | some _ :: _, [] => False
  | some v :: a, w :: b => w = some v ∧ lsub a b
theorem lsub_at : ∀ (a b : List (Option Value)), lsub a b → ∀ (i : Nat) (v : Value), a[i]? = some (some v) → b[i]? = some (some v)
  | [], _, _, i, v, h => by simp at h
  | none :: a, [], hs, i, v, h => by
    match i, h with
    | 0, h => simp at h
    | i + 1, h => exact absurd (lsub_at a [] hs i v (by simpa using h)) (by simp)
  | none :: a, _ :: b, hs, i, v, h => by
    match i, h with
    | 0, h => simp at h
    | i + 1, h => simpa using lsub_at a b hs i v (by simpa using h)
  | some _ :: _, [], hs, _, _, _ => hs.elim
  | some x :: a, w :: b, hs, i, v, h => by
    match i, h with
    | 0, h => simp at h; subst h; simp [hs.1]
    | i + 1, h => simpa using lsub_at a b hs.2 i v (by simpa using h)
theorem q_fgt {tl' : List (Option Value)} (h : lsub tl' tl) (k : TR g R own cc nL ret kc ks Z pc tl' st M) : TR g R own cc nL ret kc ks Z pc tl st M := by
  intro p e s m args below meth c H locs ls C hP hS hl
  exact k p e s m args below meth c H locs ls C hP hS (hl.forget (lsub_at _ _ h))
theorem q_eqM {M' : TM} (h : M = M') (k : TR g R own cc nL ret kc ks Z pc tl st M') : TR g R own cc nL ret kc ks Z pc tl st M := by subst h; exact k
theorem q_eqS {st' : List Value} (h : st = st') (k : TR g R own cc nL ret kc ks Z pc tl st' M) : TR g R own cc nL ret kc ks Z pc tl st M := by subst h; exact k
theorem q_istore_n {i : Fin 4} {x : Int32} (n : Nat) (hd : decode cc pc = .ok (.istore_n i, 1)) (hn : pc + 1 = n) (hb : (i : Nat) < nL) (ho : okst tl (i : Nat) = true) (k : TR g R own cc nL ret kc ks Z n (tl.set (i : Nat) (some (.int x))) st M) : TR g R own cc nL ret kc ks Z pc tl (.int x :: st) M := by
  subst hn
  intro p e s m args below meth c H locs ls C hP hS hl
  exact lv_istore_n C.1 C.2.1 hd rfl hl.has hb rfl (fun ls' h' => k p e s m args below meth c H locs ls' C hP hS (LF.st1 h' ho))
theorem q_istore {i : Nat} {x : Int32} (n : Nat) (hd : decode cc pc = .ok (.istore i, 2)) (hn : pc + 2 = n) (hb : i < nL) (ho : okst tl i = true) (k : TR g R own cc nL ret kc ks Z n (tl.set i (some (.int x))) st M) : TR g R own cc nL ret kc ks Z pc tl (.int x :: st) M := by
  subst hn
  intro p e s m args below meth c H locs ls C hP hS hl
  exact lv_istore C.1 C.2.1 hd hl.has hb rfl (fun ls' h' => k p e s m args below meth c H locs ls' C hP hS (LF.st1 h' ho))
theorem q_astore_n {i : Fin 4} {x : Nat} (n : Nat) (hd : decode cc pc = .ok (.astore_n i, 1)) (hn : pc + 1 = n) (hb : (i : Nat) < nL) (ho : okst tl (i : Nat) = true) (k : TR g R own cc nL ret kc ks Z n (tl.set (i : Nat) (some (.ref x))) st M) : TR g R own cc nL ret kc ks Z pc tl (.ref x :: st) M := by
  subst hn
  intro p e s m args below meth c H locs ls C hP hS hl
  exact lv_astore_n C.1 C.2.1 hd rfl hl.has hb rfl (fun ls' h' => k p e s m args below meth c H locs ls' C hP hS (LF.st1 h' ho))
theorem q_astore {i : Nat} {x : Nat} (n : Nat) (hd : decode cc pc = .ok (.astore i, 2)) (hn : pc + 2 = n) (hb : i < nL) (ho : okst tl i = true) (k : TR g R own cc nL ret kc ks Z n (tl.set i (some (.ref x))) st M) : TR g R own cc nL ret kc ks Z pc tl (.ref x :: st) M := by
  subst hn
  intro p e s m args below meth c H locs ls C hP hS hl
  exact lv_astore C.1 C.2.1 hd hl.has hb rfl (fun ls' h' => k p e s m args below meth c H locs ls' C hP hS (LF.st1 h' ho))
theorem q_lstore_n {i : Fin 4} {x : Int64} (n : Nat) (hd : decode cc pc = .ok (.lstore_n i, 1)) (hn : pc + 1 = n) (hb : (i : Nat) + 1 < nL) (ho : okst tl (i : Nat) = true) (k : TR g R own cc nL ret kc ks Z n ((tl.set (i : Nat) (some (.long x))).set ((i : Nat) + 1) none) st M) : TR g R own cc nL ret kc ks Z pc tl (.long x :: st) M := by
  subst hn
  intro p e s m args below meth c H locs ls C hP hS hl
  exact lv_lstore_n C.1 C.2.1 hd rfl hl.has hb rfl (fun ls' h' => k p e s m args below meth c H locs ls' C hP hS (LF.st2 h' ho))
theorem q_lstore {i : Nat} {x : Int64} (n : Nat) (hd : decode cc pc = .ok (.lstore i, 2)) (hn : pc + 2 = n) (hb : i + 1 < nL) (ho : okst tl i = true) (k : TR g R own cc nL ret kc ks Z n ((tl.set i (some (.long x))).set (i + 1) none) st M) : TR g R own cc nL ret kc ks Z pc tl (.long x :: st) M := by
  subst hn
  intro p e s m args below meth c H locs ls C hP hS hl
  exact lv_lstore C.1 C.2.1 hd hl.has hb rfl (fun ls' h' => k p e s m args below meth c H locs ls' C hP hS (LF.st2 h' ho))
theorem q_iinc {i : Nat} {z : Int} {x v : Int32} (n : Nat) (hd : decode cc pc = .ok (.iinc i z, 3)) (hn : pc + 3 = n) (h : tl[i]? = some (some (.int x))) (hb : i < nL) (ho : okst tl i = true) (hv : x + Int32.ofInt z = v) (k : TR g R own cc nL ret kc ks Z n (tl.set i (some (.int v))) st M) : TR g R own cc nL ret kc ks Z pc tl st M := by
  subst hn
  intro p e s m args below meth c H locs ls C hP hS hl
  obtain ⟨q, hq⟩ := List.getElem?_of_mem (lvOf_mem.mpr h)
  exact lv_iinc C.1 C.2.1 hd hl.has (k := q) hq hv hb rfl (fun ls' h' => k p e s m args below meth c H locs ls' C hP hS (LF.st1 h' ho))
theorem q_iadd {x y : Int32} (n : Nat) (hd : decode cc pc = .ok (.iadd, 1)) (hn : pc + 1 = n)  (k : TR g R own cc nL ret kc ks Z n tl (.int (x + y) :: st) M) : TR g R own cc nL ret kc ks Z pc tl (.int y :: .int x :: st) M := by
  subst hn
  intro p e s m args below meth c H locs ls C hP hS hl
  exact lv_iadd C.1 C.2.1 hd (k p e s m args below meth c H locs ls C hP hS hl)
theorem q_isub {x y : Int32} (n : Nat) (hd : decode cc pc = .ok (.isub, 1)) (hn : pc + 1 = n)  (k : TR g R own cc nL ret kc ks Z n tl (.int (x - y) :: st) M) : TR g R own cc nL ret kc ks Z pc tl (.int y :: .int x :: st) M := by
  subst hn
  intro p e s m args below meth c H locs ls C hP hS hl
  exact lv_isub C.1 C.2.1 hd (k p e s m args below meth c H locs ls C hP hS hl)
theorem q_imul {x y : Int32} (n : Nat) (hd : decode cc pc = .ok (.imul, 1)) (hn : pc + 1 = n)  (k : TR g R own cc nL ret kc ks Z n tl (.int (x * y) :: st) M) : TR g R own cc nL ret kc ks Z pc tl (.int y :: .int x :: st) M := by
  subst hn
  intro p e s m args below meth c H locs ls C hP hS hl
  exact lv_imul C.1 C.2.1 hd (k p e s m args below meth c H locs ls C hP hS hl)
theorem q_iand {x y : Int32} (n : Nat) (hd : decode cc pc = .ok (.iand, 1)) (hn : pc + 1 = n)  (k : TR g R own cc nL ret kc ks Z n tl (.int (x &&& y) :: st) M) : TR g R own cc nL ret kc ks Z pc tl (.int y :: .int x :: st) M := by
  subst hn
  intro p e s m args below meth c H locs ls C hP hS hl
  exact lv_iand C.1 C.2.1 hd (k p e s m args below meth c H locs ls C hP hS hl)
theorem q_ior {x y : Int32} (n : Nat) (hd : decode cc pc = .ok (.ior, 1)) (hn : pc + 1 = n)  (k : TR g R own cc nL ret kc ks Z n tl (.int (x ||| y) :: st) M) : TR g R own cc nL ret kc ks Z pc tl (.int y :: .int x :: st) M := by
  subst hn
  intro p e s m args below meth c H locs ls C hP hS hl
  exact lv_ior C.1 C.2.1 hd (k p e s m args below meth c H locs ls C hP hS hl)
theorem q_ladd {x y : Int64} (n : Nat) (hd : decode cc pc = .ok (.ladd, 1)) (hn : pc + 1 = n)  (k : TR g R own cc nL ret kc ks Z n tl (.long (x + y) :: st) M) : TR g R own cc nL ret kc ks Z pc tl (.long y :: .long x :: st) M := by
  subst hn
  intro p e s m args below meth c H locs ls C hP hS hl
  exact lv_ladd C.1 C.2.1 hd (k p e s m args below meth c H locs ls C hP hS hl)
theorem q_ineg {x : Int32} (n : Nat) (hd : decode cc pc = .ok (.ineg, 1)) (hn : pc + 1 = n)  (k : TR g R own cc nL ret kc ks Z n tl (.int (-x) :: st) M) : TR g R own cc nL ret kc ks Z pc tl (.int x :: st) M := by
  subst hn
  intro p e s m args below meth c H locs ls C hP hS hl
  exact lv_ineg C.1 C.2.1 hd (k p e s m args below meth c H locs ls C hP hS hl)
theorem q_idiv {x y : Int32} (n : Nat) (hd : decode cc pc = .ok (.idiv, 1)) (hn : pc + 1 = n) (hy : ¬ y = 0) (k : TR g R own cc nL ret kc ks Z n tl (.int (x / y) :: st) M) : TR g R own cc nL ret kc ks Z pc tl (.int y :: .int x :: st) M := by
  subst hn
  intro p e s m args below meth c H locs ls C hP hS hl
  exact lv_idiv C.1 C.2.1 hd hy (k p e s m args below meth c H locs ls C hP hS hl)
theorem q_irem {x y : Int32} (n : Nat) (hd : decode cc pc = .ok (.irem, 1)) (hn : pc + 1 = n) (hy : ¬ y = 0) (k : TR g R own cc nL ret kc ks Z n tl (.int (x - x / y * y) :: st) M) : TR g R own cc nL ret kc ks Z pc tl (.int y :: .int x :: st) M := by
  subst hn
  intro p e s m args below meth c H locs ls C hP hS hl
  exact lv_irem C.1 C.2.1 hd hy (k p e s m args below meth c H locs ls C hP hS hl)
theorem q_ishl {x y : Int32} (n : Nat) (hd : decode cc pc = .ok (.ishl, 1)) (hn : pc + 1 = n)  (k : TR g R own cc nL ret kc ks Z n tl (.int (x <<< (y &&& 31)) :: st) M) : TR g R own cc nL ret kc ks Z pc tl (.int y :: .int x :: st) M := by
  subst hn
  intro p e s m args below meth c H locs ls C hP hS hl
  exact lv_ishl C.1 C.2.1 hd (k p e s m args below meth c H locs ls C hP hS hl)
theorem q_ishr {x y : Int32} (n : Nat) (hd : decode cc pc = .ok (.ishr, 1)) (hn : pc + 1 = n)  (k : TR g R own cc nL ret kc ks Z n tl (.int (x >>> (y &&& 31)) :: st) M) : TR g R own cc nL ret kc ks Z pc tl (.int y :: .int x :: st) M := by
  subst hn
  intro p e s m args below meth c H locs ls C hP hS hl
  exact lv_ishr C.1 C.2.1 hd (k p e s m args below meth c H locs ls C hP hS hl)
theorem q_iushr {x y : Int32} (n : Nat) (hd : decode cc pc = .ok (.iushr, 1)) (hn : pc + 1 = n)  (k : TR g R own cc nL ret kc ks Z n tl (.int ((x.toUInt32 >>> (y.toUInt32 &&& Int32.toUInt32 31)).toInt32) :: st) M) : TR g R own cc nL ret kc ks Z pc tl (.int y :: .int x :: st) M := by
  subst hn
  intro p e s m args below meth c H locs ls C hP hS hl
  exact lv_iushr C.1 C.2.1 hd rfl (k p e s m args below meth c H locs ls C hP hS hl)
theorem q_i2l {x : Int32} (n : Nat) (hd : decode cc pc = .ok (.i2l, 1)) (hn : pc + 1 = n)  (k : TR g R own cc nL ret kc ks Z n tl (.long x.toInt64 :: st) M) : TR g R own cc nL ret kc ks Z pc tl (.int x :: st) M := by
  subst hn
  intro p e s m args below meth c H locs ls C hP hS hl
  exact lv_i2l C.1 C.2.1 hd rfl (k p e s m args below meth c H locs ls C hP hS hl)
theorem q_l2i {x : Int64} (n : Nat) (hd : decode cc pc = .ok (.l2i, 1)) (hn : pc + 1 = n)  (k : TR g R own cc nL ret kc ks Z n tl (.int x.toInt32 :: st) M) : TR g R own cc nL ret kc ks Z pc tl (.long x :: st) M := by
  subst hn
  intro p e s m args below meth c H locs ls C hP hS hl
  exact lv_l2i C.1 C.2.1 hd rfl (k p e s m args below meth c H locs ls C hP hS hl)
theorem q_i2s {x : Int32} (n : Nat) (hd : decode cc pc = .ok (.i2s, 1)) (hn : pc + 1 = n)  (k : TR g R own cc nL ret kc ks Z n tl (.int x.toInt16.toInt32 :: st) M) : TR g R own cc nL ret kc ks Z pc tl (.int x :: st) M := by
  subst hn
  intro p e s m args below meth c H locs ls C hP hS hl
  exact lv_i2s C.1 C.2.1 hd rfl (k p e s m args below meth c H locs ls C hP hS hl)
theorem q_i2b {x : Int32} (n : Nat) (hd : decode cc pc = .ok (.i2b, 1)) (hn : pc + 1 = n)  (k : TR g R own cc nL ret kc ks Z n tl (.int x.toInt8.toInt32 :: st) M) : TR g R own cc nL ret kc ks Z pc tl (.int x :: st) M := by
  subst hn
  intro p e s m args below meth c H locs ls C hP hS hl
  exact lv_i2b C.1 C.2.1 hd rfl (k p e s m args below meth c H locs ls C hP hS hl)
theorem q_i2c {x : Int32} (n : Nat) (hd : decode cc pc = .ok (.i2c, 1)) (hn : pc + 1 = n)  (k : TR g R own cc nL ret kc ks Z n tl (.int (x.toUInt32 % 65536).toInt32 :: st) M) : TR g R own cc nL ret kc ks Z pc tl (.int x :: st) M := by
  subst hn
  intro p e s m args below meth c H locs ls C hP hS hl
  exact lv_i2c C.1 C.2.1 hd rfl (k p e s m args below meth c H locs ls C hP hS hl)
theorem q_lcmp {x y : Int64} (n : Nat) (hd : decode cc pc = .ok (.lcmp, 1)) (hn : pc + 1 = n)  (k : TR g R own cc nL ret kc ks Z n tl (.int (lg_cmp x y) :: st) M) : TR g R own cc nL ret kc ks Z pc tl (.long y :: .long x :: st) M := by
  subst hn
  intro p e s m args below meth c H locs ls C hP hS hl
  exact W.lcmp C.1 C.2.1 hd (k p e s m args below meth c H locs ls C hP hS hl)
theorem q_dup {v : Value} (n : Nat) (hd : decode cc pc = .ok (.dup, 1)) (hn : pc + 1 = n) (hc : v.category = 1) (k : TR g R own cc nL ret kc ks Z n tl (v :: v :: st) M) : TR g R own cc nL ret kc ks Z pc tl (v :: st) M := by
  subst hn
  intro p e s m args below meth c H locs ls C hP hS hl
  exact lv_dup C.1 C.2.1 hd hc (k p e s m args below meth c H locs ls C hP hS hl)
theorem q_pop {v : Value} (n : Nat) (hd : decode cc pc = .ok (.pop, 1)) (hn : pc + 1 = n) (hc : v.category = 1) (k : TR g R own cc nL ret kc ks Z n tl (st) M) : TR g R own cc nL ret kc ks Z pc tl (v :: st) M := by
  subst hn
  intro p e s m args below meth c H locs ls C hP hS hl
  exact lv_pop C.1 C.2.1 hd hc (k p e s m args below meth c H locs ls C hP hS hl)
theorem q_dup2 {v w : Value} (n : Nat) (hd : decode cc pc = .ok (.dup2, 1)) (hn : pc + 1 = n) (hc : v.category = 1) (hw : w.category = 1) (k : TR g R own cc nL ret kc ks Z n tl (v :: w :: v :: w :: st) M) : TR g R own cc nL ret kc ks Z pc tl (v :: w :: st) M := by
  subst hn
  intro p e s m args below meth c H locs ls C hP hS hl
  exact lv_dup2_11 C.1 C.2.1 hd hc hw (k p e s m args below meth c H locs ls C hP hS hl)
theorem q_if_eq {x : Int32} {off : Int} (a b : Nat) (hd : decode cc pc = .ok (.ifCond .eq off, 3)) (ha : (pc : Int) + off = (a : Int)) (hb : pc + 3 = b) (kt : x = 0 → TR g R own cc nL ret kc ks Z a tl st M) (kf : ¬ x = 0 → TR g R own cc nL ret kc ks Z b tl st M) : TR g R own cc nL ret kc ks Z pc tl (.int x :: st) M := by
  subst hb
  intro p e s m args below meth c H locs ls C hP hS hl
  exact lv_if_eq C.1 C.2.1 hd ha (fun q => kt q p e s m args below meth c H locs ls C hP hS hl) (fun q => kf q p e s m args below meth c H locs ls C hP hS hl)
theorem q_icmp_eq {x y : Int32} {off : Int} (a b : Nat) (hd : decode cc pc = .ok (.if_icmp .eq off, 3)) (ha : (pc : Int) + off = (a : Int)) (hb : pc + 3 = b) (kt : x = y → TR g R own cc nL ret kc ks Z a tl st M) (kf : ¬ x = y → TR g R own cc nL ret kc ks Z b tl st M) : TR g R own cc nL ret kc ks Z pc tl (.int y :: .int x :: st) M := by
  subst hb
  intro p e s m args below meth c H locs ls C hP hS hl
  exact lv_icmp_eq C.1 C.2.1 hd ha (fun q => kt q p e s m args below meth c H locs ls C hP hS hl) (fun q => kf q p e s m args below meth c H locs ls C hP hS hl)
theorem q_if_ne {x : Int32} {off : Int} (a b : Nat) (hd : decode cc pc = .ok (.ifCond .ne off, 3)) (ha : (pc : Int) + off = (a : Int)) (hb : pc + 3 = b) (kt : ¬ x = 0 → TR g R own cc nL ret kc ks Z a tl st M) (kf : x = 0 → TR g R own cc nL ret kc ks Z b tl st M) : TR g R own cc nL ret kc ks Z pc tl (.int x :: st) M := by
  subst hb
  intro p e s m args below meth c H locs ls C hP hS hl
  exact lv_if_ne C.1 C.2.1 hd ha (fun q => kt q p e s m args below meth c H locs ls C hP hS hl) (fun q => kf q p e s m args below meth c H locs ls C hP hS hl)
theorem q_icmp_ne {x y : Int32} {off : Int} (a b : Nat) (hd : decode cc pc = .ok (.if_icmp .ne off, 3)) (ha : (pc : Int) + off = (a : Int)) (hb : pc + 3 = b) (kt : ¬ x = y → TR g R own cc nL ret kc ks Z a tl st M) (kf : x = y → TR g R own cc nL ret kc ks Z b tl st M) : TR g R own cc nL ret kc ks Z pc tl (.int y :: .int x :: st) M := by
  subst hb
  intro p e s m args below meth c H locs ls C hP hS hl
  exact lv_icmp_ne C.1 C.2.1 hd ha (fun q => kt q p e s m args below meth c H locs ls C hP hS hl) (fun q => kf q p e s m args below meth c H locs ls C hP hS hl)
theorem q_if_lt {x : Int32} {off : Int} (a b : Nat) (hd : decode cc pc = .ok (.ifCond .lt off, 3)) (ha : (pc : Int) + off = (a : Int)) (hb : pc + 3 = b) (kt : x < 0 → TR g R own cc nL ret kc ks Z a tl st M) (kf : ¬ x < 0 → TR g R own cc nL ret kc ks Z b tl st M) : TR g R own cc nL ret kc ks Z pc tl (.int x :: st) M := by
  subst hb
  intro p e s m args below meth c H locs ls C hP hS hl
  exact lv_if_lt C.1 C.2.1 hd ha (fun q => kt q p e s m args below meth c H locs ls C hP hS hl) (fun q => kf q p e s m args below meth c H locs ls C hP hS hl)
theorem q_icmp_lt {x y : Int32} {off : Int} (a b : Nat) (hd : decode cc pc = .ok (.if_icmp .lt off, 3)) (ha : (pc : Int) + off = (a : Int)) (hb : pc + 3 = b) (kt : x < y → TR g R own cc nL ret kc ks Z a tl st M) (kf : ¬ x < y → TR g R own cc nL ret kc ks Z b tl st M) : TR g R own cc nL ret kc ks Z pc tl (.int y :: .int x :: st) M := by
  subst hb
  intro p e s m args below meth c H locs ls C hP hS hl
  exact lv_icmp_lt C.1 C.2.1 hd ha (fun q => kt q p e s m args below meth c H locs ls C hP hS hl) (fun q => kf q p e s m args below meth c H locs ls C hP hS hl)
theorem q_if_ge {x : Int32} {off : Int} (a b : Nat) (hd : decode cc pc = .ok (.ifCond .ge off, 3)) (ha : (pc : Int) + off = (a : Int)) (hb : pc + 3 = b) (kt : 0 ≤ x → TR g R own cc nL ret kc ks Z a tl st M) (kf : ¬ 0 ≤ x → TR g R own cc nL ret kc ks Z b tl st M) : TR g R own cc nL ret kc ks Z pc tl (.int x :: st) M := by
  subst hb
  intro p e s m args below meth c H locs ls C hP hS hl
  exact lv_if_ge C.1 C.2.1 hd ha (fun q => kt q p e s m args below meth c H locs ls C hP hS hl) (fun q => kf q p e s m args below meth c H locs ls C hP hS hl)
theorem q_icmp_ge {x y : Int32} {off : Int} (a b : Nat) (hd : decode cc pc = .ok (.if_icmp .ge off, 3)) (ha : (pc : Int) + off = (a : Int)) (hb : pc + 3 = b) (kt : y ≤ x → TR g R own cc nL ret kc ks Z a tl st M) (kf : ¬ y ≤ x → TR g R own cc nL ret kc ks Z b tl st M) : TR g R own cc nL ret kc ks Z pc tl (.int y :: .int x :: st) M := by
  subst hb
  intro p e s m args below meth c H locs ls C hP hS hl
  exact lv_icmp_ge C.1 C.2.1 hd ha (fun q => kt q p e s m args below meth c H locs ls C hP hS hl) (fun q => kf q p e s m args below meth c H locs ls C hP hS hl)
theorem q_if_gt {x : Int32} {off : Int} (a b : Nat) (hd : decode cc pc = .ok (.ifCond .gt off, 3)) (ha : (pc : Int) + off = (a : Int)) (hb : pc + 3 = b) (kt : 0 < x → TR g R own cc nL ret kc ks Z a tl st M) (kf : ¬ 0 < x → TR g R own cc nL ret kc ks Z b tl st M) : TR g R own cc nL ret kc ks Z pc tl (.int x :: st) M := by
  subst hb
  intro p e s m args below meth c H locs ls C hP hS hl
  exact lv_if_gt C.1 C.2.1 hd ha (fun q => kt q p e s m args below meth c H locs ls C hP hS hl) (fun q => kf q p e s m args below meth c H locs ls C hP hS hl)
theorem q_icmp_gt {x y : Int32} {off : Int} (a b : Nat) (hd : decode cc pc = .ok (.if_icmp .gt off, 3)) (ha : (pc : Int) + off = (a : Int)) (hb : pc + 3 = b) (kt : y < x → TR g R own cc nL ret kc ks Z a tl st M) (kf : ¬ y < x → TR g R own cc nL ret kc ks Z b tl st M) : TR g R own cc nL ret kc ks Z pc tl (.int y :: .int x :: st) M := by
  subst hb
  intro p e s m args below meth c H locs ls C hP hS hl
  exact lv_icmp_gt C.1 C.2.1 hd ha (fun q => kt q p e s m args below meth c H locs ls C hP hS hl) (fun q => kf q p e s m args below meth c H locs ls C hP hS hl)
theorem q_if_le {x : Int32} {off : Int} (a b : Nat) (hd : decode cc pc = .ok (.ifCond .le off, 3)) (ha : (pc : Int) + off = (a : Int)) (hb : pc + 3 = b) (kt : x ≤ 0 → TR g R own cc nL ret kc ks Z a tl st M) (kf : ¬ x ≤ 0 → TR g R own cc nL ret kc ks Z b tl st M) : TR g R own cc nL ret kc ks Z pc tl (.int x :: st) M := by
  subst hb
  intro p e s m args below meth c H locs ls C hP hS hl
  exact lv_if_le C.1 C.2.1 hd ha (fun q => kt q p e s m args below meth c H locs ls C hP hS hl) (fun q => kf q p e s m args below meth c H locs ls C hP hS hl)
theorem q_icmp_le {x y : Int32} {off : Int} (a b : Nat) (hd : decode cc pc = .ok (.if_icmp .le off, 3)) (ha : (pc : Int) + off = (a : Int)) (hb : pc + 3 = b) (kt : x ≤ y → TR g R own cc nL ret kc ks Z a tl st M) (kf : ¬ x ≤ y → TR g R own cc nL ret kc ks Z b tl st M) : TR g R own cc nL ret kc ks Z pc tl (.int y :: .int x :: st) M := by
  subst hb
  intro p e s m args below meth c H locs ls C hP hS hl
  exact lv_icmp_le C.1 C.2.1 hd ha (fun q => kt q p e s m args below meth c H locs ls C hP hS hl) (fun q => kf q p e s m args below meth c H locs ls C hP hS hl)
theorem q_goto {off : Int} (a : Nat) (hd : decode cc pc = .ok (.goto off, 3)) (ha : (pc : Int) + off = (a : Int)) (k : TR g R own cc nL ret kc ks Z a tl st M) : TR g R own cc nL ret kc ks Z pc tl st M := by
  intro p e s m args below meth c H locs ls C hP hS hl
  exact lv_goto C.1 C.2.1 hd ha (k p e s m args below meth c H locs ls C hP hS hl)
theorem q_lookup {dflt : Int} {ps : Array (Int × Int)} {ln : Nat} {x : Int32} {off : Int} (a : Nat) (hd : decode cc pc = .ok (.lookupswitch dflt ps, ln)) (hp : (ps.toList.zip (ps.toList.drop 1)).all (fun (a, next) => a.1 < next.1) = true) (ho : Op.lookupswitch.offset ps.toList dflt x.toInt = off) (ha : (pc : Int) + off = (a : Int)) (k : TR g R own cc nL ret kc ks Z a tl st M) : TR g R own cc nL ret kc ks Z pc tl (.int x :: st) M := by
  intro p e s m args below meth c H locs ls C hP hS hl
  exact lv_lookup C.1 C.2.1 hd hp ho ha (k p e s m args below meth c H locs ls C hP hS hl)
theorem q_tabOut {dflt lo hi : Int} {offs : Array Int} {ln : Nat} {x : Int32} (a : Nat) (hd : decode cc pc = .ok (.tableswitch dflt lo hi offs, ln)) (h : x.toInt < lo ∨ hi < x.toInt) (ha : (pc : Int) + dflt = (a : Int)) (k : TR g R own cc nL ret kc ks Z a tl st M) : TR g R own cc nL ret kc ks Z pc tl (.int x :: st) M := by
  intro p e s m args below meth c H locs ls C hP hS hl
  exact lv_tableOut C.1 C.2.1 hd h ha (k p e s m args below meth c H locs ls C hP hS hl)
theorem q_tabIn {dflt lo hi : Int} {offs : Array Int} {ln : Nat} {x : Int32} {off : Int} (a : Nat) (hd : decode cc pc = .ok (.tableswitch dflt lo hi offs, ln)) (z : Int) (hz : x.toInt = z) (h1 : ¬ z < lo) (h2 : ¬ hi < z) (ho : offs[(z - lo).toNat]? = some off) (ha : (pc : Int) + off = (a : Int)) (k : TR g R own cc nL ret kc ks Z a tl st M) : TR g R own cc nL ret kc ks Z pc tl (.int x :: st) M := by
  subst hz
  intro p e s m args below meth c H locs ls C hP hS hl
  exact lv_tableIn C.1 C.2.1 hd h1 h2 ho ha (k p e s m args below meth c H locs ls C hP hS hl)
theorem q_iret {P : Option Value → TM → Prop} {v : Int32} (hd : decode cc pc = .ok (.ireturn, 1)) (h : P (some (.int v)) M) : TR g R own cc nL (some .int) 0 0 (Zm g P) pc tl [.int v] M := by
  intro p e s m args below meth c H locs ls C hP hS hl
  exact W.iret C.1 C.2.1 C.2.2.2.1 (fun t ht _ => ⟨_, M, rfl, h, by rw [ht]; exact hP, hS.F ht⟩) hS.2.2 hd C.2.2.2.2.1
theorem q_lret {P : Option Value → TM → Prop} {v : Int64} (hd : decode cc pc = .ok (.lreturn, 1)) (h : P (some (.long v)) M) : TR g R own cc nL (some .long) 0 0 (Zm g P) pc tl [.long v] M := by
  intro p e s m args below meth c H locs ls C hP hS hl
  exact W.lret C.1 C.2.1 C.2.2.2.1 (fun t ht _ => ⟨_, M, rfl, h, by rw [ht]; exact hP, hS.F ht⟩) hS.2.2 hd C.2.2.2.2.1
theorem q_zret {P : Option Value → TM → Prop} {v : Int32} (hd : decode cc pc = .ok (.ireturn, 1)) (hv : narrow .boolean (.int v) = .int v) (h : P (some (.int v)) M) : TR g R own cc nL (some .boolean) 0 0 (Zm g P) pc tl [.int v] M := by
  intro p e s m args below meth c H locs ls C hP hS hl
  exact W.zret C.1 C.2.1 C.2.2.2.1 hv (fun t ht _ => ⟨_, M, rfl, h, by rw [ht]; exact hP, hS.F ht⟩) hS.2.2 hd C.2.2.2.2.1
theorem q_cret {P : Option Value → TM → Prop} {v : Int32} {ty : FieldType} (hd : decode cc pc = .ok (.ireturn, 1)) (hv : narrow ty (.int v) = .int v) (h : P (some (.int v)) M) : TR g R own cc nL (some ty) 0 0 (Zm g P) pc tl [.int v] M := by
  intro p e s m args below meth c H locs ls C hP hS hl
  exact W.zret C.1 C.2.1 C.2.2.2.1 hv (fun t ht _ => ⟨_, M, rfl, h, by rw [ht]; exact hP, hS.F ht⟩) hS.2.2 hd C.2.2.2.2.1
theorem q_vret {P : Option Value → TM → Prop} (hd : decode cc pc = .ok (.return_, 1)) (h : P none M) : TR g R own cc nL none 0 0 (Zm g P) pc tl [] M := by
  intro p e s m args below meth c H locs ls C hP hS hl
  exact W.vret C.1 C.2.1 C.2.2.2.1 (fun t ht _ => ⟨_, M, rfl, h, by rw [ht]; exact hP, hS.F ht⟩) hS.2.2 hd C.2.2.2.2.1
theorem q_aret {P : Option Value → TM → Prop} {a : Nat} {rt : FieldType} (hrt : (∃ n, rt = .object n) ∨ ∃ t, rt = .array t) (hd : decode cc pc = .ok (.areturn, 1)) (h : P (some (.ref a)) M) : TR g R own cc nL (some rt) 0 0 (Zm g P) pc tl [.ref a] M := by
  intro p e s m args below meth c H locs ls C hP hS hl
  exact W.aret C.1 C.2.1 C.2.2.2.1 hrt (Or.inr ⟨a, rfl⟩) (fun t ht _ => ⟨_, M, rfl, h, by rw [ht]; exact hP, hS.F ht⟩) hS.2.2 hd C.2.2.2.2.1
end TRR
end
section
/-! THE LOGIC, the heap and calls -/
theorem clsOK : ∀ (c : Nat) (C : String) (T : u_T) (N : Nat), vwCl[c]? = some (C, T, N) → (∀ w ∈ u_ws C T N, w ∈ TB) ∧ (∃ ty : Nat → FieldType, ∀ k, k < N → parseFieldDescriptor (T k).2.2.1 = some (ty k)) ∧ (∀ a, a < N → ∀ b, b < N → a ≠ b → (T a).2.1 ≠ (T b).2.1) ∧ nF c = N ∧ c < 7
  | 0, _, _, _, h => by cases h; exact ⟨by decide +kernel, ⟨_, tyX0_ok⟩, nmX0, rfl, by decide⟩
  | 1, _, _, _, h => by cases h; exact ⟨by decide +kernel, ⟨_, tyX1_ok⟩, nmX1, rfl, by decide⟩
  | 2, _, _, _, h => by cases h; exact ⟨by decide +kernel, ⟨_, tyX2_ok⟩, nmX2, rfl, by decide⟩
  | 3, _, _, _, h => by cases h; exact ⟨by decide +kernel, ⟨_, tyX3_ok⟩, nmX3, rfl, by decide⟩
  | 4, _, _, _, h => by cases h; exact ⟨by decide +kernel, ⟨_, tyX4_ok⟩, nmX4, rfl, by decide⟩
  | 5, _, _, _, h => by cases h; exact ⟨by decide +kernel, ⟨_, tyX5_ok⟩, nmX5, rfl, by decide⟩
  | 6, _, _, _, h => by cases h; exact ⟨by decide +kernel, ⟨_, tyX6_ok⟩, nmX6, rfl, by decide⟩
  | c + 7, _, _, _, h => by simp [vwCl] at h
/-- a field's link: own class, pool entry, class and place of the field -/
def FL (own : String) (idx c j : Nat) : Prop := ∃ (C : String) (T : u_T) (N : Nat), vwCl[c]? = some (C, T, N) ∧ j < N ∧ Cond.fieldLink own idx C (T j).2.1 (T j).2.2.1 ∈ TB ∧ (T j).1 = C
/-- a field that may be written, by its type -/
def FP (c j : Nat) (ty : FieldType) : Prop := ∃ (C : String) (T : u_T) (N : Nat), vwCl[c]? = some (C, T, N) ∧ (T j).2.2.2 = false ∧ parseFieldDescriptor (T j).2.2.1 = some ty
theorem fval_at (g : GT) (M : TM) {c k j : Nat} (h : j < nF c) : ((List.range (nF c)).map (fval g M c k))[j]? = some (fval g M c k j) := by
  rw [List.getElem?_map, List.getElem?_range h]; rfl
section TRH
variable {g : GT} {R : Room} {own : String} {cc : ByteArray} {nL : Nat} {ret : Option FieldType} {kc ks : Nat} {Z : List Frame → Array Value → State → State → Prop} {pc : Nat} {tl : List (Option Value)} {st : List Value} {M : TM}
theorem q_get {idx c j k : Nat} {v : Value} (n : Nat) (hd : decode cc pc = .ok (.getfield idx, 3)) (hn : pc + 3 = n) (fl : FL own idx c j) (hk : k < cnt c) (hv : fval g M c k j = v) (kk : TR g R own cc nL ret kc ks Z n tl (v :: st) M) : TR g R own cc nL ret kc ks Z pc tl (.ref (gad g c k) :: st) M := by
  subst hn
  intro p e s m args below meth c' H locs ls C hP hS hl
  obtain ⟨C0, T, N, h1, h2, h3, h4⟩ := fl
  obtain ⟨o1, o2, o3, o4, o5⟩ := clsOK c C0 T N h1
  obtain ⟨q, hq⟩ := wcells_at hk
  have he := WS_at g M hq
  rw [cellE_obj g M o5] at he
  refine va_get C.1 C.2.1 C.2.2.2.2.2.2.1 o1 C.2.2.2.2.2.1 C.2.2.2.2.2.2.2.1 hP q he h1 j h2 (C.2.2.2.2.2.2.1 _ h3) (fun x hx => by rw [h4] at hx; exact hx) (v := v) ?_ hd (kk p e s m args below meth c' H locs ls C hP hS hl)
  rw [fval_at g M (by rw [o4]; exact h2), hv]
theorem q_getI {idx c j k : Nat} (n : Nat) (hd : decode cc pc = .ok (.getfield idx, 3)) (hn : pc + 3 = n) (fl : FL own idx c j) (hk : k < cnt c) (hf : fldOf c j = none) (h0 : ¬ (c = 0 ∧ j = 4)) (kk : TR g R own cc nL ret kc ks Z n tl (.int (M c k j) :: st) M) : TR g R own cc nL ret kc ks Z pc tl (.ref (gad g c k) :: st) M :=
  q_get n hd hn fl hk (by unfold fval; rw [hf]; exact if_neg h0) kk
theorem q_getR {idx c j k t' k' : Nat} {f : Nat → Nat × Nat} (n : Nat) (hd : decode cc pc = .ok (.getfield idx, 3)) (hn : pc + 3 = n) (fl : FL own idx c j) (hk : k < cnt c) (hf : fldOf c j = some f) (he : f k = (t', k')) (kk : TR g R own cc nL ret kc ks Z n tl (.ref (gad g t' k') :: st) M) : TR g R own cc nL ret kc ks Z pc tl (.ref (gad g c k) :: st) M :=
  q_get n hd hn fl hk (by unfold fval; rw [hf]; show Value.ref (gad g (f k).1 (f k).2) = _; rw [he]) kk
/-- the reader's tape, once it is the object's -/
theorem q_getT {idx k : Nat} (n : Nat) (hd : decode cc pc = .ok (.getfield idx, 3)) (hn : pc + 3 = n) (fl : FL own idx 0 4) (hk : k < cnt 0) (h1 : M 0 k 4 = 1) (kk : TR g R own cc nL ret kc ks Z n tl (.ref (gad g 28 0) :: st) M) : TR g R own cc nL ret kc ks Z pc tl (.ref (gad g 0 k) :: st) M :=
  q_get n hd hn fl hk (by unfold fval; rw [show fldOf 0 4 = none from rfl]; simp [h1]) kk
theorem q_putG {idx c j k : Nat} {ty : FieldType} {v : Value} {f' : Nat → Int32} (n : Nat) (hd : decode cc pc = .ok (.putfield idx, 3)) (hn : pc + 3 = n) (fl : FL own idx c j) (fp : FP c j ty) (hk : k < cnt c) (hw : narrow ty v = v) (hfit : fits ty v = true) (hs : ∀ i, fval g (putA M c k f') c k i = if i = j then v else fval g M c k i) (kk : TR g R own cc nL ret kc ks Z n tl st (putA M c k f')) : TR g R own cc nL ret kc ks Z pc tl (v :: .ref (gad g c k) :: st) M := by
  subst hn
  intro p e s m args below meth c' H locs ls C hP hS hl
  obtain ⟨C0, T, N, h1, h2, h3, h4⟩ := fl
  obtain ⟨C1, T1, N1, g1, g2, g3⟩ := fp
  cases h1.symm.trans g1
  obtain ⟨o1, ⟨ty0, o2⟩, o3, o4, o5⟩ := clsOK c C0 T N h1
  obtain ⟨q, hq⟩ := wcells_at hk
  have he := WS_at g M hq
  rw [cellE_obj g M o5] at he
  refine va_put C.1 C.2.1 C.2.2.2.2.2.2.1 o1 ty0 o2 o3 C.2.2.2.2.2.1 C.2.2.2.2.2.2.2.1 hP (C.2.2.2.2.2.2.2.2.1 M) hS q he h1 j h2 (C.2.2.2.2.2.2.1 _ h3) (fun x hx => by rw [h4] at hx; exact hx) g2 g3 hw hfit ?_ hd (fun H1 locs1 hP1 hD1 hS1 => ?_)
  · rw [List.length_map, List.length_range, o4]; exact h2
  · have hE : ((List.range (nF c)).map (fval g M c k)).set j v = (List.range (nF c)).map (fval g (putA M c k f') c k) := by
      apply List.ext_getElem?
      intro i
      rw [List.getElem?_set, List.getElem?_map, List.getElem?_map, List.length_map, List.length_range]
      by_cases hi : j = i
      · subst hi
        rw [if_pos rfl, if_pos (by rw [o4]; exact h2), List.getElem?_range (by rw [o4]; exact h2)]
        show some v = some _
        rw [hs j, if_pos rfl]
      · rw [if_neg hi]
        by_cases hil : i < nF c
        · rw [List.getElem?_range hil]
          show some _ = some _
          rw [hs i, if_neg (fun q => hi q.symm)]
        · rw [List.getElem?_eq_none (by rw [List.length_range]; omega)]
          rfl
    have hset := WS_set g (M := M) (M' := putA M c k f') hq (fun a b hab => cellE_put g M f' hab)
    rw [cellE_obj g (putA M c k f') o5] at hset
    rw [hE, hset] at hP1
    exact kk p e s m args below meth c' H1 locs1 ls C hP1 hS1 hl
theorem fval_put (g : GT) (M : TM) {c j k : Nat} (x : Int32) (hf : fldOf c j = none) (h0 : ¬ (c = 0 ∧ j = 4)) (i : Nat) : fval g (putA M c k (upd (M c k) j x)) c k i = if i = j then .int x else fval g M c k i := by
  by_cases hi : i = j
  · subst hi
    rw [if_pos rfl]
    unfold fval
    rw [hf]
    simp only [if_neg h0, putA_s, upd, if_true]
  · rw [if_neg hi]
    unfold fval
    cases fldOf c i with
    | some f => rfl
    | none =>
      simp only
      by_cases h4 : c = 0 ∧ i = 4
      · obtain ⟨rfl, rfl⟩ := h4
        rw [putA_s]
        simp only [upd, if_neg hi]
      · rw [if_neg h4, if_neg h4, putA_s]
        simp only [upd, if_neg hi]
theorem q_putI {idx c j k : Nat} {ty : FieldType} {x : Int32} (n : Nat) (hd : decode cc pc = .ok (.putfield idx, 3)) (hn : pc + 3 = n) (fl : FL own idx c j) (fp : FP c j ty) (hk : k < cnt c) (hf : fldOf c j = none) (h0 : ¬ (c = 0 ∧ j = 4)) (hw : narrow ty (.int x) = .int x) (hfit : fits ty (.int x) = true) (kk : TR g R own cc nL ret kc ks Z n tl st (putA M c k (upd (M c k) j x))) : TR g R own cc nL ret kc ks Z pc tl (.int x :: .ref (gad g c k) :: st) M :=
  q_putG n hd hn fl fp hk hw hfit (fval_put g M x hf h0) kk
theorem q_putT {idx k : Nat} (n : Nat) (hd : decode cc pc = .ok (.putfield idx, 3)) (hn : pc + 3 = n) (fl : FL own idx 0 4) (fp : FP 0 4 (.array .int)) (hk : k < cnt 0) (kk : TR g R own cc nL ret kc ks Z n tl st (putA M 0 k (upd (M 0 k) 4 1))) : TR g R own cc nL ret kc ks Z pc tl (.ref (gad g 28 0) :: .ref (gad g 0 k) :: st) M := by
  refine q_putG n hd hn fl fp hk rfl rfl (fun i => ?_) kk
  by_cases hi : i = 4
  · subst hi
    rw [if_pos rfl]
    unfold fval
    rw [show fldOf 0 4 = none from rfl]
    simp [putA_s, upd]
  · rw [if_neg hi]
    unfold fval
    cases fldOf 0 i with
    | some f => rfl
    | none => simp only [putA_s, upd, hi, and_false, if_false]
theorem ix_in {x : Int32} {i n : Nat} (hx : x = nI i) (hi : i < n) (hn : n < 2 ^ 31) : vp_in x n := by subst hx; exact vp_in_nI hi hn
theorem len_lt (t : Nat) : len t < 2 ^ 31 := by
  have h : ∀ x ∈ lenL, x < 2 ^ 31 := by decide
  unfold len
  rw [List.getD_eq_getElem?_getD]
  cases hq : lenL[t]? with
  | none => decide
  | some y => exact h y (List.mem_of_getElem? hq)
theorem q_iald {t k i : Nat} {x : Int32} (n : Nat) (hd : decode cc pc = .ok (.iaload, 1)) (hn : pc + 1 = n) (ht : 9 < t) (hk : k < cnt t) (hx : x = nI i) (hi : i < len t) (kk : TR g R own cc nL ret kc ks Z n tl (.int (M t k i) :: st) M) : TR g R own cc nL ret kc ks Z pc tl (.int x :: .ref (gad g t k) :: st) M := by
  subst hn
  intro p e s m args below meth c' H locs ls C hP hS hl
  obtain ⟨q, hq⟩ := wcells_at hk
  have he := WS_at g M hq
  rw [cellE_arr g M ht] at he
  refine va_iald C.1 C.2.1 C.2.2.2.2.2.2.2.1 hP q 0 he rfl (ix_in hx hi (len_lt t)) hd ?_
  rw [hx, nI_clamp (Nat.lt_trans hi (len_lt t))]
  exact kk p e s m args below meth c' H locs ls C hP hS hl
theorem q_iast {t k i : Nat} {x v : Int32} (n : Nat) (hd : decode cc pc = .ok (.iastore, 1)) (hn : pc + 1 = n) (ht : 9 < t) (hk : k < cnt t) (hx : x = nI i) (hi : i < len t) (kk : TR g R own cc nL ret kc ks Z n tl st (putA M t k (upd (M t k) i v))) : TR g R own cc nL ret kc ks Z pc tl (.int v :: .int x :: .ref (gad g t k) :: st) M := by
  subst hn
  intro p e s m args below meth c' H locs ls C hP hS hl
  obtain ⟨q, hq⟩ := wcells_at hk
  have he := WS_at g M hq
  rw [cellE_arr g M ht] at he
  refine va_iast C.1 C.2.1 C.2.2.2.2.2.2.2.1 hP (C.2.2.2.2.2.2.2.2.1 M) hS q 0 he rfl (ix_in hx hi (len_lt t)) hd (fun H1 locs1 hP1 hD1 hS1 => ?_)
  rw [hx, nI_clamp (Nat.lt_trans hi (len_lt t))] at hP1
  have hset := WS_set g (M := M) (M' := putA M t k (upd (M t k) i v)) hq (fun a b hab => cellE_put g M _ hab)
  rw [cellE_arr g _ ht, putA_s] at hset
  rw [hset] at hP1
  exact kk p e s m args below meth c' H1 locs1 ls C hP1 hS1 hl
theorem q_alen {t k : Nat} {v : Int32} (n : Nat) (hd : decode cc pc = .ok (.arraylength, 1)) (hn : pc + 1 = n) (ht : 9 < t) (hk : k < cnt t) (hv : nI (len t) = v) (kk : TR g R own cc nL ret kc ks Z n tl (.int v :: st) M) : TR g R own cc nL ret kc ks Z pc tl (.ref (gad g t k) :: st) M := by
  subst hn
  intro p e s m args below meth c' H locs ls C hP hS hl
  obtain ⟨q, hq⟩ := wcells_at hk
  have he := WS_at g M hq
  rw [cellE_arr g M ht] at he
  exact va_alen C.1 C.2.1 C.2.2.2.2.2.2.2.1 hP q 0 he rfl hv hd (kk p e s m args below meth c' H locs ls C hP hS hl)
theorem q_aald7 {i : Nat} {x : Int32} (n : Nat) (hd : decode cc pc = .ok (.aaload, 1)) (hn : pc + 1 = n) (hx : x = nI i) (hi : i < 4) (kk : TR g R own cc nL ret kc ks Z n tl (.ref (gad g 1 i) :: st) M) : TR g R own cc nL ret kc ks Z pc tl (.int x :: .ref (gad g 7 0) :: st) M := by
  subst hn
  intro p e s m args below meth c' H locs ls C hP hS hl
  obtain ⟨q, hq⟩ := wcells_at (t := 7) (k := 0) (by decide)
  have he : (WS g M)[q]? = some (gad g 7 0, .inl (gc g 1, 4, .inr (.inr (.inr (.inr (fun i => some (gad g 1 i))))))) := WS_at g M hq
  refine va_aldq C.1 C.2.1 C.2.2.2.2.2.2.2.1 hP q 1 he rfl (ix_in hx hi (by decide)) hd ?_
  rw [hx, nI_clamp (by omega)]
  exact kk p e s m args below meth c' H locs ls C hP hS hl
theorem q_aald8 {i : Nat} {x : Int32} (n : Nat) (hd : decode cc pc = .ok (.aaload, 1)) (hn : pc + 1 = n) (hx : x = nI i) (hi : i < 5) (kk : TR g R own cc nL ret kc ks Z n tl (.ref (gad g 2 i) :: st) M) : TR g R own cc nL ret kc ks Z pc tl (.int x :: .ref (gad g 8 0) :: st) M := by
  subst hn
  intro p e s m args below meth c' H locs ls C hP hS hl
  obtain ⟨q, hq⟩ := wcells_at (t := 8) (k := 0) (by decide)
  have he : (WS g M)[q]? = some (gad g 8 0, .inl (gc g 2, 5, .inr (.inr (.inr (.inr (fun i => some (gad g 2 i))))))) := WS_at g M hq
  refine va_aldq C.1 C.2.1 C.2.2.2.2.2.2.2.1 hP q 2 he rfl (ix_in hx hi (by decide)) hd ?_
  rw [hx, nI_clamp (by omega)]
  exact kk p e s m args below meth c' H locs ls C hP hS hl
theorem q_aald9 {i : Nat} {x : Int32} (n : Nat) (hd : decode cc pc = .ok (.aaload, 1)) (hn : pc + 1 = n) (hx : x = nI i) (hi : i < 14) (kk : TR g R own cc nL ret kc ks Z n tl (.ref (gad g 13 i) :: st) M) : TR g R own cc nL ret kc ks Z pc tl (.int x :: .ref (gad g 9 0) :: st) M := by
  subst hn
  intro p e s m args below meth c' H locs ls C hP hS hl
  obtain ⟨q, hq⟩ := wcells_at (t := 9) (k := 0) (by decide)
  have he : (WS g M)[q]? = some (gad g 9 0, .inl (gc g 3, 14, .inr (.inr (.inr (.inr (fun i => some (gad g 13 i))))))) := WS_at g M hq
  have hin : vp_in x 14 := ix_in hx hi (by decide)
  have hlt : x.toNatClampNeg < 14 := Nat.not_le.mp fun q => hin (Or.inr q)
  refine W.aald (v := va_rf (some (gad g 13 x.toNatClampNeg))) (ty := .array .int) C.1 C.2.1 (hP q _ he) ((C.2.2.2.2.2.2.2.1.2 3 _ rfl).1 14 (fun j => va_rf (some (gad g 13 j)))) rfl (fun q => by cases q) (by show ¬ (x < 0 ∨ (arrV _ _ _).slots.size ≤ _); rw [arrV_size]; exact hin) (by show (arrV _ _ _).slots[_]? = _; rw [arrV_read _ _ hlt]) rfl rfl hd ?_
  rw [hx, nI_clamp (by omega)]
  exact kk p e s m args below meth c' H locs ls C hP hS hl
/-- a table: a static array that nobody writes -/
def tabN (t : Nat) : Nat := if t = 49 then 6 else 3
def tabF (t : Nat) : List Int32 := if t = 49 then raL else if t = 50 then lrL else mrL
theorem Ev.tab {g : GT} {s : State} (h : Ev g s) {t : Nat} (ht : t = 49 ∨ t = 50 ∨ t = 51) : va_T .int (gad g t 0) (tabN t) (fun j => .int ((tabF t).getD j 0)) (gA g) s s.heap := by
  rcases ht with rfl | rfl | rfl
  · exact h.2.2.1.2
  · exact h.2.2.2.1.2
  · exact h.2.2.2.2.1.2
theorem q_tald {t i : Nat} {x v : Int32} (n : Nat) (hd : decode cc pc = .ok (.iaload, 1)) (hn : pc + 1 = n) (ht : t = 49 ∨ t = 50 ∨ t = 51) (hx : x = nI i) (hi : i < tabN t) (hv : (tabF t).getD i 0 = v) (kk : TR g R own cc nL ret kc ks Z n tl (.int v :: st) M) : TR g R own cc nL ret kc ks Z pc tl (.int x :: .ref (gad g t 0) :: st) M := by
  subst hn
  have hT : tabN t < 2 ^ 31 := by unfold tabN; split <;> decide
  intro p e s m args below meth c' H locs ls C hP hS hl
  exact va_ti C.1 C.2.1 (C.2.2.2.2.2.2.2.tab ht) hS (ix_in hx hi hT) (v := .int v) (by show Value.int _ = _; rw [hx, nI_clamp (by omega), hv]) hd (kk p e s m args below meth c' H locs ls C hP hS hl)
theorem q_gets49 {idx : Nat} (n : Nat) (hd : decode cc pc = .ok (.getstatic idx, 3)) (hn : pc + 3 = n) (hw : Cond.fieldLink own idx RX5 "RIGHT_ABOVE" "[I" ∈ TB) (kk : TR g R own cc nL ret kc ks Z n tl (.ref (gad g 49 0) :: st) M) : TR g R own cc nL ret kc ks Z pc tl st M := by
  subst hn
  intro p e s m args below meth c' H locs ls C hP hS hl
  exact va_gets C.1 C.2.1 C.2.2.2.2.2.2.2.2.2.1.1 hS C.2.2.2.2.2.1 (C.2.2.2.2.2.2.1 _ hw) (fun _ h => h) hd (kk p e s m args below meth c' H locs ls C hP hS hl)
theorem q_gets50 {idx : Nat} (n : Nat) (hd : decode cc pc = .ok (.getstatic idx, 3)) (hn : pc + 3 = n) (hw : Cond.fieldLink own idx RX5 "LEAST_RULE" "[I" ∈ TB) (kk : TR g R own cc nL ret kc ks Z n tl (.ref (gad g 50 0) :: st) M) : TR g R own cc nL ret kc ks Z pc tl st M := by
  subst hn
  intro p e s m args below meth c' H locs ls C hP hS hl
  exact va_gets C.1 C.2.1 C.2.2.2.2.2.2.2.2.2.2.1.1 hS C.2.2.2.2.2.1 (C.2.2.2.2.2.2.1 _ hw) (fun _ h => h) hd (kk p e s m args below meth c' H locs ls C hP hS hl)
theorem q_gets51 {idx : Nat} (n : Nat) (hd : decode cc pc = .ok (.getstatic idx, 3)) (hn : pc + 3 = n) (hw : Cond.fieldLink own idx RX5 "MOST_RULE" "[I" ∈ TB) (kk : TR g R own cc nL ret kc ks Z n tl (.ref (gad g 51 0) :: st) M) : TR g R own cc nL ret kc ks Z pc tl st M := by
  subst hn
  intro p e s m args below meth c' H locs ls C hP hS hl
  exact va_gets C.1 C.2.1 C.2.2.2.2.2.2.2.2.2.2.2.1.1 hS C.2.2.2.2.2.1 (C.2.2.2.2.2.2.1 _ hw) (fun _ h => h) hd (kk p e s m args below meth c' H locs ls C hP hS hl)
theorem q_sald {i : Nat} {x : Int32} (n : Nat) (hd : decode cc pc = .ok (.iaload, 1)) (hn : pc + 1 = n) (hx : x = nI i) (hi : i < gN g) (hN : gN g < 2 ^ 31) (kk : TR g R own cc nL ret kc ks Z n tl (.int (gxs g i) :: st) M) : TR g R own cc nL ret kc ks Z pc tl (.int x :: .ref (gad g 52 0) :: st) M := by
  subst hn
  intro p e s m args below meth c' H locs ls C hP hS hl
  exact va_ti C.1 C.2.1 C.2.2.2.2.2.2.2.2.2.2.2.2.1 hS (ix_in hx hi hN) (v := .int (gxs g i)) (by show Value.int _ = _; rw [hx, nI_clamp (by omega)]) hd (kk p e s m args below meth c' H locs ls C hP hS hl)
theorem q_slen (n : Nat) (hd : decode cc pc = .ok (.arraylength, 1)) (hn : pc + 1 = n) (kk : TR g R own cc nL ret kc ks Z n tl (.int (nI (gN g)) :: st) M) : TR g R own cc nL ret kc ks Z pc tl (.ref (gad g 52 0) :: st) M := by
  subst hn
  intro p e s m args below meth c' H locs ls C hP hS hl
  exact va_tlen C.1 C.2.1 C.2.2.2.2.2.2.2.2.2.2.2.2.1 hS rfl hd (kk p e s m args below meth c' H locs ls C hP hS hl)
end TRH
end
section
/-! THE LOGIC, calls -/
theorem goodTB {y : MethodName} {cc : ByteArray} {nL : Nat} {ret : Option FieldType} (h : Cond.code y cc nL ret ∈ TB) : GoodIn TB (.code y cc nL ret :: TB) := fun w hw => by
  have hm : w ∈ TB := (List.mem_cons.mp hw).elim (fun e => e ▸ h) id
  exact ⟨hm, good_of_word (TB_good hm)⟩
/-- a call's words: the link, the method, its code; n parameters -/
def CW (own : String) (idx : Nat) (y : MethodName) (cc : ByteArray) (nL : Nat) (ret : Option FieldType) (n : Nat) : Prop :=
  Cond.methodLink own idx y ∈ TB ∧ Cond.initialized y.cls ∈ TB ∧ Cond.code y cc nL ret ∈ TB ∧ (y.cls ≠ "java/lang/invoke/MethodHandle" ∧ y.cls ≠ "java/lang/invoke/VarHandle" ∧ (parseMethodDescriptor y.desc).map (fun d => d.parameters.length) = some n)
def CNW (y : MethodName) (cc : ByteArray) (nL : Nat) (ret : Option FieldType) (n : Nat) : Prop :=
  Cond.initialized y.cls ∈ TB ∧ Cond.code y cc nL ret ∈ TB ∧ (y.cls ≠ "java/lang/invoke/MethodHandle" ∧ y.cls ≠ "java/lang/invoke/VarHandle" ∧ (parseMethodDescriptor y.desc).map (fun d => d.parameters.length) = some n)
def CWV (own : String) (idx c : Nat) (y : MethodName) (cc : ByteArray) (nL : Nat) (ret : Option FieldType) (n : Nat) : Prop :=
  CW own idx y cc nL ret n ∧ Cond.instanceMethod y ∈ TB ∧ Cond.selects y.cls y y ∈ TB ∧ ∃ (T : u_T) (N : Nat), vwCl[c]? = some (y.cls, T, N)
def CWS (own : String) (idx : Nat) (y : MethodName) (cc : ByteArray) (nL : Nat) (ret : Option FieldType) (n : Nat) : Prop :=
  CW own idx y cc nL ret n ∧ Cond.static y ∈ TB
theorem Pcn_blind {g : GT} {M : TM} {av : List Value} : FrameBlind (Pcn g M av) := fun a U gf mk q => by
  obtain ⟨q0, q1, q2⟩ := q
  exact ⟨q0, q1, q2.moved (U := U.calling gf mk a) (State.WarmedH.refl U) (fun _ _ _ => rfl)⟩
theorem Pcn_at {g : GT} {M : TM} {av : List Value} {s U : State} {H : Heap} {locs : List Loc} (hE : Ev g s) (hP : va_P (gD g) vwCl (WS g M) H) (hS : va_S (gA g) s.heap H locs) (hU : U.heap = H) (hW : s.WarmedH U.vm) : Pcn g M av av.toArray U :=
  ⟨rfl, by rw [hU]; exact hP, hE.moved hW (fun a h1 h2 => by rw [hU]; exact hS.2.1 a h1 h2)⟩
section TRK
variable {g : GT} {R : Room} {own : String} {cc : ByteArray} {nL : Nat} {ret : Option FieldType} {kc ks : Nat} {Z : List Frame → Array Value → State → State → Prop} {pc : Nat} {tl : List (Option Value)} {st rest : List Value} {M : TM}
variable {y : MethodName} {cc' : ByteArray} {nL' : Nat} {ret' : Option FieldType} {d idx N : Nat} {P : Option Value → TM → Prop} {As : List Value}
/-- what goes on behind a call -/
theorem q_back {p : Program} {e : Env} {s : State} {m : MethodId} {args : Array Value} {below : List Frame} {meth : Method} {c : Code} {H : Heap} {locs : List Loc} {ls : Array Slot} {a : Array Value}
    (hr : va_Run p (gl g) e R s m args below meth c H locs kc ks 0 0 (F0 m pc ls st) rest (Qcn g P a) (gA g)) (C : TC g own cc nL ret p s m args meth c) (hS : va_S (gA g) s.heap H locs) (hl : LF ls nL tl)
    (kk : ∀ (r : Option Value) (M' : TM), P r M' → TR g R own cc nL ret kc ks Z (pc + 3) tl (r.toList ++ rest) M') : W p (gl g) e R s m args below meth c H locs kc ks (Z below args s) (F0 m pc ls st) := by
  intro T hT X
  obtain ⟨v, st₀, t, T', L, h0, X', hL, e1, e2, ⟨r, M', hv, hp, hb, hz, hk⟩, stp⟩ := hr T hT X
  cases hv
  rw [h0] at hz hk
  have hS1 : va_S (gA g) s.heap T'.heap (locs ++ L) := ⟨Nat.le_trans hS.1 (by rw [e1]; exact hz), fun q h1 h2 => by rw [e1, hk q (Nat.lt_of_lt_of_le h1 hS.1) h2]; exact hS.2.1 q h1 h2, fun q hq => by
      rcases List.mem_append.mp hq with h | h
      · exact hS.2.2 q h
      · exact hL q h⟩
  obtain ⟨t2, a1, b1⟩ := kk v M' hp p e s m args below meth c T'.heap (locs ++ L) ls C (by rw [e1]; exact hb) hS1 hl T' rfl X'
  exact ⟨t2, stp t2 a1, b1⟩
theorem q_callV {t k : Nat} (n : Nat) (hd : decode cc pc = .ok (.invokevirtual idx, 3)) (hn : pc + 3 = n) (hC : Cn g y cc' nL' ret' d (.ref (gad g t k) :: As) M P) (cw : CWV own idx t y cc' nL' ret' N) (hk : k < cnt t) (hN : As.length = N) (hst : st = As.reverse ++ .ref (gad g t k) :: rest) (hroom : d + 1 ≤ R.frames ∧ 8 + (nL' + 11) + 40 * d ≤ R.locals) (hcs : kc ≤ R.cells ∧ ks ≤ R.slots) (hr : (rest.map fun v => v.category).sum ≤ 8)
    (kk : ∀ (r : Option Value) (M' : TM), P r M' → TR g R own cc nL ret kc ks Z n tl (r.toList ++ rest) M') : TR g R own cc nL ret kc ks Z pc tl st M := by
  subst hn
  intro p e s m args below meth c H locs ls C hP hS hl
  obtain ⟨⟨w1, w2, w3, w4⟩, w5, w6, T, NN, w7⟩ := cw
  have ht : ∀ w ∈ TB, w.before args s = true := C.2.2.2.2.2.2.1
  obtain ⟨q, hq⟩ := wcells_at hk
  have he := WS_at g M hq
  obtain ⟨o1, o2, o3, o4, o5⟩ := clsOK t _ T NN w7
  rw [cellE_obj g M o5] at he
  refine q_back (va_runV (As := As) (rest := rest) ⟨C.1, C.2.1, C.2.2.1, C.2.2.2.2.2.1, ht⟩ hC ⟨callB_of N ht (goodTB w3) rfl rfl rfl (ht _ w2) (ht _ w1) w4 ⟨hroom.1, hroom.2⟩, ht _ w5, ht _ w6⟩ ⟨Pcn_blind, va_recv C.2.2.2.2.2.2.2.1 hP w7 he, fun U hU hW => Pcn_at C.2.2.2.2.2.2.2 hP hS hU hW⟩ rfl hN hl.1 hst (lv_room hr) hd ⟨by simpa using hcs.1, by simpa using hcs.2⟩) C hS hl kk
theorem q_callS (n : Nat) (hd : decode cc pc = .ok (.invokestatic idx, 3)) (hn : pc + 3 = n) (hC : Cn g y cc' nL' ret' d As M P) (cw : CWS own idx y cc' nL' ret' N) (hN : As.length = N) (hst : st = As.reverse ++ rest) (hroom : d + 1 ≤ R.frames ∧ 8 + (nL' + 11) + 40 * d ≤ R.locals) (hcs : kc ≤ R.cells ∧ ks ≤ R.slots) (hr : (rest.map fun v => v.category).sum ≤ 8)
    (kk : ∀ (r : Option Value) (M' : TM), P r M' → TR g R own cc nL ret kc ks Z n tl (r.toList ++ rest) M') : TR g R own cc nL ret kc ks Z pc tl st M := by
  subst hn
  intro p e s m args below meth c H locs ls C hP hS hl
  obtain ⟨⟨w1, w2, w3, w4⟩, w5⟩ := cw
  have ht : ∀ w ∈ TB, w.before args s = true := C.2.2.2.2.2.2.1
  refine q_back (va_runS (As := As) (rest := rest) ⟨C.1, C.2.1, C.2.2.1, C.2.2.2.2.2.1, ht⟩ hC ⟨callB_of N ht (goodTB w3) rfl rfl rfl (ht _ w2) (ht _ w1) w4 ⟨hroom.1, hroom.2⟩, ht _ w5⟩ ⟨Pcn_blind, fun U hU hW => Pcn_at C.2.2.2.2.2.2.2 hP hS hU hW⟩ rfl hN hl.1 hst (lv_room hr) hd ⟨by simpa using hcs.1, by simpa using hcs.2⟩) C hS hl kk
/-- a nest mate's static method -/
theorem q_callN (n : Nat) (hd : decode cc pc = .ok (.invokestatic idx, 3)) (hn : pc + 3 = n) (hC : Cn g y cc' nL' ret' d As M P) (cw : CNW y cc' nL' ret' N) (cs : Cond.static y ∈ TB) (hm : (own, idx, y) ∈ nestM) (hN : As.length = N) (hst : st = As.reverse ++ rest) (hroom : d + 1 ≤ R.frames ∧ 8 + (nL' + 11) + 40 * d ≤ R.locals) (hcs : kc ≤ R.cells ∧ ks ≤ R.slots) (hr : (rest.map fun v => v.category).sum ≤ 8)
    (kk : ∀ (r : Option Value) (M' : TM), P r M' → TR g R own cc nL ret kc ks Z n tl (r.toList ++ rest) M') : TR g R own cc nL ret kc ks Z pc tl st M := by
  subst hn
  intro p e s m args below meth c H locs ls C hP hS hl
  obtain ⟨w2, w3, w4⟩ := cw
  have ht : ∀ w ∈ TB, w.before args s = true := C.2.2.2.2.2.2.1
  have hnest := C.2.2.2.2.2.2.2.2.2.2.2.2.2.2.2.2 _ hm
  refine q_back (va_runSN (As := As) (rest := rest) ⟨C.1, C.2.1, C.2.2.1, C.2.2.2.2.2.1, ht⟩ hC ⟨va_cnB N ht (goodTB w3) rfl rfl rfl hnest (ht _ w2) w4 ⟨hroom.1, hroom.2⟩, ht _ cs, trivial⟩ ⟨Pcn_blind, fun U hU hW => Pcn_at C.2.2.2.2.2.2.2 hP hS hU hW⟩ rfl hN hl.1 hst (lv_room hr) hd ⟨by simpa using hcs.1, by simpa using hcs.2⟩) C hS hl kk
/-- System.arraycopy of rows of ints -/
theorem q_acopy {t k t2 k2 i j c : Nat} {x z w : Int32} (n : Nat) (hd : decode cc pc = .ok (.invokestatic idx, 3)) (hn : pc + 3 = n) (w1 : Cond.methodLink own idx arraycopyName ∈ TB) (w2 : Cond.native arraycopyName ∈ TB ∧ Cond.static arraycopyName ∈ TB ∧ Cond.initialized "java/lang/System" ∈ TB) (ht : 9 < t) (ht2 : 9 < t2) (hk : k < cnt t) (hk2 : k2 < cnt t2) (hx : x = nI i) (hz : z = nI j) (hw : w = nI c) (h1 : i + c ≤ len t) (h2 : j + c ≤ len t2) (hR : 1 ≤ R.frames ∧ (st.map fun v => v.category).sum + (nativeFrameWords "java/lang/System" "arraycopy" 5 + 11) ≤ R.locals)
    (kk : TR g R own cc nL ret kc ks Z n tl st (putA M t2 k2 (va_cpy (M t k) (M t2 k2) i j c))) : TR g R own cc nL ret kc ks Z pc tl (.int w :: .int z :: .ref (gad g t2 k2) :: .int x :: .ref (gad g t k) :: st) M := by
  subst hn
  intro p e s m args below meth c' H locs ls C hP hS hl
  have hts : ∀ w ∈ TB, w.before args s = true := C.2.2.2.2.2.2.1
  obtain ⟨q, hq⟩ := wcells_at hk
  have he := WS_at g M hq
  rw [cellE_arr g M ht] at he
  obtain ⟨q2, hq2⟩ := wcells_at hk2
  have he2 := WS_at g M hq2
  rw [cellE_arr g M ht2] at he2
  have l1 := len_lt t
  have l2 := len_lt t2
  have ei : x.toNatClampNeg = i := by rw [hx, nI_clamp (by omega)]
  have ej : z.toNatClampNeg = j := by rw [hz, nI_clamp (by omega)]
  have ec : w.toNatClampNeg = c := by rw [hw, nI_clamp (by omega)]
  refine va_copyi C.1 C.2.1 (C.2.2.1.trans hl.1.symm) C.2.2.2.2.2.1 (hts _ w1) (hts _ w2.1) (hts _ w2.2.1) (hts _ w2.2.2) C.2.2.2.2.2.2.2.1 hP (C.2.2.2.2.2.2.2.2.1 M) hS q q2 0 0 he he2 rfl rfl rfl (by rw [hx]; exact nI_pos (by omega)) (by rw [hz]; exact nI_pos (by omega)) (by rw [hw]; exact nI_pos (by omega)) (by rw [ei, ec]; exact h1) (by rw [ej, ec]; exact h2) (fun _ _ => rfl) hR.1 hR.2 hd (fun H1 locs1 hP1 hD1 hS1 => ?_)
  rw [ei, ej, ec] at hP1
  have hset := WS_set g (M := M) (M' := putA M t2 k2 (va_cpy (M t k) (M t2 k2) i j c)) hq2 (fun a b hab => cellE_put g M _ hab)
  rw [cellE_arr g _ ht2, putA_s] at hset
  rw [hset] at hP1
  exact kk p e s m args below meth c' H1 locs1 ls C hP1 hS1 hl
end TRK
/-- an answer and what is behind it, both told -/
def Rt (v : Value) (M1 : TM) : Option Value → TM → Prop := fun r M' => r = some v ∧ M' = M1
def Rv (M1 : TM) : Option Value → TM → Prop := fun r M' => r = none ∧ M' = M1
theorem Rt.k {v : Value} {M1 : TM} {rest : List Value} {K : List Value → TM → Prop} (h : K (v :: rest) M1) : ∀ (r : Option Value) (M' : TM), Rt v M1 r M' → K (r.toList ++ rest) M' := by
  rintro _ _ ⟨rfl, rfl⟩; exact h
theorem Rv.k {M1 : TM} {rest : List Value} {K : List Value → TM → Prop} (h : K rest M1) : ∀ (r : Option Value) (M' : TM), Rv M1 r M' → K (r.toList ++ rest) M' := by
  rintro _ _ ⟨rfl, rfl⟩; exact h
end
