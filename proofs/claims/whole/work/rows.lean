section
-- PART A of kit/laws/SKELETON (a starting text)
/-- a private method of a class that the tables say can be made, by its rows of tables_1 -/
def lw_okq (q : MethodName × Nat) : Prop := (q.1.cls ≠ "java/lang/invoke/MethodHandle" ∧ q.1.cls ≠ "java/lang/invoke/VarHandle") ∧ Cond.instantiable q.1.cls q.2 ∈ tables_1 ∧ Cond.privateMethod q.1 ∈ tables_1 ∧ Cond.instanceMethod q.1 ∈ tables_1
theorem lw_p0 : lw_okq (⟨"SevenEights$Text", "skipBlanks", "()V"⟩, 3) := ⟨⟨by decide +kernel, by decide +kernel⟩, List.mem_of_getElem? (i := 116) (by decide +kernel), List.mem_of_getElem? (i := 336) (by decide +kernel), List.mem_of_getElem? (i := 337) (by decide +kernel)⟩
theorem lw_p1 : lw_okq (⟨"SevenEights$Text", "readItem", "(LSevenEights$Lesson;)Z"⟩, 3) := ⟨⟨by decide +kernel, by decide +kernel⟩, List.mem_of_getElem? (i := 116) (by decide +kernel), List.mem_of_getElem? (i := 340) (by decide +kernel), List.mem_of_getElem? (i := 341) (by decide +kernel)⟩
theorem lw_p2 : lw_okq (⟨"SevenEights$Text", "isNextName", "(Ljava/lang/String;)Z"⟩, 3) := ⟨⟨by decide +kernel, by decide +kernel⟩, List.mem_of_getElem? (i := 116) (by decide +kernel), List.mem_of_getElem? (i := 345) (by decide +kernel), List.mem_of_getElem? (i := 346) (by decide +kernel)⟩
theorem lw_p3 : lw_okq (⟨"SevenEights$Text", "endOfRow", "(CC)I"⟩, 3) := ⟨⟨by decide +kernel, by decide +kernel⟩, List.mem_of_getElem? (i := 116) (by decide +kernel), List.mem_of_getElem? (i := 349) (by decide +kernel), List.mem_of_getElem? (i := 350) (by decide +kernel)⟩
theorem lw_p4 : lw_okq (⟨"SevenEights$Text", "readAsk", "(LSevenEights$Lesson;)Z"⟩, 3) := ⟨⟨by decide +kernel, by decide +kernel⟩, List.mem_of_getElem? (i := 116) (by decide +kernel), List.mem_of_getElem? (i := 401) (by decide +kernel), List.mem_of_getElem? (i := 402) (by decide +kernel)⟩
theorem lw_p5 : lw_okq (⟨"SevenEights$Text", "readPair", "()I"⟩, 3) := ⟨⟨by decide +kernel, by decide +kernel⟩, List.mem_of_getElem? (i := 116) (by decide +kernel), List.mem_of_getElem? (i := 405) (by decide +kernel), List.mem_of_getElem? (i := 406) (by decide +kernel)⟩
theorem lw_p6 : lw_okq (⟨"SevenEights$Text", "readNumber", "(II)I"⟩, 3) := ⟨⟨by decide +kernel, by decide +kernel⟩, List.mem_of_getElem? (i := 116) (by decide +kernel), List.mem_of_getElem? (i := 409) (by decide +kernel), List.mem_of_getElem? (i := 410) (by decide +kernel)⟩
theorem lw_p7 : lw_okq (⟨"SevenEights$Text", "isNextSemicolon", "()Z"⟩, 3) := ⟨⟨by decide +kernel, by decide +kernel⟩, List.mem_of_getElem? (i := 116) (by decide +kernel), List.mem_of_getElem? (i := 423) (by decide +kernel), List.mem_of_getElem? (i := 424) (by decide +kernel)⟩
theorem lw_p8 : lw_okq (⟨"SevenEights$Text", "readTell", "(LSevenEights$Lesson;)Z"⟩, 3) := ⟨⟨by decide +kernel, by decide +kernel⟩, List.mem_of_getElem? (i := 116) (by decide +kernel), List.mem_of_getElem? (i := 432) (by decide +kernel), List.mem_of_getElem? (i := 433) (by decide +kernel)⟩
theorem lw_p9 : lw_okq (⟨"SevenEights$Text", "readRest", "(LSevenEights$Lesson;)Z"⟩, 3) := ⟨⟨by decide +kernel, by decide +kernel⟩, List.mem_of_getElem? (i := 116) (by decide +kernel), List.mem_of_getElem? (i := 437) (by decide +kernel), List.mem_of_getElem? (i := 438) (by decide +kernel)⟩
theorem lw_p10 : lw_okq (⟨"SevenEights$Answer", "become", "(IIII)V"⟩, 4) := ⟨⟨by decide +kernel, by decide +kernel⟩, List.mem_of_getElem? (i := 139) (by decide +kernel), List.mem_of_getElem? (i := 571) (by decide +kernel), List.mem_of_getElem? (i := 572) (by decide +kernel)⟩
theorem lw_p11 : lw_okq (⟨"SevenEights", "knownSet", "(LSevenEights$Learner;I)J"⟩, 14) := ⟨⟨by decide +kernel, by decide +kernel⟩, List.mem_of_getElem? (i := 21) (by decide +kernel), List.mem_of_getElem? (i := 633) (by decide +kernel), List.mem_of_getElem? (i := 634) (by decide +kernel)⟩
theorem lw_p12 : lw_okq (⟨"SevenEights$Plan", "offer", "(II)V"⟩, 5) := ⟨⟨by decide +kernel, by decide +kernel⟩, List.mem_of_getElem? (i := 164) (by decide +kernel), List.mem_of_getElem? (i := 676) (by decide +kernel), List.mem_of_getElem? (i := 677) (by decide +kernel)⟩
theorem lw_p13 : lw_okq (⟨"SevenEights", "howManyKnow", "(II)I"⟩, 14) := ⟨⟨by decide +kernel, by decide +kernel⟩, List.mem_of_getElem? (i := 21) (by decide +kernel), List.mem_of_getElem? (i := 693) (by decide +kernel), List.mem_of_getElem? (i := 694) (by decide +kernel)⟩
theorem lw_p14 : lw_okq (⟨"SevenEights", "countSlips", "(LSevenEights$Learner;I)V"⟩, 14) := ⟨⟨by decide +kernel, by decide +kernel⟩, List.mem_of_getElem? (i := 21) (by decide +kernel), List.mem_of_getElem? (i := 701) (by decide +kernel), List.mem_of_getElem? (i := 702) (by decide +kernel)⟩
theorem lw_p15 : lw_okq (⟨"SevenEights", "fillRows", "(LSevenEights$Rows;LSevenEights$Learner;)V"⟩, 14) := ⟨⟨by decide +kernel, by decide +kernel⟩, List.mem_of_getElem? (i := 21) (by decide +kernel), List.mem_of_getElem? (i := 729) (by decide +kernel), List.mem_of_getElem? (i := 730) (by decide +kernel)⟩
def lw_privs_1 : List (MethodName × Nat) := [(⟨"SevenEights$Text", "skipBlanks", "()V"⟩, 3), (⟨"SevenEights$Text", "readItem", "(LSevenEights$Lesson;)Z"⟩, 3), (⟨"SevenEights$Text", "isNextName", "(Ljava/lang/String;)Z"⟩, 3), (⟨"SevenEights$Text", "endOfRow", "(CC)I"⟩, 3), (⟨"SevenEights$Text", "readAsk", "(LSevenEights$Lesson;)Z"⟩, 3), (⟨"SevenEights$Text", "readPair", "()I"⟩, 3), (⟨"SevenEights$Text", "readNumber", "(II)I"⟩, 3), (⟨"SevenEights$Text", "isNextSemicolon", "()Z"⟩, 3), (⟨"SevenEights$Text", "readTell", "(LSevenEights$Lesson;)Z"⟩, 3), (⟨"SevenEights$Text", "readRest", "(LSevenEights$Lesson;)Z"⟩, 3), (⟨"SevenEights$Answer", "become", "(IIII)V"⟩, 4), (⟨"SevenEights", "knownSet", "(LSevenEights$Learner;I)J"⟩, 14), (⟨"SevenEights$Plan", "offer", "(II)V"⟩, 5), (⟨"SevenEights", "howManyKnow", "(II)I"⟩, 14), (⟨"SevenEights", "countSlips", "(LSevenEights$Learner;I)V"⟩, 14), (⟨"SevenEights", "fillRows", "(LSevenEights$Rows;LSevenEights$Learner;)V"⟩, 14)]
theorem lw_r1 : ∀ q ∈ lw_privs_1, lw_okq q := List.forall_mem_cons.mpr ⟨lw_p0, List.forall_mem_cons.mpr ⟨lw_p1, List.forall_mem_cons.mpr ⟨lw_p2, List.forall_mem_cons.mpr ⟨lw_p3, List.forall_mem_cons.mpr ⟨lw_p4, List.forall_mem_cons.mpr ⟨lw_p5, List.forall_mem_cons.mpr ⟨lw_p6, List.forall_mem_cons.mpr ⟨lw_p7, List.forall_mem_cons.mpr ⟨lw_p8, List.forall_mem_cons.mpr ⟨lw_p9, List.forall_mem_cons.mpr ⟨lw_p10, List.forall_mem_cons.mpr ⟨lw_p11, List.forall_mem_cons.mpr ⟨lw_p12, List.forall_mem_cons.mpr ⟨lw_p13, List.forall_mem_cons.mpr ⟨lw_p14, List.forall_mem_cons.mpr ⟨lw_p15, fun _ h => absurd h List.not_mem_nil⟩⟩⟩⟩⟩⟩⟩⟩⟩⟩⟩⟩⟩⟩⟩⟩
theorem lw_p16 : lw_okq (⟨"SevenEightsModel", "place", "(II)I"⟩, 41) := ⟨⟨by decide +kernel, by decide +kernel⟩, List.mem_of_getElem? (i := 884) (by decide +kernel), List.mem_of_getElem? (i := 1058) (by decide +kernel), List.mem_of_getElem? (i := 1059) (by decide +kernel)⟩
theorem lw_p17 : lw_okq (⟨"SevenEightsModel", "isLearner", "(I)Z"⟩, 41) := ⟨⟨by decide +kernel, by decide +kernel⟩, List.mem_of_getElem? (i := 884) (by decide +kernel), List.mem_of_getElem? (i := 1066) (by decide +kernel), List.mem_of_getElem? (i := 1067) (by decide +kernel)⟩
theorem lw_p18 : lw_okq (⟨"SevenEightsModel", "kindOf", "(I)I"⟩, 41) := ⟨⟨by decide +kernel, by decide +kernel⟩, List.mem_of_getElem? (i := 884) (by decide +kernel), List.mem_of_getElem? (i := 1070) (by decide +kernel), List.mem_of_getElem? (i := 1071) (by decide +kernel)⟩
theorem lw_p19 : lw_okq (⟨"SevenEightsModel", "aOf", "(I)I"⟩, 41) := ⟨⟨by decide +kernel, by decide +kernel⟩, List.mem_of_getElem? (i := 884) (by decide +kernel), List.mem_of_getElem? (i := 1074) (by decide +kernel), List.mem_of_getElem? (i := 1075) (by decide +kernel)⟩
theorem lw_p20 : lw_okq (⟨"SevenEightsModel", "firmInAll", "(I)I"⟩, 41) := ⟨⟨by decide +kernel, by decide +kernel⟩, List.mem_of_getElem? (i := 884) (by decide +kernel), List.mem_of_getElem? (i := 1078) (by decide +kernel), List.mem_of_getElem? (i := 1079) (by decide +kernel)⟩
theorem lw_p21 : lw_okq (⟨"SevenEightsModel", "firmOf", "(II)I"⟩, 41) := ⟨⟨by decide +kernel, by decide +kernel⟩, List.mem_of_getElem? (i := 884) (by decide +kernel), List.mem_of_getElem? (i := 1082) (by decide +kernel), List.mem_of_getElem? (i := 1083) (by decide +kernel)⟩
theorem lw_p22 : lw_okq (⟨"SevenEightsModel", "boxOf", "(II)I"⟩, 41) := ⟨⟨by decide +kernel, by decide +kernel⟩, List.mem_of_getElem? (i := 884) (by decide +kernel), List.mem_of_getElem? (i := 1090) (by decide +kernel), List.mem_of_getElem? (i := 1091) (by decide +kernel)⟩
theorem lw_p23 : lw_okq (⟨"SevenEightsModel", "rightsOf", "(II)I"⟩, 41) := ⟨⟨by decide +kernel, by decide +kernel⟩, List.mem_of_getElem? (i := 884) (by decide +kernel), List.mem_of_getElem? (i := 1094) (by decide +kernel), List.mem_of_getElem? (i := 1095) (by decide +kernel)⟩
theorem lw_p24 : lw_okq (⟨"SevenEightsModel", "dueOf", "(II)I"⟩, 41) := ⟨⟨by decide +kernel, by decide +kernel⟩, List.mem_of_getElem? (i := 884) (by decide +kernel), List.mem_of_getElem? (i := 1098) (by decide +kernel), List.mem_of_getElem? (i := 1099) (by decide +kernel)⟩
theorem lw_p25 : lw_okq (⟨"SevenEightsModel", "latestOf", "(II)I"⟩, 41) := ⟨⟨by decide +kernel, by decide +kernel⟩, List.mem_of_getElem? (i := 884) (by decide +kernel), List.mem_of_getElem? (i := 1102) (by decide +kernel), List.mem_of_getElem? (i := 1103) (by decide +kernel)⟩
theorem lw_p26 : lw_okq (⟨"SevenEightsModel", "feelOf", "(III)I"⟩, 41) := ⟨⟨by decide +kernel, by decide +kernel⟩, List.mem_of_getElem? (i := 884) (by decide +kernel), List.mem_of_getElem? (i := 1129) (by decide +kernel), List.mem_of_getElem? (i := 1130) (by decide +kernel)⟩
theorem lw_p27 : lw_okq (⟨"SevenEightsModel", "says", "(III)V"⟩, 41) := ⟨⟨by decide +kernel, by decide +kernel⟩, List.mem_of_getElem? (i := 884) (by decide +kernel), List.mem_of_getElem? (i := 1140) (by decide +kernel), List.mem_of_getElem? (i := 1141) (by decide +kernel)⟩
theorem lw_p28 : lw_okq (⟨"SevenEightsModel", "isAtOnce", "(III)Z"⟩, 41) := ⟨⟨by decide +kernel, by decide +kernel⟩, List.mem_of_getElem? (i := 884) (by decide +kernel), List.mem_of_getElem? (i := 1144) (by decide +kernel), List.mem_of_getElem? (i := 1145) (by decide +kernel)⟩
theorem lw_p29 : lw_okq (⟨"SevenEightsModel", "wayFrom", "(III)I"⟩, 41) := ⟨⟨by decide +kernel, by decide +kernel⟩, List.mem_of_getElem? (i := 884) (by decide +kernel), List.mem_of_getElem? (i := 1151) (by decide +kernel), List.mem_of_getElem? (i := 1152) (by decide +kernel)⟩
theorem lw_p30 : lw_okq (⟨"SevenEightsModel", "stepOf", "(I)I"⟩, 41) := ⟨⟨by decide +kernel, by decide +kernel⟩, List.mem_of_getElem? (i := 884) (by decide +kernel), List.mem_of_getElem? (i := 1155) (by decide +kernel), List.mem_of_getElem? (i := 1156) (by decide +kernel)⟩
theorem lw_p31 : lw_okq (⟨"SevenEightsModel", "slipTo", "(III)I"⟩, 41) := ⟨⟨by decide +kernel, by decide +kernel⟩, List.mem_of_getElem? (i := 884) (by decide +kernel), List.mem_of_getElem? (i := 1159) (by decide +kernel), List.mem_of_getElem? (i := 1160) (by decide +kernel)⟩
def lw_privs_2 : List (MethodName × Nat) := [(⟨"SevenEightsModel", "place", "(II)I"⟩, 41), (⟨"SevenEightsModel", "isLearner", "(I)Z"⟩, 41), (⟨"SevenEightsModel", "kindOf", "(I)I"⟩, 41), (⟨"SevenEightsModel", "aOf", "(I)I"⟩, 41), (⟨"SevenEightsModel", "firmInAll", "(I)I"⟩, 41), (⟨"SevenEightsModel", "firmOf", "(II)I"⟩, 41), (⟨"SevenEightsModel", "boxOf", "(II)I"⟩, 41), (⟨"SevenEightsModel", "rightsOf", "(II)I"⟩, 41), (⟨"SevenEightsModel", "dueOf", "(II)I"⟩, 41), (⟨"SevenEightsModel", "latestOf", "(II)I"⟩, 41), (⟨"SevenEightsModel", "feelOf", "(III)I"⟩, 41), (⟨"SevenEightsModel", "says", "(III)V"⟩, 41), (⟨"SevenEightsModel", "isAtOnce", "(III)Z"⟩, 41), (⟨"SevenEightsModel", "wayFrom", "(III)I"⟩, 41), (⟨"SevenEightsModel", "stepOf", "(I)I"⟩, 41), (⟨"SevenEightsModel", "slipTo", "(III)I"⟩, 41)]
theorem lw_r2 : ∀ q ∈ lw_privs_2, lw_okq q := List.forall_mem_cons.mpr ⟨lw_p16, List.forall_mem_cons.mpr ⟨lw_p17, List.forall_mem_cons.mpr ⟨lw_p18, List.forall_mem_cons.mpr ⟨lw_p19, List.forall_mem_cons.mpr ⟨lw_p20, List.forall_mem_cons.mpr ⟨lw_p21, List.forall_mem_cons.mpr ⟨lw_p22, List.forall_mem_cons.mpr ⟨lw_p23, List.forall_mem_cons.mpr ⟨lw_p24, List.forall_mem_cons.mpr ⟨lw_p25, List.forall_mem_cons.mpr ⟨lw_p26, List.forall_mem_cons.mpr ⟨lw_p27, List.forall_mem_cons.mpr ⟨lw_p28, List.forall_mem_cons.mpr ⟨lw_p29, List.forall_mem_cons.mpr ⟨lw_p30, List.forall_mem_cons.mpr ⟨lw_p31, fun _ h => absurd h List.not_mem_nil⟩⟩⟩⟩⟩⟩⟩⟩⟩⟩⟩⟩⟩⟩⟩⟩
theorem lw_p32 : lw_okq (⟨"SevenEightsModel", "said", "(I)I"⟩, 41) := ⟨⟨by decide +kernel, by decide +kernel⟩, List.mem_of_getElem? (i := 884) (by decide +kernel), List.mem_of_getElem? (i := 1163) (by decide +kernel), List.mem_of_getElem? (i := 1164) (by decide +kernel)⟩
theorem lw_p33 : lw_okq (⟨"SevenEightsModel", "asked", "(III)I"⟩, 41) := ⟨⟨by decide +kernel, by decide +kernel⟩, List.mem_of_getElem? (i := 884) (by decide +kernel), List.mem_of_getElem? (i := 1171) (by decide +kernel), List.mem_of_getElem? (i := 1172) (by decide +kernel)⟩
theorem lw_p34 : lw_okq (⟨"SevenEightsModel", "firmBecomes", "(III)V"⟩, 41) := ⟨⟨by decide +kernel, by decide +kernel⟩, List.mem_of_getElem? (i := 884) (by decide +kernel), List.mem_of_getElem? (i := 1175) (by decide +kernel), List.mem_of_getElem? (i := 1176) (by decide +kernel)⟩
theorem lw_p35 : lw_okq (⟨"SevenEightsModel", "isTold", "(II)V"⟩, 41) := ⟨⟨by decide +kernel, by decide +kernel⟩, List.mem_of_getElem? (i := 884) (by decide +kernel), List.mem_of_getElem? (i := 1183) (by decide +kernel), List.mem_of_getElem? (i := 1184) (by decide +kernel)⟩
theorem lw_p36 : lw_okq (⟨"SevenEightsModel", "nightGoes", "()V"⟩, 41) := ⟨⟨by decide +kernel, by decide +kernel⟩, List.mem_of_getElem? (i := 884) (by decide +kernel), List.mem_of_getElem? (i := 1191) (by decide +kernel), List.mem_of_getElem? (i := 1192) (by decide +kernel)⟩
theorem lw_p37 : lw_okq (⟨"SevenEightsModel", "knownSet", "(II)J"⟩, 41) := ⟨⟨by decide +kernel, by decide +kernel⟩, List.mem_of_getElem? (i := 884) (by decide +kernel), List.mem_of_getElem? (i := 1203) (by decide +kernel), List.mem_of_getElem? (i := 1204) (by decide +kernel)⟩
theorem lw_p38 : lw_okq (⟨"SevenEightsModel", "isKnown", "(III)Z"⟩, 41) := ⟨⟨by decide +kernel, by decide +kernel⟩, List.mem_of_getElem? (i := 884) (by decide +kernel), List.mem_of_getElem? (i := 1207) (by decide +kernel), List.mem_of_getElem? (i := 1208) (by decide +kernel)⟩
theorem lw_p39 : lw_okq (⟨"SevenEightsModel", "lends", "()V"⟩, 41) := ⟨⟨by decide +kernel, by decide +kernel⟩, List.mem_of_getElem? (i := 884) (by decide +kernel), List.mem_of_getElem? (i := 1215) (by decide +kernel), List.mem_of_getElem? (i := 1216) (by decide +kernel)⟩
theorem lw_p40 : lw_okq (⟨"SevenEightsModel", "findBehind", "(II)V"⟩, 41) := ⟨⟨by decide +kernel, by decide +kernel⟩, List.mem_of_getElem? (i := 884) (by decide +kernel), List.mem_of_getElem? (i := 1240) (by decide +kernel), List.mem_of_getElem? (i := 1241) (by decide +kernel)⟩
theorem lw_p41 : lw_okq (⟨"SevenEightsModel", "firmBehind", "(III)I"⟩, 41) := ⟨⟨by decide +kernel, by decide +kernel⟩, List.mem_of_getElem? (i := 884) (by decide +kernel), List.mem_of_getElem? (i := 1244) (by decide +kernel), List.mem_of_getElem? (i := 1245) (by decide +kernel)⟩
theorem lw_p42 : lw_okq (⟨"SevenEightsModel", "advance", "()V"⟩, 41) := ⟨⟨by decide +kernel, by decide +kernel⟩, List.mem_of_getElem? (i := 884) (by decide +kernel), List.mem_of_getElem? (i := 1269) (by decide +kernel), List.mem_of_getElem? (i := 1270) (by decide +kernel)⟩
theorem lw_p43 : lw_okq (⟨"SevenEightsModel", "byteAt", "(I)I"⟩, 41) := ⟨⟨by decide +kernel, by decide +kernel⟩, List.mem_of_getElem? (i := 884) (by decide +kernel), List.mem_of_getElem? (i := 1273) (by decide +kernel), List.mem_of_getElem? (i := 1274) (by decide +kernel)⟩
theorem lw_p44 : lw_okq (⟨"SevenEightsModel", "wantItem", "(I)V"⟩, 41) := ⟨⟨by decide +kernel, by decide +kernel⟩, List.mem_of_getElem? (i := 884) (by decide +kernel), List.mem_of_getElem? (i := 1285) (by decide +kernel), List.mem_of_getElem? (i := 1286) (by decide +kernel)⟩
theorem lw_p45 : lw_okq (⟨"SevenEightsModel", "isWord", "(J)Z"⟩, 41) := ⟨⟨by decide +kernel, by decide +kernel⟩, List.mem_of_getElem? (i := 884) (by decide +kernel), List.mem_of_getElem? (i := 1290) (by decide +kernel), List.mem_of_getElem? (i := 1291) (by decide +kernel)⟩
theorem lw_p46 : lw_okq (⟨"SevenEightsModel", "wantNumber", "(II)I"⟩, 41) := ⟨⟨by decide +kernel, by decide +kernel⟩, List.mem_of_getElem? (i := 884) (by decide +kernel), List.mem_of_getElem? (i := 1296) (by decide +kernel), List.mem_of_getElem? (i := 1297) (by decide +kernel)⟩
theorem lw_p47 : lw_okq (⟨"SevenEightsModel", "isMark", "(I)Z"⟩, 41) := ⟨⟨by decide +kernel, by decide +kernel⟩, List.mem_of_getElem? (i := 884) (by decide +kernel), List.mem_of_getElem? (i := 1301) (by decide +kernel), List.mem_of_getElem? (i := 1302) (by decide +kernel)⟩
def lw_privs_3 : List (MethodName × Nat) := [(⟨"SevenEightsModel", "said", "(I)I"⟩, 41), (⟨"SevenEightsModel", "asked", "(III)I"⟩, 41), (⟨"SevenEightsModel", "firmBecomes", "(III)V"⟩, 41), (⟨"SevenEightsModel", "isTold", "(II)V"⟩, 41), (⟨"SevenEightsModel", "nightGoes", "()V"⟩, 41), (⟨"SevenEightsModel", "knownSet", "(II)J"⟩, 41), (⟨"SevenEightsModel", "isKnown", "(III)Z"⟩, 41), (⟨"SevenEightsModel", "lends", "()V"⟩, 41), (⟨"SevenEightsModel", "findBehind", "(II)V"⟩, 41), (⟨"SevenEightsModel", "firmBehind", "(III)I"⟩, 41), (⟨"SevenEightsModel", "advance", "()V"⟩, 41), (⟨"SevenEightsModel", "byteAt", "(I)I"⟩, 41), (⟨"SevenEightsModel", "wantItem", "(I)V"⟩, 41), (⟨"SevenEightsModel", "isWord", "(J)Z"⟩, 41), (⟨"SevenEightsModel", "wantNumber", "(II)I"⟩, 41), (⟨"SevenEightsModel", "isMark", "(I)Z"⟩, 41)]
theorem lw_r3 : ∀ q ∈ lw_privs_3, lw_okq q := List.forall_mem_cons.mpr ⟨lw_p32, List.forall_mem_cons.mpr ⟨lw_p33, List.forall_mem_cons.mpr ⟨lw_p34, List.forall_mem_cons.mpr ⟨lw_p35, List.forall_mem_cons.mpr ⟨lw_p36, List.forall_mem_cons.mpr ⟨lw_p37, List.forall_mem_cons.mpr ⟨lw_p38, List.forall_mem_cons.mpr ⟨lw_p39, List.forall_mem_cons.mpr ⟨lw_p40, List.forall_mem_cons.mpr ⟨lw_p41, List.forall_mem_cons.mpr ⟨lw_p42, List.forall_mem_cons.mpr ⟨lw_p43, List.forall_mem_cons.mpr ⟨lw_p44, List.forall_mem_cons.mpr ⟨lw_p45, List.forall_mem_cons.mpr ⟨lw_p46, List.forall_mem_cons.mpr ⟨lw_p47, fun _ h => absurd h List.not_mem_nil⟩⟩⟩⟩⟩⟩⟩⟩⟩⟩⟩⟩⟩⟩⟩⟩
theorem lw_p48 : lw_okq (⟨"SevenEightsModel", "does", "(II)I"⟩, 41) := ⟨⟨by decide +kernel, by decide +kernel⟩, List.mem_of_getElem? (i := 884) (by decide +kernel), List.mem_of_getElem? (i := 1309) (by decide +kernel), List.mem_of_getElem? (i := 1310) (by decide +kernel)⟩
theorem lw_p49 : lw_okq (⟨"SevenEightsModel", "findRows", "(I)V"⟩, 41) := ⟨⟨by decide +kernel, by decide +kernel⟩, List.mem_of_getElem? (i := 884) (by decide +kernel), List.mem_of_getElem? (i := 1330) (by decide +kernel), List.mem_of_getElem? (i := 1331) (by decide +kernel)⟩
theorem lw_p50 : lw_okq (⟨"SevenEightsModel", "isRow", "(II)Z"⟩, 41) := ⟨⟨by decide +kernel, by decide +kernel⟩, List.mem_of_getElem? (i := 884) (by decide +kernel), List.mem_of_getElem? (i := 1338) (by decide +kernel), List.mem_of_getElem? (i := 1339) (by decide +kernel)⟩
theorem lw_p51 : lw_okq (⟨"SevenEightsModel", "lacksSort", "(II)I"⟩, 41) := ⟨⟨by decide +kernel, by decide +kernel⟩, List.mem_of_getElem? (i := 884) (by decide +kernel), List.mem_of_getElem? (i := 1357) (by decide +kernel), List.mem_of_getElem? (i := 1358) (by decide +kernel)⟩
theorem lw_p52 : lw_okq (⟨"SevenEightsModel", "isHeld", "(II)Z"⟩, 41) := ⟨⟨by decide +kernel, by decide +kernel⟩, List.mem_of_getElem? (i := 884) (by decide +kernel), List.mem_of_getElem? (i := 1377) (by decide +kernel), List.mem_of_getElem? (i := 1378) (by decide +kernel)⟩
theorem lw_p53 : lw_okq (⟨"SevenEightsModel", "kindOn", "(I)I"⟩, 41) := ⟨⟨by decide +kernel, by decide +kernel⟩, List.mem_of_getElem? (i := 884) (by decide +kernel), List.mem_of_getElem? (i := 1385) (by decide +kernel), List.mem_of_getElem? (i := 1386) (by decide +kernel)⟩
theorem lw_p54 : lw_okq (⟨"SevenEightsModel", "saysIt", "(I)I"⟩, 41) := ⟨⟨by decide +kernel, by decide +kernel⟩, List.mem_of_getElem? (i := 884) (by decide +kernel), List.mem_of_getElem? (i := 1396) (by decide +kernel), List.mem_of_getElem? (i := 1397) (by decide +kernel)⟩
theorem lw_p55 : lw_okq (⟨"SevenEightsModel", "parrotSays", "(I)I"⟩, 41) := ⟨⟨by decide +kernel, by decide +kernel⟩, List.mem_of_getElem? (i := 884) (by decide +kernel), List.mem_of_getElem? (i := 1400) (by decide +kernel), List.mem_of_getElem? (i := 1401) (by decide +kernel)⟩
theorem lw_p56 : lw_okq (⟨"SevenEightsModel", "ran", "(I)V"⟩, 41) := ⟨⟨by decide +kernel, by decide +kernel⟩, List.mem_of_getElem? (i := 884) (by decide +kernel), List.mem_of_getElem? (i := 1404) (by decide +kernel), List.mem_of_getElem? (i := 1405) (by decide +kernel)⟩
theorem lw_p57 : lw_okq (⟨"SevenEightsModel", "plainSays", "(I)I"⟩, 41) := ⟨⟨by decide +kernel, by decide +kernel⟩, List.mem_of_getElem? (i := 884) (by decide +kernel), List.mem_of_getElem? (i := 1408) (by decide +kernel), List.mem_of_getElem? (i := 1409) (by decide +kernel)⟩
theorem lw_p58 : lw_okq (⟨"SevenEightsModel", "learnsIt", "(I)I"⟩, 41) := ⟨⟨by decide +kernel, by decide +kernel⟩, List.mem_of_getElem? (i := 884) (by decide +kernel), List.mem_of_getElem? (i := 1412) (by decide +kernel), List.mem_of_getElem? (i := 1413) (by decide +kernel)⟩
theorem lw_p59 : lw_okq (⟨"SevenEightsModel", "plainLearns", "(I)I"⟩, 41) := ⟨⟨by decide +kernel, by decide +kernel⟩, List.mem_of_getElem? (i := 884) (by decide +kernel), List.mem_of_getElem? (i := 1416) (by decide +kernel), List.mem_of_getElem? (i := 1417) (by decide +kernel)⟩
theorem lw_p60 : lw_okq (⟨"SevenEightsModel", "sharesIt", "(I)I"⟩, 41) := ⟨⟨by decide +kernel, by decide +kernel⟩, List.mem_of_getElem? (i := 884) (by decide +kernel), List.mem_of_getElem? (i := 1420) (by decide +kernel), List.mem_of_getElem? (i := 1421) (by decide +kernel)⟩
theorem lw_p61 : lw_okq (⟨"SevenEightsModel", "plainShares", "(I)I"⟩, 41) := ⟨⟨by decide +kernel, by decide +kernel⟩, List.mem_of_getElem? (i := 884) (by decide +kernel), List.mem_of_getElem? (i := 1424) (by decide +kernel), List.mem_of_getElem? (i := 1425) (by decide +kernel)⟩
theorem lw_p62 : lw_okq (⟨"SevenEightsModel", "tellsIt", "(I)I"⟩, 41) := ⟨⟨by decide +kernel, by decide +kernel⟩, List.mem_of_getElem? (i := 884) (by decide +kernel), List.mem_of_getElem? (i := 1428) (by decide +kernel), List.mem_of_getElem? (i := 1429) (by decide +kernel)⟩
theorem lw_p63 : lw_okq (⟨"SevenEightsModel", "plainTells", "(I)I"⟩, 41) := ⟨⟨by decide +kernel, by decide +kernel⟩, List.mem_of_getElem? (i := 884) (by decide +kernel), List.mem_of_getElem? (i := 1432) (by decide +kernel), List.mem_of_getElem? (i := 1433) (by decide +kernel)⟩
def lw_privs_4 : List (MethodName × Nat) := [(⟨"SevenEightsModel", "does", "(II)I"⟩, 41), (⟨"SevenEightsModel", "findRows", "(I)V"⟩, 41), (⟨"SevenEightsModel", "isRow", "(II)Z"⟩, 41), (⟨"SevenEightsModel", "lacksSort", "(II)I"⟩, 41), (⟨"SevenEightsModel", "isHeld", "(II)Z"⟩, 41), (⟨"SevenEightsModel", "kindOn", "(I)I"⟩, 41), (⟨"SevenEightsModel", "saysIt", "(I)I"⟩, 41), (⟨"SevenEightsModel", "parrotSays", "(I)I"⟩, 41), (⟨"SevenEightsModel", "ran", "(I)V"⟩, 41), (⟨"SevenEightsModel", "plainSays", "(I)I"⟩, 41), (⟨"SevenEightsModel", "learnsIt", "(I)I"⟩, 41), (⟨"SevenEightsModel", "plainLearns", "(I)I"⟩, 41), (⟨"SevenEightsModel", "sharesIt", "(I)I"⟩, 41), (⟨"SevenEightsModel", "plainShares", "(I)I"⟩, 41), (⟨"SevenEightsModel", "tellsIt", "(I)I"⟩, 41), (⟨"SevenEightsModel", "plainTells", "(I)I"⟩, 41)]
theorem lw_r4 : ∀ q ∈ lw_privs_4, lw_okq q := List.forall_mem_cons.mpr ⟨lw_p48, List.forall_mem_cons.mpr ⟨lw_p49, List.forall_mem_cons.mpr ⟨lw_p50, List.forall_mem_cons.mpr ⟨lw_p51, List.forall_mem_cons.mpr ⟨lw_p52, List.forall_mem_cons.mpr ⟨lw_p53, List.forall_mem_cons.mpr ⟨lw_p54, List.forall_mem_cons.mpr ⟨lw_p55, List.forall_mem_cons.mpr ⟨lw_p56, List.forall_mem_cons.mpr ⟨lw_p57, List.forall_mem_cons.mpr ⟨lw_p58, List.forall_mem_cons.mpr ⟨lw_p59, List.forall_mem_cons.mpr ⟨lw_p60, List.forall_mem_cons.mpr ⟨lw_p61, List.forall_mem_cons.mpr ⟨lw_p62, List.forall_mem_cons.mpr ⟨lw_p63, fun _ h => absurd h List.not_mem_nil⟩⟩⟩⟩⟩⟩⟩⟩⟩⟩⟩⟩⟩⟩⟩⟩
theorem lw_p64 : lw_okq (⟨"SevenEightsModel", "moveAll", "(Z)V"⟩, 41) := ⟨⟨by decide +kernel, by decide +kernel⟩, List.mem_of_getElem? (i := 884) (by decide +kernel), List.mem_of_getElem? (i := 1448) (by decide +kernel), List.mem_of_getElem? (i := 1449) (by decide +kernel)⟩
theorem lw_p65 : lw_okq (⟨"SevenEightsModel", "moveRow", "([IIZ)V"⟩, 41) := ⟨⟨by decide +kernel, by decide +kernel⟩, List.mem_of_getElem? (i := 884) (by decide +kernel), List.mem_of_getElem? (i := 1452) (by decide +kernel), List.mem_of_getElem? (i := 1453) (by decide +kernel)⟩
def lw_privs_5 : List (MethodName × Nat) := [(⟨"SevenEightsModel", "moveAll", "(Z)V"⟩, 41), (⟨"SevenEightsModel", "moveRow", "([IIZ)V"⟩, 41)]
theorem lw_r5 : ∀ q ∈ lw_privs_5, lw_okq q := List.forall_mem_cons.mpr ⟨lw_p64, List.forall_mem_cons.mpr ⟨lw_p65, fun _ h => absurd h List.not_mem_nil⟩⟩
def lw_privs : List (MethodName × Nat) := lw_privs_1 ++ (lw_privs_2 ++ (lw_privs_3 ++ (lw_privs_4 ++ (lw_privs_5))))
def lw_tbl : List Cond := k2_sels lw_privs ++ tables_1
theorem lw_privs_ok : ∀ q ∈ lw_privs, lw_okq q := by
  show ∀ q ∈ lw_privs_1 ++ (lw_privs_2 ++ (lw_privs_3 ++ (lw_privs_4 ++ (lw_privs_5)))), lw_okq q
  exact List.forall_mem_append.mpr ⟨lw_r1, List.forall_mem_append.mpr ⟨lw_r2, List.forall_mem_append.mpr ⟨lw_r3, List.forall_mem_append.mpr ⟨lw_r4, lw_r5⟩⟩⟩⟩
end
section
def R_Answer : String := "SevenEights$Answer"
def F_Answer : u_T := fun k => match k with
  | 0 => ("SevenEights$Answer", "said", "I", false)
  | 1 => ("SevenEights$Answer", "how", "I", false)
  | 2 => ("SevenEights$Answer", "seconds", "I", false)
  | _ => ("SevenEights$Answer", "by", "I", false)
def t_Answer : Nat → FieldType := fun k => match k with
  | 0 => .int
  | 1 => .int
  | 2 => .int
  | _ => .int
theorem n_Answer : ∀ a, a < 4 → ∀ b, b < 4 → a ≠ b → (F_Answer a).2.1 ≠ (F_Answer b).2.1 := by decide +kernel
theorem t_Answer_ok : ∀ k, k < 4 → parseFieldDescriptor (F_Answer k).2.2.1 = some (t_Answer k) := by decide +kernel
def R_Doer : String := "SevenEights$Doer"
def F_Doer : u_T := fun k => match k with
  | 0 => ("SevenEights$Doer", "kind", "I", false)
  | 1 => ("SevenEights$Doer", "n", "I", false)
  | 2 => ("SevenEights$Doer", "a", "I", false)
  | 3 => ("SevenEights$Doer", "isParted", "Z", false)
  | 4 => ("SevenEights$Doer", "bodies", "[I", true)
  | _ => ("SevenEights$Doer", "count", "I", false)
def t_Doer : Nat → FieldType := fun k => match k with
  | 0 => .int
  | 1 => .int
  | 2 => .int
  | 3 => .boolean
  | 4 => .array .int
  | _ => .int
theorem n_Doer : ∀ a, a < 6 → ∀ b, b < 6 → a ≠ b → (F_Doer a).2.1 ≠ (F_Doer b).2.1 := by decide +kernel
theorem t_Doer_ok : ∀ k, k < 6 → parseFieldDescriptor (F_Doer k).2.2.1 = some (t_Doer k) := by decide +kernel
def R_Learner : String := "SevenEights$Learner"
def F_Learner : u_T := fun k => match k with
  | 0 => ("SevenEights$Learner", "kind", "I", false)
  | 1 => ("SevenEights$Learner", "a", "I", false)
  | 2 => ("SevenEights$Learner", "firm", "[I", true)
  | 3 => ("SevenEights$Learner", "rights", "[I", true)
  | _ => ("SevenEights$Learner", "latest", "[I", true)
def t_Learner : Nat → FieldType := fun k => match k with
  | 0 => .int
  | 1 => .int
  | 2 => .array .int
  | 3 => .array .int
  | _ => .array .int
theorem n_Learner : ∀ a, a < 5 → ∀ b, b < 5 → a ≠ b → (F_Learner a).2.1 ≠ (F_Learner b).2.1 := by decide +kernel
theorem t_Learner_ok : ∀ k, k < 5 → parseFieldDescriptor (F_Learner k).2.2.1 = some (t_Learner k) := by decide +kernel
def R_Lesson : String := "SevenEights$Lesson"
def F_Lesson : u_T := fun k => match k with
  | 0 => ("SevenEights$Lesson", "sorts", "[I", true)
  | 1 => ("SevenEights$Lesson", "about", "[I", true)
  | 2 => ("SevenEights$Lesson", "seconds", "[I", true)
  | _ => ("SevenEights$Lesson", "count", "I", false)
def t_Lesson : Nat → FieldType := fun k => match k with
  | 0 => .array .int
  | 1 => .array .int
  | 2 => .array .int
  | _ => .int
theorem n_Lesson : ∀ a, a < 4 → ∀ b, b < 4 → a ≠ b → (F_Lesson a).2.1 ≠ (F_Lesson b).2.1 := by decide +kernel
theorem t_Lesson_ok : ∀ k, k < 4 → parseFieldDescriptor (F_Lesson k).2.2.1 = some (t_Lesson k) := by decide +kernel
def R_Plan : String := "SevenEights$Plan"
def F_Plan : u_T := fun k => match k with
  | 0 => ("SevenEights$Plan", "once", "[I", true)
  | 1 => ("SevenEights$Plan", "twice", "[I", true)
  | 2 => ("SevenEights$Plan", "untold", "I", false)
  | 3 => ("SevenEights$Plan", "gain", "I", false)
  | _ => ("SevenEights$Plan", "first", "I", false)
def t_Plan : Nat → FieldType := fun k => match k with
  | 0 => .array .int
  | 1 => .array .int
  | 2 => .int
  | 3 => .int
  | _ => .int
theorem n_Plan : ∀ a, a < 5 → ∀ b, b < 5 → a ≠ b → (F_Plan a).2.1 ≠ (F_Plan b).2.1 := by decide +kernel
theorem t_Plan_ok : ∀ k, k < 5 → parseFieldDescriptor (F_Plan k).2.2.1 = some (t_Plan k) := by decide +kernel
def R_Rows : String := "SevenEights$Rows"
def F_Rows : u_T := fun k => match k with
  | 0 => ("SevenEights$Rows", "numbers", "[I", true)
  | _ => ("SevenEights$Rows", "count", "I", false)
def t_Rows : Nat → FieldType := fun k => match k with
  | 0 => .array .int
  | _ => .int
theorem n_Rows : ∀ a, a < 2 → ∀ b, b < 2 → a ≠ b → (F_Rows a).2.1 ≠ (F_Rows b).2.1 := by decide +kernel
theorem t_Rows_ok : ∀ k, k < 2 → parseFieldDescriptor (F_Rows k).2.2.1 = some (t_Rows k) := by decide +kernel
def R_School : String := "SevenEights$School"
def F_School : u_T := fun k => match k with
  | 0 => ("SevenEights$School", "learners", "[LSevenEights$Learner;", true)
  | 1 => ("SevenEights$School", "count", "I", false)
  | 2 => ("SevenEights$School", "laws", "[I", true)
  | 3 => ("SevenEights$School", "day", "I", false)
  | 4 => ("SevenEights$School", "z", "I", false)
  | _ => ("SevenEights$School", "lesson", "LSevenEights$Lesson;", true)
def t_School : Nat → FieldType := fun k => match k with
  | 0 => .array (.object "SevenEights$Learner")
  | 1 => .int
  | 2 => .array .int
  | 3 => .int
  | 4 => .int
  | _ => .object "SevenEights$Lesson"
theorem n_School : ∀ a, a < 6 → ∀ b, b < 6 → a ≠ b → (F_School a).2.1 ≠ (F_School b).2.1 := by decide +kernel
theorem t_School_ok : ∀ k, k < 6 → parseFieldDescriptor (F_School k).2.2.1 = some (t_School k) := by decide +kernel
def R_Sheet : String := "SevenEights$Sheet"
def F_Sheet : u_T := fun k => match k with
  | 0 => ("SevenEights$Sheet", "sort", "I", false)
  | 1 => ("SevenEights$Sheet", "length", "I", false)
  | _ => ("SevenEights$Sheet", "items", "[J", true)
def t_Sheet : Nat → FieldType := fun k => match k with
  | 0 => .int
  | 1 => .int
  | _ => .array .long
theorem n_Sheet : ∀ a, a < 3 → ∀ b, b < 3 → a ≠ b → (F_Sheet a).2.1 ≠ (F_Sheet b).2.1 := by decide +kernel
theorem t_Sheet_ok : ∀ k, k < 3 → parseFieldDescriptor (F_Sheet k).2.2.1 = some (t_Sheet k) := by decide +kernel
def R_Shelf : String := "SevenEights$Shelf"
def F_Shelf : u_T := fun k => match k with
  | 0 => ("SevenEights$Shelf", "learner", "I", false)
  | 1 => ("SevenEights$Shelf", "sort", "I", false)
  | _ => ("SevenEights$Shelf", "length", "I", false)
def t_Shelf : Nat → FieldType := fun k => match k with
  | 0 => .int
  | 1 => .int
  | _ => .int
theorem n_Shelf : ∀ a, a < 3 → ∀ b, b < 3 → a ≠ b → (F_Shelf a).2.1 ≠ (F_Shelf b).2.1 := by decide +kernel
theorem t_Shelf_ok : ∀ k, k < 3 → parseFieldDescriptor (F_Shelf k).2.2.1 = some (t_Shelf k) := by decide +kernel
def R_Text : String := "SevenEights$Text"
def F_Text : u_T := fun k => match k with
  | 0 => ("SevenEights$Text", "bytes", "[B", true)
  | 1 => ("SevenEights$Text", "length", "I", false)
  | _ => ("SevenEights$Text", "place", "I", false)
def t_Text : Nat → FieldType := fun k => match k with
  | 0 => .array .byte
  | 1 => .int
  | _ => .int
theorem n_Text : ∀ a, a < 3 → ∀ b, b < 3 → a ≠ b → (F_Text a).2.1 ≠ (F_Text b).2.1 := by decide +kernel
theorem t_Text_ok : ∀ k, k < 3 → parseFieldDescriptor (F_Text k).2.2.1 = some (t_Text k) := by decide +kernel
def R_S : String := "SevenEights"
def F_S : u_T := fun k => match k with
  | 0 => ("SevenEights", "school", "LSevenEights$School;", true)
  | 1 => ("SevenEights", "kept", "LSevenEights$School;", true)
  | 2 => ("SevenEights", "isKept", "Z", false)
  | 3 => ("SevenEights", "tape", "LSevenEights$Text;", true)
  | 4 => ("SevenEights", "spareLesson", "LSevenEights$Lesson;", true)
  | 5 => ("SevenEights", "spareLearner", "LSevenEights$Learner;", true)
  | 6 => ("SevenEights", "answer", "LSevenEights$Answer;", true)
  | 7 => ("SevenEights", "plan", "LSevenEights$Plan;", true)
  | 8 => ("SevenEights", "slips", "[I", true)
  | 9 => ("SevenEights", "rows", "LSevenEights$Rows;", true)
  | 10 => ("SevenEights", "dueRows", "LSevenEights$Rows;", true)
  | 11 => ("SevenEights", "sheets", "[LSevenEights$Sheet;", true)
  | 12 => ("SevenEights", "shelves", "[LSevenEights$Shelf;", true)
  | _ => ("SevenEights", "doer", "LSevenEights$Doer;", true)
def t_S : Nat → FieldType := fun k => match k with
  | 0 => .object "SevenEights$School"
  | 1 => .object "SevenEights$School"
  | 2 => .boolean
  | 3 => .object "SevenEights$Text"
  | 4 => .object "SevenEights$Lesson"
  | 5 => .object "SevenEights$Learner"
  | 6 => .object "SevenEights$Answer"
  | 7 => .object "SevenEights$Plan"
  | 8 => .array .int
  | 9 => .object "SevenEights$Rows"
  | 10 => .object "SevenEights$Rows"
  | 11 => .array (.object "SevenEights$Sheet")
  | 12 => .array (.object "SevenEights$Shelf")
  | _ => .object "SevenEights$Doer"
theorem n_S : ∀ a, a < 14 → ∀ b, b < 14 → a ≠ b → (F_S a).2.1 ≠ (F_S b).2.1 := by decide +kernel
theorem t_S_ok : ∀ k, k < 14 → parseFieldDescriptor (F_S k).2.2.1 = some (t_S k) := by decide +kernel
def R_M : String := "SevenEightsModel"
def F_M : u_T := fun k => match k with
  | 0 => ("SevenEightsModel", "row", "[I", true)
  | 1 => ("SevenEightsModel", "at", "I", false)
  | 2 => ("SevenEightsModel", "laws", "[I", true)
  | 3 => ("SevenEightsModel", "mostOf", "[I", true)
  | 4 => ("SevenEightsModel", "z", "I", false)
  | 5 => ("SevenEightsModel", "how", "I", false)
  | 6 => ("SevenEightsModel", "by", "I", false)
  | 7 => ("SevenEightsModel", "seconds", "I", false)
  | 8 => ("SevenEightsModel", "behind", "[I", true)
  | 9 => ("SevenEightsModel", "drawn", "[I", true)
  | 10 => ("SevenEightsModel", "tape", "[I", true)
  | 11 => ("SevenEightsModel", "tapeMany", "I", false)
  | 12 => ("SevenEightsModel", "sort", "I", false)
  | 13 => ("SevenEightsModel", "begins", "I", false)
  | 14 => ("SevenEightsModel", "tokenEnds", "I", false)
  | 15 => ("SevenEightsModel", "word", "J", false)
  | 16 => ("SevenEightsModel", "value", "I", false)
  | 17 => ("SevenEightsModel", "good", "Z", false)
  | 18 => ("SevenEightsModel", "items", "I", false)
  | 19 => ("SevenEightsModel", "lesson", "[I", true)
  | 20 => ("SevenEightsModel", "fresh", "[I", true)
  | 21 => ("SevenEightsModel", "rows", "[I", true)
  | 22 => ("SevenEightsModel", "must", "[I", true)
  | 23 => ("SevenEightsModel", "rowMany", "I", false)
  | 24 => ("SevenEightsModel", "mustMany", "I", false)
  | 25 => ("SevenEightsModel", "sorts", "[I", true)
  | 26 => ("SevenEightsModel", "sizes", "[I", true)
  | 27 => ("SevenEightsModel", "sheets", "[J", true)
  | 28 => ("SevenEightsModel", "held", "[I", true)
  | 29 => ("SevenEightsModel", "heldNumber", "[I", true)
  | 30 => ("SevenEightsModel", "heldSize", "[I", true)
  | 31 => ("SevenEightsModel", "kind", "I", false)
  | 32 => ("SevenEightsModel", "ownNumber", "I", false)
  | 33 => ("SevenEightsModel", "own", "I", false)
  | 34 => ("SevenEightsModel", "traced", "[I", true)
  | 35 => ("SevenEightsModel", "bodies", "I", false)
  | 36 => ("SevenEightsModel", "isParted", "Z", false)
  | 37 => ("SevenEightsModel", "isKept", "Z", false)
  | 38 => ("SevenEightsModel", "keptRow", "[I", true)
  | 39 => ("SevenEightsModel", "movedTo", "I", false)
  | _ => ("SevenEightsModel", "single", "[I", true)
def t_M : Nat → FieldType := fun k => match k with
  | 0 => .array .int
  | 1 => .int
  | 2 => .array .int
  | 3 => .array .int
  | 4 => .int
  | 5 => .int
  | 6 => .int
  | 7 => .int
  | 8 => .array .int
  | 9 => .array .int
  | 10 => .array .int
  | 11 => .int
  | 12 => .int
  | 13 => .int
  | 14 => .int
  | 15 => .long
  | 16 => .int
  | 17 => .boolean
  | 18 => .int
  | 19 => .array .int
  | 20 => .array .int
  | 21 => .array .int
  | 22 => .array .int
  | 23 => .int
  | 24 => .int
  | 25 => .array .int
  | 26 => .array .int
  | 27 => .array .long
  | 28 => .array .int
  | 29 => .array .int
  | 30 => .array .int
  | 31 => .int
  | 32 => .int
  | 33 => .int
  | 34 => .array .int
  | 35 => .int
  | 36 => .boolean
  | 37 => .boolean
  | 38 => .array .int
  | 39 => .int
  | _ => .array .int
theorem n_M : ∀ a, a < 41 → ∀ b, b < 41 → a ≠ b → (F_M a).2.1 ≠ (F_M b).2.1 := by decide +kernel
theorem t_M_ok : ∀ k, k < 41 → parseFieldDescriptor (F_M k).2.2.1 = some (t_M k) := by decide +kernel
def kl : List vw_C := [(R_Answer, F_Answer, 4), (R_Doer, F_Doer, 6), (R_Learner, F_Learner, 5), (R_Lesson, F_Lesson, 4), (R_Plan, F_Plan, 5), (R_Rows, F_Rows, 2), (R_School, F_School, 6), (R_Sheet, F_Sheet, 3), (R_Shelf, F_Shelf, 3), (R_Text, F_Text, 3), (R_S, F_S, 14), (R_M, F_M, 41)]
/-- a method: name, bytes, locals, answer -/
abbrev MT : Type := MethodName × ByteArray × Nat × Option FieldType
def m_Answer_init : MT := (⟨"SevenEights$Answer", "<init>", "()V"⟩, prog_2_method_1_code, 1, none)
def m_Answer_find : MT := (⟨"SevenEights$Answer", "find", "(LSevenEights$Learner;II[I)V"⟩, prog_2_method_2_code, 8, none)
def m_Answer_isProduct : MT := (⟨"SevenEights$Answer", "isProduct", "()Z"⟩, prog_2_method_3_code, 1, (some .boolean))
def m_Answer_become : MT := (⟨"SevenEights$Answer", "become", "(IIII)V"⟩, prog_2_method_4_code, 5, none)
def m_Answer_wayRound : MT := (⟨"SevenEights$Answer", "wayRound", "(LSevenEights$Learner;III)I"⟩, prog_2_method_5_code, 8, (some .int))
def m_Answer_firmestTied : MT := (⟨"SevenEights$Answer", "firmestTied", "(LSevenEights$Learner;II)I"⟩, prog_2_method_6_code, 8, (some .int))
def m_Doer_init : MT := (⟨"SevenEights$Doer", "<init>", "()V"⟩, prog_3_method_1_code, 1, none)
def m_Doer_clear : MT := (⟨"SevenEights$Doer", "clear", "()V"⟩, prog_3_method_2_code, 1, none)
def m_Doer_become : MT := (⟨"SevenEights$Doer", "become", "(III)V"⟩, prog_3_method_3_code, 4, none)
def m_Doer_bodyOf : MT := (⟨"SevenEights$Doer", "bodyOf", "(I)I"⟩, prog_3_method_4_code, 2, (some .int))
def m_Doer_begin : MT := (⟨"SevenEights$Doer", "begin", "(I)Z"⟩, prog_3_method_5_code, 2, (some .boolean))
def m_Doer_partEvenly : MT := (⟨"SevenEights$Doer", "partEvenly", "(I)I"⟩, prog_3_method_6_code, 3, (some .int))
def m_Learner_init : MT := (⟨"SevenEights$Learner", "<init>", "()V"⟩, prog_4_method_1_code, 1, none)
def m_Learner_start : MT := (⟨"SevenEights$Learner", "start", "(II)V"⟩, prog_4_method_2_code, 4, none)
def m_Learner_copyFrom : MT := (⟨"SevenEights$Learner", "copyFrom", "(LSevenEights$Learner;)V"⟩, prog_4_method_3_code, 2, none)
def m_Learner_firmSum : MT := (⟨"SevenEights$Learner", "firmSum", "()I"⟩, prog_4_method_4_code, 3, (some .int))
def m_Learner_feeling : MT := (⟨"SevenEights$Learner", "feeling", "(II)I"⟩, prog_4_method_5_code, 3, (some .int))
def m_Learner_takes : MT := (⟨"SevenEights$Learner", "takes", "(II)I"⟩, prog_4_method_6_code, 3, (some .int))
def m_Learner_isAtOnce : MT := (⟨"SevenEights$Learner", "isAtOnce", "(III)Z"⟩, prog_4_method_7_code, 5, (some .boolean))
def m_Learner_takesBy : MT := (⟨"SevenEights$Learner", "takesBy", "(I)I"⟩, prog_4_method_8_code, 1, (some .int))
def m_Learner_step : MT := (⟨"SevenEights$Learner", "step", "()I"⟩, prog_4_method_9_code, 1, (some .int))
def m_Learner_hear : MT := (⟨"SevenEights$Learner", "hear", "(I)V"⟩, prog_4_method_10_code, 2, none)
def m_Learner_keepAnswer : MT := (⟨"SevenEights$Learner", "keepAnswer", "(LSevenEights$Answer;II)V"⟩, prog_4_method_11_code, 4, none)
def m_Learner_sleep : MT := (⟨"SevenEights$Learner", "sleep", "(II)V"⟩, prog_4_method_12_code, 4, none)
def m_Learner_box : MT := (⟨"SevenEights$Learner", "box", "(I)I"⟩, prog_4_method_13_code, 2, (some .int))
def m_Learner_due : MT := (⟨"SevenEights$Learner", "due", "(I)I"⟩, prog_4_method_14_code, 2, (some .int))
def m_Lesson_init : MT := (⟨"SevenEights$Lesson", "<init>", "()V"⟩, prog_5_method_1_code, 1, none)
def m_Lesson_append : MT := (⟨"SevenEights$Lesson", "append", "(III)V"⟩, prog_5_method_2_code, 4, none)
def m_Lesson_copyFrom : MT := (⟨"SevenEights$Lesson", "copyFrom", "(LSevenEights$Lesson;)V"⟩, prog_5_method_3_code, 2, none)
def m_Plan_init : MT := (⟨"SevenEights$Plan", "<init>", "()V"⟩, prog_6_method_1_code, 1, none)
def m_Plan_weigh : MT := (⟨"SevenEights$Plan", "weigh", "(LSevenEights$Learner;II)V"⟩, prog_6_method_2_code, 9, none)
def m_Plan_chooseOne : MT := (⟨"SevenEights$Plan", "chooseOne", "()V"⟩, prog_6_method_3_code, 2, none)
def m_Plan_chooseTwo : MT := (⟨"SevenEights$Plan", "chooseTwo", "()V"⟩, prog_6_method_4_code, 3, none)
def m_Plan_offer : MT := (⟨"SevenEights$Plan", "offer", "(II)V"⟩, prog_6_method_5_code, 3, none)
def m_Rows_init : MT := (⟨"SevenEights$Rows", "<init>", "()V"⟩, prog_7_method_1_code, 1, none)
def m_Rows_append : MT := (⟨"SevenEights$Rows", "append", "(III)V"⟩, prog_7_method_2_code, 4, none)
def m_Rows_placeOf : MT := (⟨"SevenEights$Rows", "placeOf", "(II)I"⟩, prog_7_method_3_code, 3, (some .int))
def m_Rows_isSameAt : MT := (⟨"SevenEights$Rows", "isSameAt", "(ILSevenEights$Rows;)Z"⟩, prog_7_method_4_code, 4, (some .boolean))
def m_School_init : MT := (⟨"SevenEights$School", "<init>", "()V"⟩, prog_8_method_1_code, 2, none)
def m_School_learnerAt : MT := (⟨"SevenEights$School", "learnerAt", "(I)LSevenEights$Learner;"⟩, prog_8_method_2_code, 2, (some (.object "SevenEights$Learner")))
def m_School_admit : MT := (⟨"SevenEights$School", "admit", "(II)I"⟩, prog_8_method_3_code, 4, (some .int))
def m_School_rest : MT := (⟨"SevenEights$School", "rest", "(I)V"⟩, prog_8_method_4_code, 3, none)
def m_School_copyFrom : MT := (⟨"SevenEights$School", "copyFrom", "(LSevenEights$School;)V"⟩, prog_8_method_5_code, 3, none)
def m_Sheet_init : MT := (⟨"SevenEights$Sheet", "<init>", "()V"⟩, prog_9_method_1_code, 1, none)
def m_Sheet_isMissing : MT := (⟨"SevenEights$Sheet", "isMissing", "()Z"⟩, prog_9_method_2_code, 1, (some .boolean))
def m_Sheet_lose : MT := (⟨"SevenEights$Sheet", "lose", "()V"⟩, prog_9_method_3_code, 1, none)
def m_Sheet_become : MT := (⟨"SevenEights$Sheet", "become", "(II)V"⟩, prog_9_method_4_code, 4, none)
def m_Sheet_narrowed : MT := (⟨"SevenEights$Sheet", "narrowed", "(I)J"⟩, prog_9_method_5_code, 2, (some .long))
def m_Shelf_init : MT := (⟨"SevenEights$Shelf", "<init>", "()V"⟩, prog_10_method_1_code, 1, none)
def m_Shelf_holdsRow : MT := (⟨"SevenEights$Shelf", "holdsRow", "()Z"⟩, prog_10_method_2_code, 1, (some .boolean))
def m_Shelf_holdNothing : MT := (⟨"SevenEights$Shelf", "holdNothing", "()V"⟩, prog_10_method_3_code, 1, none)
def m_Shelf_holdLearner : MT := (⟨"SevenEights$Shelf", "holdLearner", "(I)V"⟩, prog_10_method_4_code, 2, none)
def m_Shelf_holdRow : MT := (⟨"SevenEights$Shelf", "holdRow", "(LSevenEights$Sheet;)V"⟩, prog_10_method_5_code, 2, none)
def m_Text_init : MT := (⟨"SevenEights$Text", "<init>", "()V"⟩, prog_11_method_1_code, 1, none)
def m_Text_append : MT := (⟨"SevenEights$Text", "append", "(B)V"⟩, prog_11_method_2_code, 2, none)
def m_Text_readInto : MT := (⟨"SevenEights$Text", "readInto", "(LSevenEights$Lesson;)Z"⟩, prog_11_method_3_code, 3, (some .boolean))
def m_Text_readItem : MT := (⟨"SevenEights$Text", "readItem", "(LSevenEights$Lesson;)Z"⟩, prog_11_method_4_code, 2, (some .boolean))
def m_Text_readAsk : MT := (⟨"SevenEights$Text", "readAsk", "(LSevenEights$Lesson;)Z"⟩, prog_11_method_5_code, 4, (some .boolean))
def m_Text_readTell : MT := (⟨"SevenEights$Text", "readTell", "(LSevenEights$Lesson;)Z"⟩, prog_11_method_6_code, 3, (some .boolean))
def m_Text_readRest : MT := (⟨"SevenEights$Text", "readRest", "(LSevenEights$Lesson;)Z"⟩, prog_11_method_7_code, 3, (some .boolean))
def m_Text_readPair : MT := (⟨"SevenEights$Text", "readPair", "()I"⟩, prog_11_method_8_code, 3, (some .int))
def m_Text_readNumber : MT := (⟨"SevenEights$Text", "readNumber", "(II)I"⟩, prog_11_method_9_code, 7, (some .int))
def m_Text_isNextName : MT := (⟨"SevenEights$Text", "isNextName", "(Ljava/lang/String;)Z"⟩, prog_11_method_10_code, 4, (some .boolean))
def m_Text_isNextSemicolon : MT := (⟨"SevenEights$Text", "isNextSemicolon", "()Z"⟩, prog_11_method_11_code, 1, (some .boolean))
def m_Text_endOfRow : MT := (⟨"SevenEights$Text", "endOfRow", "(CC)I"⟩, prog_11_method_12_code, 4, (some .int))
def m_Text_skipBlanks : MT := (⟨"SevenEights$Text", "skipBlanks", "()V"⟩, prog_11_method_13_code, 1, none)
def m_S_init : MT := (⟨"SevenEights", "<init>", "()V"⟩, prog_1_method_1_code, 2, none)
def m_S_feed : MT := (⟨"SevenEights", "feed", "(JI)I"⟩, prog_1_method_2_code, 5, (some .int))
def m_S_lesson : MT := (⟨"SevenEights", "lesson", "()I"⟩, prog_1_method_3_code, 3, (some .int))
def m_S_learner : MT := (⟨"SevenEights", "learner", "(II)I"⟩, prog_1_method_4_code, 3, (some .int))
def m_S_learnerOf : MT := (⟨"SevenEights", "learnerOf", "(II)I"⟩, prog_1_method_5_code, 4, (some .int))
def m_S_pair : MT := (⟨"SevenEights", "pair", "(II)I"⟩, prog_1_method_6_code, 3, (some .int))
def m_S_pairOf : MT := (⟨"SevenEights", "pairOf", "(II)I"⟩, prog_1_method_7_code, 3, (some .int))
def m_S_tied : MT := (⟨"SevenEights", "tied", "(I)J"⟩, prog_1_method_8_code, 6, (some .long))
def m_S_head : MT := (⟨"SevenEights", "head", "(III)I"⟩, prog_1_method_9_code, 5, (some .int))
def m_S_firm : MT := (⟨"SevenEights", "firm", "(III)I"⟩, prog_1_method_10_code, 6, (some .int))
def m_S_rights : MT := (⟨"SevenEights", "rights", "(III)I"⟩, prog_1_method_11_code, 6, (some .int))
def m_S_set : MT := (⟨"SevenEights", "set", "(II)I"⟩, prog_1_method_12_code, 4, (some .int))
def m_S_day : MT := (⟨"SevenEights", "day", "()I"⟩, prog_1_method_13_code, 1, (some .int))
def m_S_feel : MT := (⟨"SevenEights", "feel", "(III)I"⟩, prog_1_method_14_code, 5, (some .int))
def m_S_would : MT := (⟨"SevenEights", "would", "(IIII)I"⟩, prog_1_method_15_code, 6, (some .int))
def m_S_ask : MT := (⟨"SevenEights", "ask", "(III)I"⟩, prog_1_method_16_code, 5, (some .int))
def m_S_tell : MT := (⟨"SevenEights", "tell", "(II)I"⟩, prog_1_method_17_code, 4, (some .int))
def m_S_nights : MT := (⟨"SevenEights", "nights", "(I)I"⟩, prog_1_method_18_code, 2, (some .int))
def m_S_card : MT := (⟨"SevenEights", "card", "(I)I"⟩, prog_1_method_19_code, 5, (some .int))
def m_S_known : MT := (⟨"SevenEights", "known", "(II)J"⟩, prog_1_method_20_code, 4, (some .long))
def m_S_friday : MT := (⟨"SevenEights", "friday", "(III)J"⟩, prog_1_method_21_code, 5, (some .long))
def m_S_odds : MT := (⟨"SevenEights", "odds", "(II)I"⟩, prog_1_method_22_code, 6, (some .int))
def m_S_best : MT := (⟨"SevenEights", "best", "(IIII)I"⟩, prog_1_method_23_code, 6, (some .int))
def m_S_till : MT := (⟨"SevenEights", "till", "(III)I"⟩, prog_1_method_24_code, 7, (some .int))
def m_S_hardest : MT := (⟨"SevenEights", "hardest", "(I)I"⟩, prog_1_method_25_code, 6, (some .int))
def m_S_draws : MT := (⟨"SevenEights", "draws", "(III)I"⟩, prog_1_method_26_code, 7, (some .int))
def m_S_give : MT := (⟨"SevenEights", "give", "(I)I"⟩, prog_1_method_27_code, 6, (some .int))
def m_S_item : MT := (⟨"SevenEights", "item", "(II)I"⟩, prog_1_method_28_code, 3, (some .int))
def m_S_seed : MT := (⟨"SevenEights", "seed", "(I)I"⟩, prog_1_method_29_code, 3, (some .int))
def m_S_draw : MT := (⟨"SevenEights", "draw", "(II)I"⟩, prog_1_method_30_code, 7, (some .int))
def m_S_prove : MT := (⟨"SevenEights", "prove", "(I)I"⟩, prog_1_method_31_code, 3, (some .int))
def m_S_row : MT := (⟨"SevenEights", "row", "(II)I"⟩, prog_1_method_32_code, 4, (some .int))
def m_S_alterRow : MT := (⟨"SevenEights", "alterRow", "(III)I"⟩, prog_1_method_33_code, 6, (some .int))
def m_S_judge : MT := (⟨"SevenEights", "judge", "(I)I"⟩, prog_1_method_34_code, 4, (some .int))
def m_S_firms : MT := (⟨"SevenEights", "firms", "(IIIII)I"⟩, prog_1_method_35_code, 10, (some .int))
def m_S_sheet : MT := (⟨"SevenEights", "sheet", "(III)I"⟩, prog_1_method_36_code, 4, (some .int))
def m_S_put : MT := (⟨"SevenEights", "put", "(III)I"⟩, prog_1_method_37_code, 5, (some .int))
def m_S_number : MT := (⟨"SevenEights", "number", "(III)I"⟩, prog_1_method_38_code, 5, (some .int))
def m_S_shelf : MT := (⟨"SevenEights", "shelf", "(III)I"⟩, prog_1_method_39_code, 4, (some .int))
def m_S_taken : MT := (⟨"SevenEights", "taken", "(II)I"⟩, prog_1_method_40_code, 7, (some .int))
def m_S_act : MT := (⟨"SevenEights", "act", "(III)I"⟩, prog_1_method_41_code, 7, (some .int))
def m_S_trace : MT := (⟨"SevenEights", "trace", "(I)I"⟩, prog_1_method_42_code, 2, (some .int))
def m_S_many : MT := (⟨"SevenEights", "many", "(I)I"⟩, prog_1_method_43_code, 2, (some .int))
def m_S_keep : MT := (⟨"SevenEights", "keep", "()I"⟩, prog_1_method_44_code, 1, (some .int))
def m_S_again : MT := (⟨"SevenEights", "again", "()I"⟩, prog_1_method_45_code, 1, (some .int))
def m_S_isWithin : MT := (⟨"SevenEights", "isWithin", "(II)Z"⟩, prog_1_method_46_code, 2, (some .boolean))
def m_S_isPair : MT := (⟨"SevenEights", "isPair", "(I)Z"⟩, prog_1_method_47_code, 1, (some .boolean))
def m_S_isSeconds : MT := (⟨"SevenEights", "isSeconds", "(I)Z"⟩, prog_1_method_48_code, 1, (some .boolean))
def m_S_isSheet : MT := (⟨"SevenEights", "isSheet", "(I)Z"⟩, prog_1_method_49_code, 1, (some .boolean))
def m_S_isShelf : MT := (⟨"SevenEights", "isShelf", "(I)Z"⟩, prog_1_method_50_code, 1, (some .boolean))
def m_S_pairAt : MT := (⟨"SevenEights", "pairAt", "(II)I"⟩, prog_1_method_51_code, 4, (some .int))
def m_S_product : MT := (⟨"SevenEights", "product", "(I)I"⟩, prog_1_method_52_code, 1, (some .int))
def m_S_nextDoor : MT := (⟨"SevenEights", "nextDoor", "(II)I"⟩, prog_1_method_53_code, 4, (some .int))
def m_S_firmAtFirst : MT := (⟨"SevenEights", "firmAtFirst", "(I)I"⟩, prog_1_method_54_code, 3, (some .int))
def m_S_firmWhenTold : MT := (⟨"SevenEights", "firmWhenTold", "(I)I"⟩, prog_1_method_55_code, 1, (some .int))
def m_S_firmBehindNights : MT := (⟨"SevenEights", "firmBehindNights", "(IIII)I"⟩, prog_1_method_56_code, 6, (some .int))
def m_S_commonDivisor : MT := (⟨"SevenEights", "commonDivisor", "(II)I"⟩, prog_1_method_57_code, 3, (some .int))
def m_S_isUnder : MT := (⟨"SevenEights", "isUnder", "(II)Z"⟩, prog_1_method_58_code, 4, (some .boolean))
def m_S_knownSet : MT := (⟨"SevenEights", "knownSet", "(LSevenEights$Learner;I)J"⟩, prog_1_method_59_code, 6, (some .long))
def m_S_memberAt : MT := (⟨"SevenEights", "memberAt", "(JI)I"⟩, prog_1_method_60_code, 5, (some .int))
def m_S_howManyKnow : MT := (⟨"SevenEights", "howManyKnow", "(II)I"⟩, prog_1_method_61_code, 5, (some .int))
def m_S_countSlips : MT := (⟨"SevenEights", "countSlips", "(LSevenEights$Learner;I)V"⟩, prog_1_method_62_code, 4, none)
def m_S_fillRows : MT := (⟨"SevenEights", "fillRows", "(LSevenEights$Rows;LSevenEights$Learner;)V"⟩, prog_1_method_63_code, 7, none)
def m_S_run : MT := (⟨"SevenEights", "run", "(LSevenEights$Doer;III)I"⟩, prog_1_method_64_code, 7, (some .int))
def m_M_init : MT := (⟨"SevenEightsModel", "<init>", "()V"⟩, prog_13_method_1_code, 1, none)
def m_M_in : MT := (⟨"SevenEightsModel", "in", "(III)Z"⟩, prog_13_method_2_code, 3, (some .boolean))
def m_M_isLearner : MT := (⟨"SevenEightsModel", "isLearner", "(I)Z"⟩, prog_13_method_3_code, 2, (some .boolean))
def m_M_isPair : MT := (⟨"SevenEightsModel", "isPair", "(I)Z"⟩, prog_13_method_4_code, 1, (some .boolean))
def m_M_isTime : MT := (⟨"SevenEightsModel", "isTime", "(I)Z"⟩, prog_13_method_5_code, 1, (some .boolean))
def m_M_isSide : MT := (⟨"SevenEightsModel", "isSide", "(I)Z"⟩, prog_13_method_6_code, 1, (some .boolean))
def m_M_lesser : MT := (⟨"SevenEightsModel", "lesser", "(I)I"⟩, prog_13_method_7_code, 3, (some .int))
def m_M_greater : MT := (⟨"SevenEightsModel", "greater", "(I)I"⟩, prog_13_method_8_code, 3, (some .int))
def m_M_pairBy : MT := (⟨"SevenEightsModel", "pairBy", "(II)I"⟩, prog_13_method_9_code, 6, (some .int))
def m_M_product : MT := (⟨"SevenEightsModel", "product", "(I)I"⟩, prog_13_method_10_code, 1, (some .int))
def m_M_firmAtFirst : MT := (⟨"SevenEightsModel", "firmAtFirst", "(I)I"⟩, prog_13_method_11_code, 3, (some .int))
def m_M_bitOf : MT := (⟨"SevenEightsModel", "bitOf", "(I)J"⟩, prog_13_method_12_code, 1, (some .long))
def m_M_tiedTo : MT := (⟨"SevenEightsModel", "tiedTo", "(I)J"⟩, prog_13_method_13_code, 3, (some .long))
def m_M_pair : MT := (⟨"SevenEightsModel", "pair", "(II)I"⟩, prog_13_method_14_code, 3, (some .int))
def m_M_pairOf : MT := (⟨"SevenEightsModel", "pairOf", "(II)I"⟩, prog_13_method_15_code, 3, (some .int))
def m_M_tied : MT := (⟨"SevenEightsModel", "tied", "(I)J"⟩, prog_13_method_16_code, 2, (some .long))
def m_M_place : MT := (⟨"SevenEightsModel", "place", "(II)I"⟩, prog_13_method_17_code, 3, (some .int))
def m_M_firmOf : MT := (⟨"SevenEightsModel", "firmOf", "(II)I"⟩, prog_13_method_18_code, 3, (some .int))
def m_M_rightsOf : MT := (⟨"SevenEightsModel", "rightsOf", "(II)I"⟩, prog_13_method_19_code, 3, (some .int))
def m_M_latestOf : MT := (⟨"SevenEightsModel", "latestOf", "(II)I"⟩, prog_13_method_20_code, 3, (some .int))
def m_M_kindOf : MT := (⟨"SevenEightsModel", "kindOf", "(I)I"⟩, prog_13_method_21_code, 2, (some .int))
def m_M_aOf : MT := (⟨"SevenEightsModel", "aOf", "(I)I"⟩, prog_13_method_22_code, 2, (some .int))
def m_M_learner : MT := (⟨"SevenEightsModel", "learner", "(II)I"⟩, prog_13_method_23_code, 5, (some .int))
def m_M_firmInAll : MT := (⟨"SevenEightsModel", "firmInAll", "(I)I"⟩, prog_13_method_24_code, 4, (some .int))
def m_M_learnerOf : MT := (⟨"SevenEightsModel", "learnerOf", "(II)I"⟩, prog_13_method_25_code, 3, (some .int))
def m_M_boxOf : MT := (⟨"SevenEightsModel", "boxOf", "(II)I"⟩, prog_13_method_26_code, 4, (some .int))
def m_M_dueOf : MT := (⟨"SevenEightsModel", "dueOf", "(II)I"⟩, prog_13_method_27_code, 3, (some .int))
def m_M_head : MT := (⟨"SevenEightsModel", "head", "(III)I"⟩, prog_13_method_28_code, 4, (some .int))
def m_M_firm : MT := (⟨"SevenEightsModel", "firm", "(III)I"⟩, prog_13_method_29_code, 5, (some .int))
def m_M_rights : MT := (⟨"SevenEightsModel", "rights", "(III)I"⟩, prog_13_method_30_code, 5, (some .int))
def m_M_set : MT := (⟨"SevenEightsModel", "set", "(II)I"⟩, prog_13_method_31_code, 5, (some .int))
def m_M_day : MT := (⟨"SevenEightsModel", "day", "()I"⟩, prog_13_method_32_code, 1, (some .int))
def m_M_kept : MT := (⟨"SevenEightsModel", "kept", "(I)I"⟩, prog_13_method_33_code, 1, (some .int))
def m_M_feelOf : MT := (⟨"SevenEightsModel", "feelOf", "(III)I"⟩, prog_13_method_34_code, 5, (some .int))
def m_M_feel : MT := (⟨"SevenEightsModel", "feel", "(III)I"⟩, prog_13_method_35_code, 4, (some .int))
def m_M_takesBy : MT := (⟨"SevenEightsModel", "takesBy", "(I)I"⟩, prog_13_method_36_code, 1, (some .int))
def m_M_isAtOnce : MT := (⟨"SevenEightsModel", "isAtOnce", "(III)Z"⟩, prog_13_method_37_code, 5, (some .boolean))
def m_M_stepOf : MT := (⟨"SevenEightsModel", "stepOf", "(I)I"⟩, prog_13_method_38_code, 2, (some .int))
def m_M_wayFrom : MT := (⟨"SevenEightsModel", "wayFrom", "(III)I"⟩, prog_13_method_39_code, 7, (some .int))
def m_M_slipTo : MT := (⟨"SevenEightsModel", "slipTo", "(III)I"⟩, prog_13_method_40_code, 8, (some .int))
def m_M_says : MT := (⟨"SevenEightsModel", "says", "(III)V"⟩, prog_13_method_41_code, 6, none)
def m_M_said : MT := (⟨"SevenEightsModel", "said", "(I)I"⟩, prog_13_method_42_code, 2, (some .int))
def m_M_would : MT := (⟨"SevenEightsModel", "would", "(IIII)I"⟩, prog_13_method_43_code, 5, (some .int))
def m_M_firmBecomes : MT := (⟨"SevenEightsModel", "firmBecomes", "(III)V"⟩, prog_13_method_44_code, 4, none)
def m_M_asked : MT := (⟨"SevenEightsModel", "asked", "(III)I"⟩, prog_13_method_45_code, 5, (some .int))
def m_M_isTold : MT := (⟨"SevenEightsModel", "isTold", "(II)V"⟩, prog_13_method_46_code, 4, none)
def m_M_nightGoes : MT := (⟨"SevenEightsModel", "nightGoes", "()V"⟩, prog_13_method_47_code, 4, none)
def m_M_ask : MT := (⟨"SevenEightsModel", "ask", "(III)I"⟩, prog_13_method_48_code, 4, (some .int))
def m_M_tell : MT := (⟨"SevenEightsModel", "tell", "(II)I"⟩, prog_13_method_49_code, 3, (some .int))
def m_M_nights : MT := (⟨"SevenEightsModel", "nights", "(I)I"⟩, prog_13_method_50_code, 3, (some .int))
def m_M_card : MT := (⟨"SevenEightsModel", "card", "(I)I"⟩, prog_13_method_51_code, 4, (some .int))
def m_M_isKnown : MT := (⟨"SevenEightsModel", "isKnown", "(III)Z"⟩, prog_13_method_52_code, 4, (some .boolean))
def m_M_knownSet : MT := (⟨"SevenEightsModel", "knownSet", "(II)J"⟩, prog_13_method_53_code, 6, (some .long))
def m_M_known : MT := (⟨"SevenEightsModel", "known", "(II)J"⟩, prog_13_method_54_code, 3, (some .long))
def m_M_lends : MT := (⟨"SevenEightsModel", "lends", "()V"⟩, prog_13_method_55_code, 2, none)
def m_M_all : MT := (⟨"SevenEightsModel", "all", "()J"⟩, prog_13_method_56_code, 0, (some .long))
def m_M_friday : MT := (⟨"SevenEightsModel", "friday", "(III)J"⟩, prog_13_method_57_code, 6, (some .long))
def m_M_ones : MT := (⟨"SevenEightsModel", "ones", "(J)I"⟩, prog_13_method_58_code, 5, (some .int))
def m_M_partOf : MT := (⟨"SevenEightsModel", "partOf", "(III)I"⟩, prog_13_method_59_code, 6, (some .int))
def m_M_odds : MT := (⟨"SevenEightsModel", "odds", "(II)I"⟩, prog_13_method_60_code, 5, (some .int))
def m_M_firmBehind : MT := (⟨"SevenEightsModel", "firmBehind", "(III)I"⟩, prog_13_method_61_code, 6, (some .int))
def m_M_findBehind : MT := (⟨"SevenEightsModel", "findBehind", "(II)V"⟩, prog_13_method_62_code, 6, none)
def m_M_best : MT := (⟨"SevenEightsModel", "best", "(IIII)I"⟩, prog_13_method_63_code, 12, (some .int))
def m_M_till : MT := (⟨"SevenEightsModel", "till", "(III)I"⟩, prog_13_method_64_code, 6, (some .int))
def m_M_hardest : MT := (⟨"SevenEightsModel", "hardest", "(I)I"⟩, prog_13_method_65_code, 7, (some .int))
def m_M_draws : MT := (⟨"SevenEightsModel", "draws", "(III)I"⟩, prog_13_method_66_code, 6, (some .int))
def m_M_feed : MT := (⟨"SevenEightsModel", "feed", "(JI)I"⟩, prog_13_method_67_code, 5, (some .int))
def m_M_byteAt : MT := (⟨"SevenEightsModel", "byteAt", "(I)I"⟩, prog_13_method_68_code, 2, (some .int))
def m_M_isLetter : MT := (⟨"SevenEightsModel", "isLetter", "(I)Z"⟩, prog_13_method_69_code, 1, (some .boolean))
def m_M_isDigit : MT := (⟨"SevenEightsModel", "isDigit", "(I)Z"⟩, prog_13_method_70_code, 1, (some .boolean))
def m_M_advance : MT := (⟨"SevenEightsModel", "advance", "()V"⟩, prog_13_method_71_code, 2, none)
def m_M_isWord : MT := (⟨"SevenEightsModel", "isWord", "(J)Z"⟩, prog_13_method_72_code, 3, (some .boolean))
def m_M_isMark : MT := (⟨"SevenEightsModel", "isMark", "(I)Z"⟩, prog_13_method_73_code, 2, (some .boolean))
def m_M_wantNumber : MT := (⟨"SevenEightsModel", "wantNumber", "(II)I"⟩, prog_13_method_74_code, 4, (some .int))
def m_M_wantItem : MT := (⟨"SevenEightsModel", "wantItem", "(I)V"⟩, prog_13_method_75_code, 6, none)
def m_M_lesson : MT := (⟨"SevenEightsModel", "lesson", "()I"⟩, prog_13_method_76_code, 3, (some .int))
def m_M_does : MT := (⟨"SevenEightsModel", "does", "(II)I"⟩, prog_13_method_77_code, 5, (some .int))
def m_M_give : MT := (⟨"SevenEightsModel", "give", "(I)I"⟩, prog_13_method_78_code, 5, (some .int))
def m_M_item : MT := (⟨"SevenEightsModel", "item", "(II)I"⟩, prog_13_method_79_code, 3, (some .int))
def m_M_seed : MT := (⟨"SevenEightsModel", "seed", "(I)I"⟩, prog_13_method_80_code, 3, (some .int))
def m_M_draw : MT := (⟨"SevenEightsModel", "draw", "(II)I"⟩, prog_13_method_81_code, 7, (some .int))
def m_M_findRows : MT := (⟨"SevenEightsModel", "findRows", "(I)V"⟩, prog_13_method_82_code, 4, none)
def m_M_prove : MT := (⟨"SevenEightsModel", "prove", "(I)I"⟩, prog_13_method_83_code, 3, (some .int))
def m_M_isRow : MT := (⟨"SevenEightsModel", "isRow", "(II)Z"⟩, prog_13_method_84_code, 3, (some .boolean))
def m_M_row : MT := (⟨"SevenEightsModel", "row", "(II)I"⟩, prog_13_method_85_code, 3, (some .int))
def m_M_alterRow : MT := (⟨"SevenEightsModel", "alterRow", "(III)I"⟩, prog_13_method_86_code, 5, (some .int))
def m_M_judge : MT := (⟨"SevenEightsModel", "judge", "(I)I"⟩, prog_13_method_87_code, 5, (some .int))
def m_M_firms : MT := (⟨"SevenEightsModel", "firms", "(IIIII)I"⟩, prog_13_method_88_code, 10, (some .int))
def m_M_isShelf : MT := (⟨"SevenEightsModel", "isShelf", "(I)Z"⟩, prog_13_method_89_code, 1, (some .boolean))
def m_M_sheet : MT := (⟨"SevenEightsModel", "sheet", "(III)I"⟩, prog_13_method_90_code, 5, (some .int))
def m_M_put : MT := (⟨"SevenEightsModel", "put", "(III)I"⟩, prog_13_method_91_code, 4, (some .int))
def m_M_lacksSort : MT := (⟨"SevenEightsModel", "lacksSort", "(II)I"⟩, prog_13_method_92_code, 3, (some .int))
def m_M_number : MT := (⟨"SevenEightsModel", "number", "(III)I"⟩, prog_13_method_93_code, 5, (some .int))
def m_M_isHeld : MT := (⟨"SevenEightsModel", "isHeld", "(II)Z"⟩, prog_13_method_94_code, 3, (some .boolean))
def m_M_shelf : MT := (⟨"SevenEightsModel", "shelf", "(III)I"⟩, prog_13_method_95_code, 4, (some .int))
def m_M_kindOn : MT := (⟨"SevenEightsModel", "kindOn", "(I)I"⟩, prog_13_method_96_code, 2, (some .int))
def m_M_isUnder : MT := (⟨"SevenEightsModel", "isUnder", "(II)Z"⟩, prog_13_method_97_code, 2, (some .boolean))
def m_M_taken : MT := (⟨"SevenEightsModel", "taken", "(II)I"⟩, prog_13_method_98_code, 4, (some .int))
def m_M_ran : MT := (⟨"SevenEightsModel", "ran", "(I)V"⟩, prog_13_method_99_code, 2, none)
def m_M_plainSays : MT := (⟨"SevenEightsModel", "plainSays", "(I)I"⟩, prog_13_method_100_code, 2, (some .int))
def m_M_parrotSays : MT := (⟨"SevenEightsModel", "parrotSays", "(I)I"⟩, prog_13_method_101_code, 2, (some .int))
def m_M_saysIt : MT := (⟨"SevenEightsModel", "saysIt", "(I)I"⟩, prog_13_method_102_code, 2, (some .int))
def m_M_plainLearns : MT := (⟨"SevenEightsModel", "plainLearns", "(I)I"⟩, prog_13_method_103_code, 2, (some .int))
def m_M_learnsIt : MT := (⟨"SevenEightsModel", "learnsIt", "(I)I"⟩, prog_13_method_104_code, 3, (some .int))
def m_M_plainShares : MT := (⟨"SevenEightsModel", "plainShares", "(I)I"⟩, prog_13_method_105_code, 2, (some .int))
def m_M_sharesIt : MT := (⟨"SevenEightsModel", "sharesIt", "(I)I"⟩, prog_13_method_106_code, 3, (some .int))
def m_M_plainTells : MT := (⟨"SevenEightsModel", "plainTells", "(I)I"⟩, prog_13_method_107_code, 2, (some .int))
def m_M_tellsIt : MT := (⟨"SevenEightsModel", "tellsIt", "(I)I"⟩, prog_13_method_108_code, 3, (some .int))
def m_M_act : MT := (⟨"SevenEightsModel", "act", "(III)I"⟩, prog_13_method_109_code, 6, (some .int))
def m_M_trace : MT := (⟨"SevenEightsModel", "trace", "(I)I"⟩, prog_13_method_110_code, 2, (some .int))
def m_M_many : MT := (⟨"SevenEightsModel", "many", "(I)I"⟩, prog_13_method_111_code, 2, (some .int))
def m_M_moveRow : MT := (⟨"SevenEightsModel", "moveRow", "([IIZ)V"⟩, prog_13_method_112_code, 5, none)
def m_M_moveAll : MT := (⟨"SevenEightsModel", "moveAll", "(Z)V"⟩, prog_13_method_113_code, 2, none)
def m_M_keep : MT := (⟨"SevenEightsModel", "keep", "()I"⟩, prog_13_method_114_code, 1, (some .int))
def m_M_again : MT := (⟨"SevenEightsModel", "again", "()I"⟩, prog_13_method_115_code, 1, (some .int))
def m_JLong_bitCount : MT := (⟨"java/lang/Long", "bitCount", "(J)I"⟩, prog_14_method_50_code, 2, (some .int))
def m_JMath_max : MT := (⟨"java/lang/Math", "max", "(II)I"⟩, prog_15_method_65_code, 2, (some .int))
def m_JMath_min : MT := (⟨"java/lang/Math", "min", "(II)I"⟩, prog_15_method_69_code, 2, (some .int))
def m_JString_charAt : MT := (⟨"java/lang/String", "charAt", "(I)C"⟩, prog_16_method_56_code, 2, (some .char))
def m_JString_checkIndex : MT := (⟨"java/lang/String", "checkIndex", "(II)V"⟩, prog_16_method_155_code, 2, none)
def m_JString_coder : MT := (⟨"java/lang/String", "coder", "()B"⟩, prog_16_method_152_code, 1, (some .byte))
def m_JString_isLatin1 : MT := (⟨"java/lang/String", "isLatin1", "()Z"⟩, prog_16_method_154_code, 1, (some .boolean))
def m_JString_length : MT := (⟨"java/lang/String", "length", "()I"⟩, prog_16_method_54_code, 1, (some .int))
def m_JLatin_charAt : MT := (⟨"java/lang/StringLatin1", "charAt", "([BI)C"⟩, prog_17_method_2_code, 2, (some .char))
def m_L_law : MT := (x, code, maxLocals, ret)
end
section
/-! The memory of both objects: ints and longs by cell and slot; the cells' shapes are fixed (no call makes a cell). -/
abbrev Me : Type := (Nat → Nat → Int32) × (Nat → Nat → Int64)
/-- an object: the number of its class, codes of its fields (0 int, 1 long, r + 2 the cell r); an array: its type (0 int, 1 byte, 2 long, 3 .. of references), length, and for references the first cell and the stride -/
abbrev Sp : Type := (Nat × List Nat) ⊕ (Nat × Nat × Nat × Nat)
def shp : List Sp := [.inl (10, [3, 26, 0, 49, 51, 55, 59, 60, 63, 64, 66, 68, 69, 70]),
  .inl (6, [4, 0, 5, 0, 0, 6]),
  .inr (3, 4, 8, 4),
  .inr (0, 3, 0, 0),
  .inl (3, [7, 8, 9, 0]),
  .inr (0, 12, 0, 0),
  .inr (0, 12, 0, 0),
  .inr (0, 12, 0, 0),
  .inl (2, [0, 0, 11, 12, 13]),
  .inr (0, 36, 0, 0),
  .inr (0, 36, 0, 0),
  .inr (0, 36, 0, 0),
  .inl (2, [0, 0, 15, 16, 17]),
  .inr (0, 36, 0, 0),
  .inr (0, 36, 0, 0),
  .inr (0, 36, 0, 0),
  .inl (2, [0, 0, 19, 20, 21]),
  .inr (0, 36, 0, 0),
  .inr (0, 36, 0, 0),
  .inr (0, 36, 0, 0),
  .inl (2, [0, 0, 23, 24, 25]),
  .inr (0, 36, 0, 0),
  .inr (0, 36, 0, 0),
  .inr (0, 36, 0, 0),
  .inl (6, [27, 0, 28, 0, 0, 29]),
  .inr (3, 4, 31, 4),
  .inr (0, 3, 0, 0),
  .inl (3, [30, 31, 32, 0]),
  .inr (0, 12, 0, 0),
  .inr (0, 12, 0, 0),
  .inr (0, 12, 0, 0),
  .inl (2, [0, 0, 34, 35, 36]),
  .inr (0, 36, 0, 0),
  .inr (0, 36, 0, 0),
  .inr (0, 36, 0, 0),
  .inl (2, [0, 0, 38, 39, 40]),
  .inr (0, 36, 0, 0),
  .inr (0, 36, 0, 0),
  .inr (0, 36, 0, 0),
  .inl (2, [0, 0, 42, 43, 44]),
  .inr (0, 36, 0, 0),
  .inr (0, 36, 0, 0),
  .inr (0, 36, 0, 0),
  .inl (2, [0, 0, 46, 47, 48]),
  .inr (0, 36, 0, 0),
  .inr (0, 36, 0, 0),
  .inr (0, 36, 0, 0),
  .inl (9, [50, 0, 0]),
  .inr (1, 200, 0, 0),
  .inl (3, [52, 53, 54, 0]),
  .inr (0, 12, 0, 0),
  .inr (0, 12, 0, 0),
  .inr (0, 12, 0, 0),
  .inl (2, [0, 0, 56, 57, 58]),
  .inr (0, 36, 0, 0),
  .inr (0, 36, 0, 0),
  .inr (0, 36, 0, 0),
  .inl (0, [0, 0, 0, 0]),
  .inl (4, [61, 62, 0, 0, 0]),
  .inr (0, 36, 0, 0),
  .inr (0, 36, 0, 0),
  .inr (0, 36, 0, 0),
  .inl (5, [65, 0]),
  .inr (0, 36, 0, 0),
  .inl (5, [67, 0]),
  .inr (0, 36, 0, 0),
  .inr (4, 4, 70, 2),
  .inr (5, 4, 78, 1),
  .inl (1, [0, 0, 0, 0, 71, 0]),
  .inr (0, 30, 0, 0),
  .inl (7, [0, 0, 73]),
  .inr (2, 40, 0, 0),
  .inl (7, [0, 0, 75]),
  .inr (2, 40, 0, 0),
  .inl (7, [0, 0, 77]),
  .inr (2, 40, 0, 0),
  .inl (7, [0, 0, 79]),
  .inr (2, 40, 0, 0),
  .inl (8, [0, 0, 0]),
  .inl (8, [0, 0, 0]),
  .inl (8, [0, 0, 0]),
  .inl (8, [0, 0, 0]),
  .inl (11, [85, 0, 86, 87, 0, 0, 0, 0, 88, 89, 90, 0, 0, 0, 0, 1, 0, 0, 0, 91, 92, 93, 94, 0, 0, 95, 96, 97, 98, 99, 100, 0, 0, 0, 101, 0, 0, 0, 102, 0, 103]),
  .inr (0, 884, 0, 0),
  .inr (0, 3, 0, 0),
  .inr (0, 3, 0, 0),
  .inr (0, 108, 0, 0),
  .inr (0, 36, 0, 0),
  .inr (0, 200, 0, 0),
  .inr (0, 36, 0, 0),
  .inr (0, 36, 0, 0),
  .inr (0, 36, 0, 0),
  .inr (0, 36, 0, 0),
  .inr (0, 4, 0, 0),
  .inr (0, 4, 0, 0),
  .inr (2, 160, 0, 0),
  .inr (0, 4, 0, 0),
  .inr (0, 4, 0, 0),
  .inr (0, 4, 0, 0),
  .inr (0, 30, 0, 0),
  .inr (0, 490, 0, 0),
  .inr (0, 2, 0, 0)]
def fv (b0 : Nat) (μ : Me) (c j k : Nat) : Value := match k with
  | 0 => .int (μ.1 c j)
  | 1 => .long (μ.2 c j)
  | r + 2 => .ref (b0 + r)
def fvs (b0 : Nat) (μ : Me) (c : Nat) (fks : List Nat) : List Value := fks.mapIdx (fun j k => fv b0 μ c j k)
def av (b0 : Nat) (μ : Me) (c : Nat) (q : Nat × Nat × Nat × Nat) : vp_A := (q.2.1, match q.1 with
  | 0 => .inl (μ.1 c)
  | 1 => .inl (μ.1 c)
  | 2 => .inr (.inl (μ.2 c))
  | _ => .inr (.inr (.inr (.inr (fun j => some (b0 + (q.2.2.1 + q.2.2.2 * j)))))))
def ea (b0 : Nat) (cA : Nat → ClassId) (μ : Me) (c : Nat) (sp : Sp) : va_E := match sp with
  | .inl q => .inr (q.1, fvs b0 μ c q.2)
  | .inr q => .inl (cA q.1, av b0 μ c q)
def wl (b0 : Nat) (cA : Nat → ClassId) (μ : Me) : va_W := shp.mapIdx (fun c sp => (b0 + c, ea b0 cA μ c sp))
def Ab (b0 : Nat) : Nat → Prop := fun q => b0 ≤ q
/-- a row of ints set; one int; one long; a row of longs -/
def rI (μ : Me) (c : Nat) (f : Nat → Int32) : Me := (fun c' => if c' = c then f else μ.1 c', μ.2)
def uI (μ : Me) (c j : Nat) (v : Int32) : Me := rI μ c (upd (μ.1 c) j v)
def rL (μ : Me) (c : Nat) (f : Nat → Int64) : Me := (μ.1, fun c' => if c' = c then f else μ.2 c')
def uL (μ : Me) (c j : Nat) (v : Int64) : Me := rL μ c (vp_updL (μ.2 c) j v)
theorem wl_get {b0 : Nat} {cA : Nat → ClassId} {μ : Me} {c : Nat} {sp : Sp} (h : shp[c]? = some sp) : (wl b0 cA μ)[c]? = some (b0 + c, ea b0 cA μ c sp) := by
  simp [wl, List.getElem?_mapIdx, h]
theorem wl_D {b0 : Nat} {cA : Nat → ClassId} {μ : Me} : va_D (Ab b0) (wl b0 cA μ) := by
  refine ⟨fun i j p q hi hj hpq => ?_, fun k q hk => ?_⟩
  · simp only [wl, List.getElem?_mapIdx, Option.map_eq_some_iff] at hi hj
    obtain ⟨a, -, rfl⟩ := hi
    obtain ⟨b, -, rfl⟩ := hj
    simp only at hpq
    omega
  · simp only [wl, List.getElem?_mapIdx, Option.map_eq_some_iff] at hk
    obtain ⟨a, -, rfl⟩ := hk
    exact Nat.le_add_right _ _
theorem ea_rI_ne {b0 : Nat} {cA : Nat → ClassId} {μ : Me} {c c' : Nat} {f : Nat → Int32} {sp : Sp} (h : c' ≠ c) : ea b0 cA (rI μ c f) c' sp = ea b0 cA μ c' sp := by
  have e1 : (rI μ c f).1 c' = μ.1 c' := by simp [rI, h]
  have e2 : (rI μ c f).2 = μ.2 := rfl
  cases sp with
  | inl q => simp only [ea, fvs, fv, e1, e2]
  | inr q => simp only [ea, av, e1, e2]
theorem ea_rL_ne {b0 : Nat} {cA : Nat → ClassId} {μ : Me} {c c' : Nat} {f : Nat → Int64} {sp : Sp} (h : c' ≠ c) : ea b0 cA (rL μ c f) c' sp = ea b0 cA μ c' sp := by
  have e1 : (rL μ c f).2 c' = μ.2 c' := by simp [rL, h]
  have e2 : (rL μ c f).1 = μ.1 := rfl
  cases sp with
  | inl q => simp only [ea, fvs, fv, e1, e2]
  | inr q => simp only [ea, av, e1, e2]
theorem wl_set {b0 : Nat} {cA : Nat → ClassId} {μ μ' : Me} {c : Nat} {sp : Sp} {e : va_E} (h : shp[c]? = some sp) (he : e = ea b0 cA μ' c sp) (hne : ∀ (c' : Nat) (sp' : Sp), c' ≠ c → ea b0 cA μ' c' sp' = ea b0 cA μ c' sp') : (wl b0 cA μ).set c (b0 + c, e) = wl b0 cA μ' := by
  apply List.ext_getElem?
  intro i
  by_cases hi : i = c
  · subst hi
    have hl : i < (wl b0 cA μ).length := (List.getElem?_eq_some_iff.mp (wl_get (b0 := b0) (cA := cA) (μ := μ) h)).1
    rw [List.getElem?_set_self hl, wl_get h, he]
  · rw [List.getElem?_set_ne (Ne.symm hi)]
    simp only [wl, List.getElem?_mapIdx]
    cases shp[i]? with
    | none => rfl
    | some s2 => simp only [Option.map_some]; rw [hne i s2 hi]
theorem fvs_set {b0 : Nat} {μ : Me} {c k : Nat} {fks : List Nat} {v : Int32} (h : fks[k]? = some 0) : (fvs b0 μ c fks).set k (.int v) = fvs b0 (uI μ c k v) c fks := by
  apply List.ext_getElem?
  intro i
  have hl : k < (fvs b0 μ c fks).length := by simp [fvs]; exact (List.getElem?_eq_some_iff.mp h).1
  by_cases hi : i = k
  · subst hi
    rw [List.getElem?_set_self hl]
    simp [fvs, List.getElem?_mapIdx, h, fv, uI, rI, upd]
  · rw [List.getElem?_set_ne (Ne.symm hi)]
    simp only [fvs, List.getElem?_mapIdx]
    cases fks[i]? with
    | none => rfl
    | some s2 =>
      simp only [Option.map_some]
      rcases s2 with _ | _ | r
      · simp [fv, uI, rI, upd, hi]
      · simp [fv, uI, rI]
      · simp [fv]
theorem fvs_setL {b0 : Nat} {μ : Me} {c k : Nat} {fks : List Nat} {v : Int64} (h : fks[k]? = some 1) : (fvs b0 μ c fks).set k (.long v) = fvs b0 (uL μ c k v) c fks := by
  apply List.ext_getElem?
  intro i
  have hl : k < (fvs b0 μ c fks).length := by simp [fvs]; exact (List.getElem?_eq_some_iff.mp h).1
  by_cases hi : i = k
  · subst hi
    rw [List.getElem?_set_self hl]
    simp [fvs, List.getElem?_mapIdx, h, fv, uL, rL, vp_updL]
  · rw [List.getElem?_set_ne (Ne.symm hi)]
    simp only [fvs, List.getElem?_mapIdx]
    cases fks[i]? with
    | none => rfl
    | some s2 =>
      simp only [Option.map_some]
      rcases s2 with _ | _ | r
      · simp [fv, uL, rL]
      · simp [fv, uL, rL, vp_updL, hi]
      · simp [fv]
theorem fvs_get {b0 : Nat} {μ : Me} {c k z : Nat} {fks : List Nat} (h : fks[k]? = some z) : (fvs b0 μ c fks)[k]? = some (fv b0 μ c k z) := by
  simp [fvs, List.getElem?_mapIdx, h]
/-- every reference field names a cell -/
theorem shp_ref : ∀ (c ci : Nat) (fks : List Nat) (k r : Nat), shp[c]? = some (.inl (ci, fks)) → fks[k]? = some (r + 2) → r < 1000 := by
  intro c ci fks k r h1 h2
  have h3 : shp.all (fun sp => match sp with | .inl q => q.2.all (fun z => decide (z < 1000)) | .inr q => decide (q.2.1 ≤ 884 ∧ q.2.2.1 + q.2.2.2 * 4 < 1000)) = true := by decide +kernel
  have h4 := List.all_eq_true.mp h3 _ (List.mem_of_getElem? h1)
  have h5 := List.all_eq_true.mp h4 _ (List.mem_of_getElem? h2)
  have := of_decide_eq_true h5
  omega
theorem shp_lt {c : Nat} {sp : Sp} (h : shp[c]? = some sp) : c < 102 := (List.getElem?_eq_some_iff.mp h).1
theorem shp_len : ∀ (c t n b s : Nat), shp[c]? = some (.inr (t, n, b, s)) → n ≤ 884 ∧ b + s * 4 < 1000 := by
  intro c t n b s h1
  have h3 : shp.all (fun sp => match sp with | .inl q => q.2.all (fun z => decide (z < 1000)) | .inr q => decide (q.2.1 ≤ 884 ∧ q.2.2.1 + q.2.2.2 * 4 < 1000)) = true := by decide +kernel
  have h4 := List.all_eq_true.mp h3 _ (List.mem_of_getElem? h1)
  exact of_decide_eq_true h4
theorem rI_ne {μ : Me} {c c' : Nat} {f : Nat → Int32} (h : c' ≠ c) : (rI μ c f).1 c' = μ.1 c' := by simp [rI, h]
theorem rI_eq {μ : Me} {c : Nat} {f : Nat → Int32} : (rI μ c f).1 c = f := by simp [rI]
theorem rI_2 {μ : Me} {c : Nat} {f : Nat → Int32} : (rI μ c f).2 = μ.2 := rfl
theorem uI_ne {μ : Me} {c c' j : Nat} {v : Int32} (h : c' ≠ c) : (uI μ c j v).1 c' = μ.1 c' := rI_ne h
theorem uI_eq {μ : Me} {c j : Nat} {v : Int32} : (uI μ c j v).1 c = upd (μ.1 c) j v := rI_eq
theorem uI_2 {μ : Me} {c j : Nat} {v : Int32} : (uI μ c j v).2 = μ.2 := rfl
theorem uI_at {μ : Me} {c j : Nat} {v : Int32} : (uI μ c j v).1 c j = v := by rw [uI_eq]; simp [upd]
theorem uI_off {μ : Me} {c j k : Nat} {v : Int32} (h : k ≠ j) : (uI μ c j v).1 c k = μ.1 c k := by rw [uI_eq]; simp [upd, h]
theorem rL_ne {μ : Me} {c c' : Nat} {f : Nat → Int64} (h : c' ≠ c) : (rL μ c f).2 c' = μ.2 c' := by simp [rL, h]
theorem rL_eq {μ : Me} {c : Nat} {f : Nat → Int64} : (rL μ c f).2 c = f := by simp [rL]
theorem uL_1 {μ : Me} {c j : Nat} {v : Int64} : (uL μ c j v).1 = μ.1 := rfl
theorem uL_ne {μ : Me} {c c' j : Nat} {v : Int64} (h : c' ≠ c) : (uL μ c j v).2 c' = μ.2 c' := rL_ne h
theorem uL_eq {μ : Me} {c j : Nat} {v : Int64} : (uL μ c j v).2 c = vp_updL (μ.2 c) j v := rL_eq
end
section
def nwm : List (String × Nat × MethodName × String) := [("SevenEights$School", 33, ⟨"SevenEights$Lesson", "<init>", "()V"⟩, "SevenEights"), ("SevenEights$School", 38, ⟨"SevenEights$Learner", "<init>", "()V"⟩, "SevenEights"), ("SevenEights", 25, ⟨"SevenEights$Text", "<init>", "()V"⟩, "SevenEights"), ("SevenEights", 32, ⟨"SevenEights$Lesson", "<init>", "()V"⟩, "SevenEights"), ("SevenEights", 39, ⟨"SevenEights$Learner", "<init>", "()V"⟩, "SevenEights"), ("SevenEights", 46, ⟨"SevenEights$Answer", "<init>", "()V"⟩, "SevenEights"), ("SevenEights", 53, ⟨"SevenEights$Plan", "<init>", "()V"⟩, "SevenEights"), ("SevenEights", 64, ⟨"SevenEights$Rows", "<init>", "()V"⟩, "SevenEights"), ("SevenEights", 86, ⟨"SevenEights$Doer", "<init>", "()V"⟩, "SevenEights"), ("SevenEights", 91, ⟨"SevenEights$Sheet", "<init>", "()V"⟩, "SevenEights"), ("SevenEights", 92, ⟨"SevenEights$Shelf", "<init>", "()V"⟩, "SevenEights"), ("SevenEights$Text", 71, ⟨"SevenEights", "pairAt", "(II)I"⟩, "SevenEights"), ("SevenEights$Learner", 28, ⟨"SevenEights", "firmAtFirst", "(I)I"⟩, "SevenEights"), ("SevenEights$Answer", 30, ⟨"SevenEights", "product", "(I)I"⟩, "SevenEights"), ("SevenEights$Answer", 60, ⟨"SevenEights", "nextDoor", "(II)I"⟩, "SevenEights"), ("SevenEights$Learner", 53, ⟨"SevenEights", "firmWhenTold", "(I)I"⟩, "SevenEights"), ("SevenEights$Learner", 68, ⟨"SevenEights", "firmBehindNights", "(IIII)I"⟩, "SevenEights"), ("SevenEights$Plan", 36, ⟨"SevenEights", "firmWhenTold", "(I)I"⟩, "SevenEights"), ("SevenEights$Plan", 40, ⟨"SevenEights", "firmBehindNights", "(IIII)I"⟩, "SevenEights"), ("SevenEights$Rows", 19, ⟨"SevenEights", "isWithin", "(II)Z"⟩, "SevenEights")]
def nwf : List (String × Nat × String × String × String × String) := [("SevenEights$Doer", 32, "SevenEights", "SAYS_BODY", "[I", "SevenEights"), ("SevenEights$Doer", 35, "SevenEights", "LEARNS_BODY", "[I", "SevenEights"), ("SevenEights$Doer", 38, "SevenEights", "SHARES_BODY", "[I", "SevenEights"), ("SevenEights$Doer", 41, "SevenEights", "TELLS_BODY", "[I", "SevenEights")]
def stn (k : Nat) : String := (["LESSER", "GREATER", "LAW_MOST", "UNDER", "SAYS_BODY", "LEARNS_BODY", "SHARES_BODY", "TELLS_BODY"] : List String).getD k ""
def sta (k : Nat) : List Int32 := ([[2, 2, 2, 2, 2, 2, 2, 2, 3, 3, 3, 3, 3, 3, 3, 4, 4, 4, 4, 4, 4, 5, 5, 5, 5, 5, 6, 6, 6, 6, 7, 7, 7, 8, 8, 9], [2, 3, 4, 5, 6, 7, 8, 9, 3, 4, 5, 6, 7, 8, 9, 4, 5, 6, 7, 8, 9, 5, 6, 7, 8, 9, 6, 7, 8, 9, 7, 8, 9, 8, 9, 9], [50, 100, 100], [-9, 0, 0, 2, 1, 0], [10, 10, 30, 40, 51, 10], [11, 20, 11, 41, 20, 11], [12, 12, 12, 12, 50, 61], [13, 13, 31, 31, 13, 60]] : List (List Int32)).getD k []
def ssx (k : Nat) : String × Nat := ([("ask", 34), ("in", 57), ("tell", 43), ("rest", 48)] : List (String × Nat)).getD k ("", 0)
def ssl : List Nat := [3, 2, 4, 4]
def ssb : List (List Int32) := [[97, 115, 107], [105, 110], [116, 101, 108, 108], [114, 101, 115, 116]]
/-- the words of the tables that last -/
def gtb : List Cond := lw_tbl.filter goodWord
theorem gtb_good : GoodIn gtb gtb := fun _ h => ⟨h, good_of_word (List.mem_filter.mp h).2⟩
theorem gi {w : Cond} (i : Nat) (h : tables_1[i]? = some w) (g : goodWord w = true) : w ∈ gtb := List.mem_filter.mpr ⟨List.mem_append_right _ (List.mem_of_getElem? h), g⟩
theorem gs {q : MethodName × Nat} (i : Nat) (h : lw_privs[i]? = some q) (g : goodWord (Cond.selects q.1.cls q.1 q.1) = true) : Cond.selects q.1.cls q.1 q.1 ∈ gtb := List.mem_filter.mpr ⟨List.mem_append_left _ (List.mem_map.mpr ⟨q, List.mem_of_getElem? h, rfl⟩), g⟩
def wsm (mt : MT) : List Cond := .code mt.1 mt.2.1 mt.2.2.1 mt.2.2.2 :: gtb
def rmD (d : Nat) : Room := { frames := d, cells := 0, slots := 0, locals := 64 * d }
abbrev flr : Value := .retAddr 0
/-- abstract references: below 1000 a cell; above: what was there before -/
def cv (b0 : Nat) (ta : Nat → Nat) (v : Value) : Value := match v with
  | .ref n => .ref (if n < 1000 then b0 + n else ta n)
  | v => v
theorem cv_cat (b0 : Nat) (ta : Nat → Nat) (v : Value) : (cv b0 ta v).category = v.category := by cases v <;> rfl
theorem cv_cats (b0 : Nat) (ta : Nat → Nat) (st : List Value) : ((st.map (cv b0 ta)).map fun v => v.category).sum = (st.map fun v => v.category).sum := by
  rw [List.map_map]
  congr 1
  apply List.map_congr_left
  intro v _
  exact cv_cat b0 ta v
def tyl (cA : Nat → ClassId) : List (ClassId × FieldType) := [(cA 0, .int), (cA 1, .byte), (cA 2, .long), (cA 3, .object R_Learner), (cA 4, .object R_Sheet), (cA 5, .object R_Shelf)]
def Kx (X : Nat × (Nat → Int32)) (D : va_G) (cA : Nat → ClassId) (ta : Nat → Nat) (b0 : Nat) (U : State) : Prop :=
  va_K D kl (tyl cA) U ∧ (∀ q ∈ nwm, va_Nw (.methodLinkNest q.1 q.2.1 q.2.2.1 q.2.2.2) U) ∧ (∀ q ∈ nwf, va_Nw (.fieldLinkNest q.1 q.2.1 q.2.2.1 q.2.2.2.1 q.2.2.2.2.1 q.2.2.2.2.2) U) ∧
  (∀ k, k < 8 → va_Z "SevenEights" (stn k) "[I" (.ref (ta (1000 + k))) (Ab b0) U U.heap ∧ va_T .int (ta (1000 + k)) (sta k).length (fun j => .int ((sta k).getD j 0)) (Ab b0) U U.heap) ∧
  (∀ k, k < 4 → vk_R "SevenEights$Text" (ssx k).2 (ssx k).1 (ta (2000 + k)) U) ∧ vk_S 4 ssl ssb (fun i => ta (2000 + i)) (fun i => ta (2100 + i)) (Ab b0) U U.heap ∧
  va_Z "java/lang/String" "COMPACT_STRINGS" "Z" (.int 1) (Ab b0) U U.heap ∧ va_X (ta 3000) X.1 X.2 U U.heap ∧ ta 3000 < U.heap.size ∧ ta 3000 < b0
theorem Kx.move {X : Nat × (Nat → Int32)} {D : va_G} {cA : Nat → ClassId} {ta : Nat → Nat} {b0 : Nat} {s U : State} {H : Heap} {locs : List Loc} (h : Kx X D cA ta b0 s) (hS : va_S (Ab b0) s.heap H locs) (hU : U.heap = H) (hW : s.WarmedH U.vm) : Kx X D cA ta b0 U := by
  obtain ⟨h1, h2, h3, h4, h5, h6, h7, h8, h9, h10⟩ := h
  subst hU
  have al := hW.alike
  refine ⟨va_K.moved al h1, fun q hq => va_Nw.warmM hW (h2 q hq), fun q hq => va_Nw.warmF hW (h3 q hq), fun k hk => ⟨((h4 k hk).1.kept hS.2.1).moved al, ((h4 k hk).2.kept hS.2.1).moved al⟩, fun k hk => (h5 k hk).warm hW, (h6.kept hS.2.1).moved al, (h7.kept hS.2.1).moved al, (h8.kept (hS.2.1 _ h9 ?_)).moved al, Nat.lt_of_lt_of_le h9 hS.1, h10⟩
  exact fun z => absurd (show b0 ≤ ta 3000 from z) (by omega)
theorem Kx.calling {X : Nat × (Nat → Int32)} {D : va_G} {cA : Nat → ClassId} {ta : Nat → Nat} {b0 : Nat} {U : State} (g : JFrame) (mk : MethodId) (a : Array Value) (h : Kx X D cA ta b0 U) : Kx X D cA ta b0 (U.calling g mk a) := by
  obtain ⟨h1, h2, h3, h4, h5, h6, h7, h8, h9, h10⟩ := h
  have al : U.vm.Alike (U.calling g mk a).vm := Vm.Alike.refl U.vm
  exact ⟨va_K.moved al h1, fun q hq => (h2 q hq).same rfl rfl, fun q hq => (h3 q hq).same rfl rfl, fun k hk => ⟨(h4 k hk).1.moved al, (h4 k hk).2.moved al⟩, fun k hk => (h5 k hk).same rfl, h6.moved al, h7.moved al, h8.moved al, h9, h10⟩
/-- the locals by place; flr: not known -/
def Lh (b0 : Nat) (ta : Nat → Nat) (lsA : Array Slot) (n : Nat) (ls : List Value) : Prop := lsA.size = n ∧ lv_wf lsA ∧ ∀ (i : Nat) (v : Value), ls[i]? = some v → v ≠ flr → lsA[i]? = some (.val (cv b0 ta v))
def kil (w : Value) : Value := match w with
  | .long _ => flr
  | .double _ => flr
  | w => w
def st1 : List Value → Nat → Value → List Value
  | [], _, _ => []
  | _ :: r, 0, v => v :: r
  | w :: r, 1, v => kil w :: st1 r 0 v
  | w :: r, i + 2, v => w :: st1 r (i + 1) v
def st2 : List Value → Nat → Value → List Value
  | [], _, _ => []
  | [_], 0, v => [v]
  | _ :: _ :: r, 0, v => v :: flr :: r
  | w :: r, 1, v => kil w :: st2 r 0 v
  | w :: r, i + 2, v => w :: st2 r (i + 1) v
theorem kil_ne {w v : Value} (h : kil w = v) (hv : v ≠ flr) : w = v ∧ w.category = 1 := by
  cases w <;> simp_all [kil, Value.category]
theorem st1_get : ∀ (ls : List Value) (i : Nat) (v w : Value) (j : Nat), (st1 ls i v)[j]? = some w → w ≠ flr → (j = i ∧ w = v) ∨ (j ≠ i ∧ ls[j]? = some w ∧ ¬ (j + 1 = i ∧ w.category = 2))
  | [], _, _, _, j, h, _ => by simp [st1] at h
  | a :: r, 0, v, w, j, h, hw => by
    cases j with
    | zero => simp [st1] at h; exact Or.inl ⟨rfl, h.symm⟩
    | succ j => simp [st1] at h; exact Or.inr ⟨by omega, by simpa using h, by omega⟩
  | a :: r, 1, v, w, j, h, hw => by
    cases j with
    | zero =>
      simp only [st1, List.getElem?_cons_zero, Option.some.injEq] at h
      obtain ⟨h1, h2⟩ := kil_ne h hw
      exact Or.inr ⟨by omega, by simp [h1], fun z => by rw [← h1] at z; omega⟩
    | succ j =>
      simp only [st1, List.getElem?_cons_succ] at h
      rcases st1_get r 0 v w j h hw with ⟨h1, h2⟩ | ⟨h1, h2, h3⟩
      · exact Or.inl ⟨by omega, h2⟩
      · exact Or.inr ⟨by omega, by simpa using h2, by omega⟩
  | a :: r, i + 2, v, w, j, h, hw => by
    cases j with
    | zero => simp [st1] at h; exact Or.inr ⟨by omega, by simp [h], by omega⟩
    | succ j =>
      simp only [st1, List.getElem?_cons_succ] at h
      rcases st1_get r (i + 1) v w j h hw with ⟨h1, h2⟩ | ⟨h1, h2, h3⟩
      · exact Or.inl ⟨by omega, h2⟩
      · exact Or.inr ⟨by omega, by simpa using h2, fun z => h3 ⟨by omega, z.2⟩⟩
theorem st2_get : ∀ (ls : List Value) (i : Nat) (v w : Value) (j : Nat), (st2 ls i v)[j]? = some w → w ≠ flr → (j = i ∧ w = v) ∨ (j ≠ i ∧ j ≠ i + 1 ∧ ls[j]? = some w ∧ ¬ (j + 1 = i ∧ w.category = 2))
  | [], _, _, _, j, h, _ => by simp [st2] at h
  | [a], 0, v, w, j, h, hw => by
    cases j with
    | zero => simp [st2] at h; exact Or.inl ⟨rfl, h.symm⟩
    | succ j => simp [st2] at h
  | a :: b :: r, 0, v, w, j, h, hw => by
    rcases j with _ | _ | j
    · simp [st2] at h; exact Or.inl ⟨rfl, h.symm⟩
    · simp [st2] at h; exact absurd h.symm hw
    · simp [st2] at h; exact Or.inr ⟨by omega, by omega, by simpa using h, by omega⟩
  | a :: r, 1, v, w, j, h, hw => by
    cases j with
    | zero =>
      simp only [st2, List.getElem?_cons_zero, Option.some.injEq] at h
      obtain ⟨h1, h2⟩ := kil_ne h hw
      exact Or.inr ⟨by omega, by omega, by simp [h1], fun z => by rw [← h1] at z; omega⟩
    | succ j =>
      simp only [st2, List.getElem?_cons_succ] at h
      rcases st2_get r 0 v w j h hw with ⟨h1, h2⟩ | ⟨h1, h4, h2, h3⟩
      · exact Or.inl ⟨by omega, h2⟩
      · exact Or.inr ⟨by omega, by omega, by simpa using h2, by omega⟩
  | a :: r, i + 2, v, w, j, h, hw => by
    cases j with
    | zero => simp [st2] at h; exact Or.inr ⟨by omega, by omega, by simp [h], by omega⟩
    | succ j =>
      simp only [st2, List.getElem?_cons_succ] at h
      rcases st2_get r (i + 1) v w j h hw with ⟨h1, h2⟩ | ⟨h1, h4, h2, h3⟩
      · exact Or.inl ⟨by omega, h2⟩
      · exact Or.inr ⟨by omega, by omega, by simpa using h2, fun z => h3 ⟨by omega, z.2⟩⟩
def lvl (b0 : Nat) (ta : Nat → Nat) (ls : List Value) : List (Nat × Value) := (ls.zipIdx.filter (fun q => decide (q.1 ≠ flr))).map (fun q => (q.2, cv b0 ta q.1))
theorem Lh.has {b0 : Nat} {ta : Nat → Nat} {lsA : Array Slot} {n : Nat} {ls : List Value} (h : Lh b0 ta lsA n ls) : lv_has lsA n (lvl b0 ta ls) := by
  refine ⟨h.1, h.2.1, fun q hq => ?_⟩
  simp only [lvl, List.mem_map, List.mem_filter, decide_eq_true_eq] at hq
  obtain ⟨⟨v, i⟩, ⟨h1, h2⟩, rfl⟩ := hq
  exact h.2.2 i v (by simpa using List.mem_zipIdx_iff_getElem?.mp h1) h2
theorem lvl_mem {b0 : Nat} {ta : Nat → Nat} {ls : List Value} {j : Nat} {w : Value} (h : ls[j]? = some w) (hw : w ≠ flr) : (j, cv b0 ta w) ∈ lvl b0 ta ls := by
  simp only [lvl, List.mem_map, List.mem_filter, decide_eq_true_eq]
  exact ⟨(w, j), ⟨List.mem_zipIdx_iff_getElem?.mpr (by simpa using h), hw⟩, rfl⟩
theorem Lh.st1 {b0 : Nat} {ta : Nat → Nat} {lsA : Array Slot} {n i : Nat} {ls : List Value} {v : Value} (h : lv_has lsA n ((i, cv b0 ta v) :: (lvl b0 ta ls).filter (fun q => !(q.1 == i) && !(q.1 + 1 == i && q.2.category == 2)))) : Lh b0 ta lsA n (st1 ls i v) := by
  refine ⟨h.1, h.2.1, fun j w hj hw => ?_⟩
  rcases st1_get ls i v w j hj hw with ⟨rfl, rfl⟩ | ⟨h1, h2, h3⟩
  · exact h.2.2 _ (List.mem_cons_self)
  · refine h.2.2 (j, cv b0 ta w) (List.mem_cons_of_mem _ (List.mem_filter.mpr ⟨lvl_mem h2 hw, ?_⟩))
    simp only [cv_cat, Bool.and_eq_true, Bool.not_eq_true', beq_eq_false_iff_ne, ne_eq, Bool.and_eq_false_iff]
    refine ⟨h1, ?_⟩
    by_cases hz : j + 1 = i
    · exact Or.inr (fun z => h3 ⟨hz, z⟩)
    · exact Or.inl hz
theorem Lh.st2 {b0 : Nat} {ta : Nat → Nat} {lsA : Array Slot} {n i : Nat} {ls : List Value} {v : Value} (h : lv_has lsA n ((i, cv b0 ta v) :: (lvl b0 ta ls).filter (fun q => !(q.1 == i) && (!(q.1 == i + 1) && !(q.1 + 1 == i && q.2.category == 2))))) : Lh b0 ta lsA n (st2 ls i v) := by
  refine ⟨h.1, h.2.1, fun j w hj hw => ?_⟩
  rcases st2_get ls i v w j hj hw with ⟨rfl, rfl⟩ | ⟨h1, h4, h2, h3⟩
  · exact h.2.2 _ (List.mem_cons_self)
  · refine h.2.2 (j, cv b0 ta w) (List.mem_cons_of_mem _ (List.mem_filter.mpr ⟨lvl_mem h2 hw, ?_⟩))
    simp only [cv_cat, Bool.and_eq_true, Bool.not_eq_true', beq_eq_false_iff_ne, ne_eq, Bool.and_eq_false_iff]
    refine ⟨h1, h4, ?_⟩
    by_cases hz : j + 1 = i
    · exact Or.inr (fun z => h3 ⟨hz, z⟩)
    · exact Or.inl hz
/-- what stays while a method runs -/
def Cx (X : Nat × (Nat → Int32)) (mt : MT) (d : Nat) (p : Program) (R : Room) (s : State) (m : MethodId) (args : Array Value) (c : Code) (D : va_G) (cA : Nat → ClassId) (ta : Nat → Nat) (b0 cells slots : Nat) : Prop :=
  p.tables.exec = Jvm.exec ∧ c.code = mt.2.1 ∧ c.maxLocals = mt.2.2.1 ∧ s.vm.findClass mt.1.cls = some m.cls ∧ (∀ w ∈ gtb, w.before args s = true) ∧ Kx X D cA ta b0 s ∧ d ≤ R.frames ∧ 64 * d ≤ R.locals ∧ cells ≤ R.cells ∧ slots ≤ R.slots
/-- at a return: the answer and the instruction fit -/
def Rt (mt : MT) (pc : Nat) (r : Option Value) : Prop := (r = none ∧ mt.2.2.2 = none ∧ decode mt.2.1 pc = .ok (.return_, 1)) ∨ (∃ (v : Int32) (ty : FieldType), r = some (.int v) ∧ mt.2.2.2 = some ty ∧ narrow ty (.int v) = .int v ∧ decode mt.2.1 pc = .ok (.ireturn, 1)) ∨ (∃ v : Int64, r = some (.long v) ∧ mt.2.2.2 = some .long ∧ decode mt.2.1 pc = .ok (.lreturn, 1)) ∨ ((r = some .null ∨ ∃ n, r = some (.ref n)) ∧ (∃ n, mt.2.2.2 = some (.object n)) ∧ decode mt.2.1 pc = .ok (.areturn, 1))
/-- from here the method comes to a return with Q -/
def Wa (X : Nat × (Nat → Int32)) (mt : MT) (d pc : Nat) (ls st : List Value) (μ : Me) (Q : Option Value → Me → Prop) : Prop :=
  ∀ (p : Program) (l : Launch) (e : Env) (R : Room) (s : State) (m : MethodId) (args : Array Value) (below : List Frame) (meth : Method) (c : Code) (D : va_G) (cA : Nat → ClassId) (ta : Nat → Nat) (b0 : Nat) (H : Heap) (locs : List Loc) (lsA : Array Slot) (cells slots : Nat) (Fin : State → Prop),
    Cx X mt d p R s m args c D cA ta b0 cells slots → va_P D kl (wl b0 cA μ) H → va_S (Ab b0) s.heap H locs → Lh b0 ta lsA mt.2.2.1 ls →
    (∀ (r : Option Value) (μ' : Me) (H' : Heap) (locs' : List Loc) (pc' : Nat) (lsA' : Array Slot), Q r μ' → va_P D kl (wl b0 cA μ') H' → va_S (Ab b0) s.heap H' locs' → Rt mt pc' r → W p l e R s m args below meth c H' locs' cells slots Fin (F0 m pc' lsA' (r.toList.map (cv b0 ta)))) →
    W p l e R s m args below meth c H locs cells slots Fin (F0 m pc lsA (st.map (cv b0 ta)))
def Pcx (X : Nat × (Nat → Int32)) (D : va_G) (cA : Nat → ClassId) (ta : Nat → Nat) (b0 : Nat) (avs : List Value) (μ : Me) : Array Value → State → Prop := va_Pc (avs.map (cv b0 ta)) (fun U => va_P D kl (wl b0 cA μ) U.heap ∧ Kx X D cA ta b0 U)
def Qcx (D : va_G) (cA : Nat → ClassId) (ta : Nat → Nat) (b0 : Nat) (post : Option Value → Me → Prop) : Array Value → State → Outcome → State → Prop := fun _ st oc t => (∃ (r : Option Value) (μ' : Me), oc = .returned (r.map (cv b0 ta)) ∧ post r μ' ∧ va_P D kl (wl b0 cA μ') t.heap) ∧ va_F (Ab b0) st t
/-- a method's contract: from the memory μ, with these arguments, it returns with post -/
def Ct (mt : MT) (d : Nat) (avs : List Value) (μ : Me) (post : Option Value → Me → Prop) : Prop :=
  ∀ (l : Launch) (X : Nat × (Nat → Int32)) (D : va_G) (cA : Nat → ClassId) (ta : Nat → Nat) (b0 : Nat), Met l mt.1 (wsm mt) (rmD d) (Pcx X D cA ta b0 avs μ) (Qcx D cA ta b0 post) 0 0 (Ab b0)
theorem Pcx.blind {X : Nat × (Nat → Int32)} {D : va_G} {cA : Nat → ClassId} {ta : Nat → Nat} {b0 : Nat} {avs : List Value} {μ : Me} : FrameBlind (Pcx X D cA ta b0 avs μ) := fun a U g mk q => ⟨q.1, q.2.1, q.2.2.calling g mk a⟩
def sl : List Value → List Value
  | [] => []
  | .long v :: r => .long v :: flr :: sl r
  | .double v :: r => .double v :: flr :: sl r
  | v :: r => v :: sl r
theorem lg_sl_cons (v : Value) (r : List Value) : lg_sl (v :: r) = (if v.category = 2 then [.val v, .second] else [.val v]) ++ lg_sl r := by simp [lg_sl]
theorem sl_len (b0 : Nat) (ta : Nat → Nat) : ∀ avs : List Value, (lg_sl (avs.map (cv b0 ta))).length = (sl avs).length
  | [] => rfl
  | v :: r => by
    have ih := sl_len b0 ta r
    rw [List.map_cons, lg_sl_cons]
    cases v <;> simp [cv, sl, Value.category, ih] <;> omega
theorem sl_at (b0 : Nat) (ta : Nat → Nat) : ∀ (avs : List Value) (i : Nat) (v : Value), (sl avs)[i]? = some v → v ≠ flr → (lg_sl (avs.map (cv b0 ta)))[i]? = some (.val (cv b0 ta v))
  | [], i, v, h, _ => by simp [sl] at h
  | a :: r, i, v, h, hv => by
    have ih := sl_at b0 ta r
    rw [List.map_cons, lg_sl_cons]
    cases a with
    | long z =>
      rcases i with _ | _ | i
      · simp [sl] at h; subst h; simp [cv, Value.category]
      · simp [sl] at h; exact absurd h.symm hv
      · simp [sl] at h; simpa [cv, Value.category] using ih i v h hv
    | double z =>
      rcases i with _ | _ | i
      · simp [sl] at h; subst h; simp [cv, Value.category]
      · simp [sl] at h; exact absurd h.symm hv
      · simp [sl] at h; simpa [cv, Value.category] using ih i v h hv
    | _ =>
      rcases i with _ | i
      · simp [sl] at h; subst h; simp [cv, Value.category]
      · simp [sl] at h; simpa [cv, Value.category] using ih i v h hv
theorem Ct.of {mt : MT} {d : Nat} {avs ls : List Value} {μ : Me} {post : Option Value → Me → Prop} (hp : plainName mt.1.cls = true) (hle : (sl avs).length ≤ mt.2.2.1) (hls : sl avs ++ List.replicate (mt.2.2.1 - (sl avs).length) flr = ls)
    (h : ∀ X, Wa X mt d 0 ls [] μ post) : Ct mt d avs μ post := by
  intro l X D cA ta b0
  refine Met.ofW (cc := mt.2.1) (maxL := mt.2.2.1) (ret := mt.2.2.2) hp rfl ?_
  intro p e s m args below meth c s₁ B hml hv
  obtain ⟨rfl, hP, hK⟩ := hv
  have hts := atoms_spec (ws := wsm mt) B.pre
  have hown : s.vm.findClass mt.1.cls = some m.cls := findClass_of_methodNamed B.named
  have hlocks := B.notSynchronized
  have hret := B.returns
  rw [lg_entry_eq]
  refine h X p l e _ s m _ below meth c D cA ta b0 s.heap [] _ 0 0 _ ⟨B.exec, B.bytes, hml, hown, fun w hw => hts w (List.mem_cons_of_mem _ hw), hK, Nat.le_refl _, Nat.le_refl _, Nat.le_refl _, Nat.le_refl _⟩ hP va_S.rf ?_ ?_
  · have hh := lv_entry (avs.map (cv b0 ta)) (n := mt.2.2.1) (by rw [sl_len]; exact hle)
    refine ⟨hh.1, hh.2.1, fun i v hi hv => ?_⟩
    rw [← hls] at hi
    by_cases hlt : i < (sl avs).length
    · rw [List.getElem?_append_left hlt] at hi
      have := sl_at b0 ta avs i v hi hv
      rw [List.getElem?_toArray, List.getElem?_append_left (by rw [sl_len]; exact hlt)]
      exact this
    · rw [List.getElem?_append_right (by omega)] at hi
      exact absurd (List.eq_of_mem_replicate (List.mem_of_getElem? hi)) hv
  · intro r μ' H' locs' pc' lsA' hQ hP' hS' hR
    have hfin : ∀ t : State, t.heap = H' → s.WarmedH t.vm → Qcx D cA ta b0 post (avs.map (cv b0 ta)).toArray s (.returned (r.map (cv b0 ta))) t := fun t ht _ => ⟨⟨r, μ', rfl, hQ, by rw [ht]; exact hP'⟩, hS'.F ht⟩
    rcases hR with ⟨rfl, h2, hd⟩ | ⟨v, ty, rfl, h2, hn, hd⟩ | ⟨v, rfl, h2, hd⟩ | ⟨hv, ⟨n, h2⟩, hd⟩
    · exact W.vret B.exec B.bytes (hret.trans h2) hfin hS'.2.2 hd hlocks
    · exact W.zret B.exec B.bytes (hret.trans h2) hn hfin hS'.2.2 hd hlocks
    · exact W.lret B.exec B.bytes (hret.trans h2) hfin hS'.2.2 hd hlocks
    · rcases hv with rfl | ⟨k, rfl⟩
      · exact W.aret B.exec B.bytes (hret.trans h2) (Or.inl ⟨n, rfl⟩) (Or.inl rfl) hfin hS'.2.2 hd hlocks
      · exact W.aret B.exec B.bytes (hret.trans h2) (Or.inl ⟨n, rfl⟩) (Or.inr ⟨_, rfl⟩) hfin hS'.2.2 hd hlocks
end
section
/-! the rules: an instruction, a row -/
def Dc (mt : MT) (pc : Nat) (i : Instr) (len n : Nat) : Prop := decode mt.2.1 pc = .ok (i, len) ∧ pc + len = n
def Dj (mt : MT) (pc : Nat) (i : Int → Instr) (n tgt : Nat) : Prop := ∃ off : Int, decode mt.2.1 pc = .ok (i off, 3) ∧ pc + 3 = n ∧ (pc : Int) + off = (tgt : Int)
section Rules
variable {X : Nat × (Nat → Int32)} {mt : MT} {d pc n : Nat} {ls st : List Value} {μ : Me} {Q : Option Value → Me → Prop}
theorem r_iadd {x y : Int32} (hd : Dc mt pc .iadd 1 n) (k : Wa X mt d n ls (.int (x + y) :: st) μ Q) : Wa X mt d pc ls (.int y :: .int x :: st) μ Q := by
  intro p l e R s m args below meth c D cA ta b0 H locs lsA cells slots Fin C hP hS hl hF
  obtain ⟨hd, rfl⟩ := hd
  exact lv_iadd C.1 C.2.1 hd (k p l e R s m args below meth c D cA ta b0 H locs lsA cells slots Fin C hP hS hl hF)
theorem r_isub {x y : Int32} (hd : Dc mt pc .isub 1 n) (k : Wa X mt d n ls (.int (x - y) :: st) μ Q) : Wa X mt d pc ls (.int y :: .int x :: st) μ Q := by
  intro p l e R s m args below meth c D cA ta b0 H locs lsA cells slots Fin C hP hS hl hF
  obtain ⟨hd, rfl⟩ := hd
  exact lv_isub C.1 C.2.1 hd (k p l e R s m args below meth c D cA ta b0 H locs lsA cells slots Fin C hP hS hl hF)
theorem r_imul {x y : Int32} (hd : Dc mt pc .imul 1 n) (k : Wa X mt d n ls (.int (x * y) :: st) μ Q) : Wa X mt d pc ls (.int y :: .int x :: st) μ Q := by
  intro p l e R s m args below meth c D cA ta b0 H locs lsA cells slots Fin C hP hS hl hF
  obtain ⟨hd, rfl⟩ := hd
  exact lv_imul C.1 C.2.1 hd (k p l e R s m args below meth c D cA ta b0 H locs lsA cells slots Fin C hP hS hl hF)
theorem r_iand {x y : Int32} (hd : Dc mt pc .iand 1 n) (k : Wa X mt d n ls (.int (x &&& y) :: st) μ Q) : Wa X mt d pc ls (.int y :: .int x :: st) μ Q := by
  intro p l e R s m args below meth c D cA ta b0 H locs lsA cells slots Fin C hP hS hl hF
  obtain ⟨hd, rfl⟩ := hd
  exact lv_iand C.1 C.2.1 hd (k p l e R s m args below meth c D cA ta b0 H locs lsA cells slots Fin C hP hS hl hF)
theorem r_ior {x y : Int32} (hd : Dc mt pc .ior 1 n) (k : Wa X mt d n ls (.int (x ||| y) :: st) μ Q) : Wa X mt d pc ls (.int y :: .int x :: st) μ Q := by
  intro p l e R s m args below meth c D cA ta b0 H locs lsA cells slots Fin C hP hS hl hF
  obtain ⟨hd, rfl⟩ := hd
  exact lv_ior C.1 C.2.1 hd (k p l e R s m args below meth c D cA ta b0 H locs lsA cells slots Fin C hP hS hl hF)
theorem r_ixor {x y : Int32} (hd : Dc mt pc .ixor 1 n) (k : Wa X mt d n ls (.int (x ^^^ y) :: st) μ Q) : Wa X mt d pc ls (.int y :: .int x :: st) μ Q := by
  intro p l e R s m args below meth c D cA ta b0 H locs lsA cells slots Fin C hP hS hl hF
  obtain ⟨hd, rfl⟩ := hd
  exact lv_ixor C.1 C.2.1 hd (k p l e R s m args below meth c D cA ta b0 H locs lsA cells slots Fin C hP hS hl hF)
theorem r_ishl {x y : Int32} (hd : Dc mt pc .ishl 1 n) (k : Wa X mt d n ls (.int (x <<< (y &&& 31)) :: st) μ Q) : Wa X mt d pc ls (.int y :: .int x :: st) μ Q := by
  intro p l e R s m args below meth c D cA ta b0 H locs lsA cells slots Fin C hP hS hl hF
  obtain ⟨hd, rfl⟩ := hd
  exact lv_ishl C.1 C.2.1 hd (k p l e R s m args below meth c D cA ta b0 H locs lsA cells slots Fin C hP hS hl hF)
theorem r_ishr {x y : Int32} (hd : Dc mt pc .ishr 1 n) (k : Wa X mt d n ls (.int (x >>> (y &&& 31)) :: st) μ Q) : Wa X mt d pc ls (.int y :: .int x :: st) μ Q := by
  intro p l e R s m args below meth c D cA ta b0 H locs lsA cells slots Fin C hP hS hl hF
  obtain ⟨hd, rfl⟩ := hd
  exact lv_ishr C.1 C.2.1 hd (k p l e R s m args below meth c D cA ta b0 H locs lsA cells slots Fin C hP hS hl hF)
theorem r_iushr {x y : Int32} (hd : Dc mt pc .iushr 1 n) (k : Wa X mt d n ls (.int ((x.toUInt32 >>> (y.toUInt32 &&& Int32.toUInt32 31)).toInt32) :: st) μ Q) : Wa X mt d pc ls (.int y :: .int x :: st) μ Q := by
  intro p l e R s m args below meth c D cA ta b0 H locs lsA cells slots Fin C hP hS hl hF
  obtain ⟨hd, rfl⟩ := hd
  exact lv_iushr C.1 C.2.1 hd rfl (k p l e R s m args below meth c D cA ta b0 H locs lsA cells slots Fin C hP hS hl hF)
theorem r_idiv {x y : Int32} (hd : Dc mt pc .idiv 1 n) (hy : ¬ y = 0) (k : Wa X mt d n ls (.int (x / y) :: st) μ Q) : Wa X mt d pc ls (.int y :: .int x :: st) μ Q := by
  intro p l e R s m args below meth c D cA ta b0 H locs lsA cells slots Fin C hP hS hl hF
  obtain ⟨hd, rfl⟩ := hd
  exact lv_idiv C.1 C.2.1 hd hy (k p l e R s m args below meth c D cA ta b0 H locs lsA cells slots Fin C hP hS hl hF)
theorem r_irem {x y : Int32} (hd : Dc mt pc .irem 1 n) (hy : ¬ y = 0) (k : Wa X mt d n ls (.int (x - x / y * y) :: st) μ Q) : Wa X mt d pc ls (.int y :: .int x :: st) μ Q := by
  intro p l e R s m args below meth c D cA ta b0 H locs lsA cells slots Fin C hP hS hl hF
  obtain ⟨hd, rfl⟩ := hd
  exact lv_irem C.1 C.2.1 hd hy (k p l e R s m args below meth c D cA ta b0 H locs lsA cells slots Fin C hP hS hl hF)
theorem r_ladd {x y : Int64} (hd : Dc mt pc .ladd 1 n) (k : Wa X mt d n ls (.long (x + y) :: st) μ Q) : Wa X mt d pc ls (.long y :: .long x :: st) μ Q := by
  intro p l e R s m args below meth c D cA ta b0 H locs lsA cells slots Fin C hP hS hl hF
  obtain ⟨hd, rfl⟩ := hd
  exact lv_ladd C.1 C.2.1 hd (k p l e R s m args below meth c D cA ta b0 H locs lsA cells slots Fin C hP hS hl hF)
theorem r_lsub {x y : Int64} (hd : Dc mt pc .lsub 1 n) (k : Wa X mt d n ls (.long (x - y) :: st) μ Q) : Wa X mt d pc ls (.long y :: .long x :: st) μ Q := by
  intro p l e R s m args below meth c D cA ta b0 H locs lsA cells slots Fin C hP hS hl hF
  obtain ⟨hd, rfl⟩ := hd
  exact lv_lsub C.1 C.2.1 hd (k p l e R s m args below meth c D cA ta b0 H locs lsA cells slots Fin C hP hS hl hF)
theorem r_lmul {x y : Int64} (hd : Dc mt pc .lmul 1 n) (k : Wa X mt d n ls (.long (x * y) :: st) μ Q) : Wa X mt d pc ls (.long y :: .long x :: st) μ Q := by
  intro p l e R s m args below meth c D cA ta b0 H locs lsA cells slots Fin C hP hS hl hF
  obtain ⟨hd, rfl⟩ := hd
  exact lv_lmul C.1 C.2.1 hd (k p l e R s m args below meth c D cA ta b0 H locs lsA cells slots Fin C hP hS hl hF)
theorem r_land {x y : Int64} (hd : Dc mt pc .land 1 n) (k : Wa X mt d n ls (.long (x &&& y) :: st) μ Q) : Wa X mt d pc ls (.long y :: .long x :: st) μ Q := by
  intro p l e R s m args below meth c D cA ta b0 H locs lsA cells slots Fin C hP hS hl hF
  obtain ⟨hd, rfl⟩ := hd
  exact lv_land C.1 C.2.1 hd (k p l e R s m args below meth c D cA ta b0 H locs lsA cells slots Fin C hP hS hl hF)
theorem r_lor {x y : Int64} (hd : Dc mt pc .lor 1 n) (k : Wa X mt d n ls (.long (x ||| y) :: st) μ Q) : Wa X mt d pc ls (.long y :: .long x :: st) μ Q := by
  intro p l e R s m args below meth c D cA ta b0 H locs lsA cells slots Fin C hP hS hl hF
  obtain ⟨hd, rfl⟩ := hd
  exact lv_lor C.1 C.2.1 hd (k p l e R s m args below meth c D cA ta b0 H locs lsA cells slots Fin C hP hS hl hF)
theorem r_lxor {x y : Int64} (hd : Dc mt pc .lxor 1 n) (k : Wa X mt d n ls (.long (x ^^^ y) :: st) μ Q) : Wa X mt d pc ls (.long y :: .long x :: st) μ Q := by
  intro p l e R s m args below meth c D cA ta b0 H locs lsA cells slots Fin C hP hS hl hF
  obtain ⟨hd, rfl⟩ := hd
  exact lv_lxor C.1 C.2.1 hd (k p l e R s m args below meth c D cA ta b0 H locs lsA cells slots Fin C hP hS hl hF)
theorem r_lshl {x : Int64} {y : Int32} (hd : Dc mt pc .lshl 1 n) (k : Wa X mt d n ls (.long (x <<< (y.toInt64 &&& 63)) :: st) μ Q) : Wa X mt d pc ls (.int y :: .long x :: st) μ Q := by
  intro p l e R s m args below meth c D cA ta b0 H locs lsA cells slots Fin C hP hS hl hF
  obtain ⟨hd, rfl⟩ := hd
  exact lv_lshl C.1 C.2.1 hd rfl (k p l e R s m args below meth c D cA ta b0 H locs lsA cells slots Fin C hP hS hl hF)
theorem r_lshr {x : Int64} {y : Int32} (hd : Dc mt pc .lshr 1 n) (k : Wa X mt d n ls (.long (x >>> (y.toInt64 &&& 63)) :: st) μ Q) : Wa X mt d pc ls (.int y :: .long x :: st) μ Q := by
  intro p l e R s m args below meth c D cA ta b0 H locs lsA cells slots Fin C hP hS hl hF
  obtain ⟨hd, rfl⟩ := hd
  exact lv_lshr C.1 C.2.1 hd rfl (k p l e R s m args below meth c D cA ta b0 H locs lsA cells slots Fin C hP hS hl hF)
theorem r_lushr {x : Int64} {y : Int32} (hd : Dc mt pc .lushr 1 n) (k : Wa X mt d n ls (.long ((x.toUInt64 >>> (y.toInt64.toUInt64 &&& Int64.toUInt64 63)).toInt64) :: st) μ Q) : Wa X mt d pc ls (.int y :: .long x :: st) μ Q := by
  intro p l e R s m args below meth c D cA ta b0 H locs lsA cells slots Fin C hP hS hl hF
  obtain ⟨hd, rfl⟩ := hd
  exact lv_lushr C.1 C.2.1 hd rfl (k p l e R s m args below meth c D cA ta b0 H locs lsA cells slots Fin C hP hS hl hF)
theorem r_lcmp {x y : Int64} (hd : Dc mt pc .lcmp 1 n) (k : Wa X mt d n ls (.int (lg_cmp x y) :: st) μ Q) : Wa X mt d pc ls (.long y :: .long x :: st) μ Q := by
  intro p l e R s m args below meth c D cA ta b0 H locs lsA cells slots Fin C hP hS hl hF
  obtain ⟨hd, rfl⟩ := hd
  exact W.lcmp C.1 C.2.1 hd (k p l e R s m args below meth c D cA ta b0 H locs lsA cells slots Fin C hP hS hl hF)
theorem r_i2l {x : Int32} (hd : Dc mt pc .i2l 1 n) (k : Wa X mt d n ls (.long x.toInt64 :: st) μ Q) : Wa X mt d pc ls (.int x :: st) μ Q := by
  intro p l e R s m args below meth c D cA ta b0 H locs lsA cells slots Fin C hP hS hl hF
  obtain ⟨hd, rfl⟩ := hd
  exact lv_i2l C.1 C.2.1 hd rfl (k p l e R s m args below meth c D cA ta b0 H locs lsA cells slots Fin C hP hS hl hF)
theorem r_l2i {x : Int64} (hd : Dc mt pc .l2i 1 n) (k : Wa X mt d n ls (.int x.toInt32 :: st) μ Q) : Wa X mt d pc ls (.long x :: st) μ Q := by
  intro p l e R s m args below meth c D cA ta b0 H locs lsA cells slots Fin C hP hS hl hF
  obtain ⟨hd, rfl⟩ := hd
  exact lv_l2i C.1 C.2.1 hd rfl (k p l e R s m args below meth c D cA ta b0 H locs lsA cells slots Fin C hP hS hl hF)
theorem r_i2b {x : Int32} (hd : Dc mt pc .i2b 1 n) (k : Wa X mt d n ls (.int x.toInt8.toInt32 :: st) μ Q) : Wa X mt d pc ls (.int x :: st) μ Q := by
  intro p l e R s m args below meth c D cA ta b0 H locs lsA cells slots Fin C hP hS hl hF
  obtain ⟨hd, rfl⟩ := hd
  exact lv_i2b C.1 C.2.1 hd rfl (k p l e R s m args below meth c D cA ta b0 H locs lsA cells slots Fin C hP hS hl hF)
theorem r_i2s {x : Int32} (hd : Dc mt pc .i2s 1 n) (k : Wa X mt d n ls (.int x.toInt16.toInt32 :: st) μ Q) : Wa X mt d pc ls (.int x :: st) μ Q := by
  intro p l e R s m args below meth c D cA ta b0 H locs lsA cells slots Fin C hP hS hl hF
  obtain ⟨hd, rfl⟩ := hd
  exact lv_i2s C.1 C.2.1 hd rfl (k p l e R s m args below meth c D cA ta b0 H locs lsA cells slots Fin C hP hS hl hF)
theorem r_iconst {z : Int} (v : Int32) (hd : Dc mt pc (.iconst z) 1 n) (hv : Int32.ofInt z = v) (k : Wa X mt d n ls (.int v :: st) μ Q) : Wa X mt d pc ls (st) μ Q := by
  intro p l e R s m args below meth c D cA ta b0 H locs lsA cells slots Fin C hP hS hl hF
  obtain ⟨hd, rfl⟩ := hd
  exact lv_iconst C.1 C.2.1 hd hv (k p l e R s m args below meth c D cA ta b0 H locs lsA cells slots Fin C hP hS hl hF)
theorem r_bipush {z : Int} (v : Int32) (hd : Dc mt pc (.bipush z) 2 n) (hv : (Int8.ofInt z).toInt32 = v) (k : Wa X mt d n ls (.int v :: st) μ Q) : Wa X mt d pc ls (st) μ Q := by
  intro p l e R s m args below meth c D cA ta b0 H locs lsA cells slots Fin C hP hS hl hF
  obtain ⟨hd, rfl⟩ := hd
  exact lv_bipush C.1 C.2.1 hd hv (k p l e R s m args below meth c D cA ta b0 H locs lsA cells slots Fin C hP hS hl hF)
theorem r_sipush {z : Int} (v : Int32) (hd : Dc mt pc (.sipush z) 3 n) (hv : (Int16.ofInt z).toInt32 = v) (k : Wa X mt d n ls (.int v :: st) μ Q) : Wa X mt d pc ls (st) μ Q := by
  intro p l e R s m args below meth c D cA ta b0 H locs lsA cells slots Fin C hP hS hl hF
  obtain ⟨hd, rfl⟩ := hd
  exact lv_sipush C.1 C.2.1 hd hv (k p l e R s m args below meth c D cA ta b0 H locs lsA cells slots Fin C hP hS hl hF)
theorem r_lconst {z : Fin 2} (v : Int64) (hd : Dc mt pc (.lconst z) 1 n) (hv : Int64.ofInt z.val = v) (k : Wa X mt d n ls (.long v :: st) μ Q) : Wa X mt d pc ls (st) μ Q := by
  intro p l e R s m args below meth c D cA ta b0 H locs lsA cells slots Fin C hP hS hl hF
  obtain ⟨hd, rfl⟩ := hd
  exact lv_lconst C.1 C.2.1 hd hv (k p l e R s m args below meth c D cA ta b0 H locs lsA cells slots Fin C hP hS hl hF)
theorem r_null  (hd : Dc mt pc .aconst_null 1 n) (k : Wa X mt d n ls (.null :: st) μ Q) : Wa X mt d pc ls (st) μ Q := by
  intro p l e R s m args below meth c D cA ta b0 H locs lsA cells slots Fin C hP hS hl hF
  obtain ⟨hd, rfl⟩ := hd
  exact lv_null C.1 C.2.1 hd (k p l e R s m args below meth c D cA ta b0 H locs lsA cells slots Fin C hP hS hl hF)
theorem r_dup {v : Value} (hd : Dc mt pc .dup 1 n) (hv : v.category = 1) (k : Wa X mt d n ls (v :: v :: st) μ Q) : Wa X mt d pc ls (v :: st) μ Q := by
  intro p l e R s m args below meth c D cA ta b0 H locs lsA cells slots Fin C hP hS hl hF
  obtain ⟨hd, rfl⟩ := hd
  exact lv_dup C.1 C.2.1 hd ((cv_cat b0 ta v).trans hv) (k p l e R s m args below meth c D cA ta b0 H locs lsA cells slots Fin C hP hS hl hF)
theorem r_pop {v : Value} (hd : Dc mt pc .pop 1 n) (hv : v.category = 1) (k : Wa X mt d n ls st μ Q) : Wa X mt d pc ls (v :: st) μ Q := by
  intro p l e R s m args below meth c D cA ta b0 H locs lsA cells slots Fin C hP hS hl hF
  obtain ⟨hd, rfl⟩ := hd
  exact lv_pop C.1 C.2.1 hd ((cv_cat b0 ta v).trans hv) (k p l e R s m args below meth c D cA ta b0 H locs lsA cells slots Fin C hP hS hl hF)
theorem r_dup_x1 {v w : Value} (hd : Dc mt pc .dup_x1 1 n) (hv : v.category = 1) (hw : w.category = 1) (k : Wa X mt d n ls (v :: w :: v :: st) μ Q) : Wa X mt d pc ls (v :: w :: st) μ Q := by
  intro p l e R s m args below meth c D cA ta b0 H locs lsA cells slots Fin C hP hS hl hF
  obtain ⟨hd, rfl⟩ := hd
  exact lv_dup_x1 C.1 C.2.1 hd ((cv_cat b0 ta v).trans hv) ((cv_cat b0 ta w).trans hw) (k p l e R s m args below meth c D cA ta b0 H locs lsA cells slots Fin C hP hS hl hF)
theorem r_dup2 {v w : Value} (hd : Dc mt pc .dup2 1 n) (hv : v.category = 1) (hw : w.category = 1) (k : Wa X mt d n ls (v :: w :: v :: w :: st) μ Q) : Wa X mt d pc ls (v :: w :: st) μ Q := by
  intro p l e R s m args below meth c D cA ta b0 H locs lsA cells slots Fin C hP hS hl hF
  obtain ⟨hd, rfl⟩ := hd
  exact lv_dup2_11 C.1 C.2.1 hd ((cv_cat b0 ta v).trans hv) ((cv_cat b0 ta w).trans hw) (k p l e R s m args below meth c D cA ta b0 H locs lsA cells slots Fin C hP hS hl hF)
theorem r_iload_n (i : Nat) {j : Fin 4} {x : Int32} (hd : Dc mt pc (.iload_n j) 1 n) (hj : (j : Nat) = i) (hi : ls[i]? = some (.int x)) (k : Wa X mt d n ls (.int x :: st) μ Q) : Wa X mt d pc ls st μ Q := by
  intro p l e R s m args below meth c D cA ta b0 H locs lsA cells slots Fin C hP hS hl hF
  obtain ⟨hd, rfl⟩ := hd
  exact lv_iload_n C.1 C.2.1 hd hj (hl.2.2 _ _ hi (by simp)) (k p l e R s m args below meth c D cA ta b0 H locs lsA cells slots Fin C hP hS hl hF)
theorem r_iload (i : Nat) {x : Int32} (hd : Dc mt pc (.iload i) 2 n) (hi : ls[i]? = some (.int x)) (k : Wa X mt d n ls (.int x :: st) μ Q) : Wa X mt d pc ls st μ Q := by
  intro p l e R s m args below meth c D cA ta b0 H locs lsA cells slots Fin C hP hS hl hF
  obtain ⟨hd, rfl⟩ := hd
  exact lv_iload C.1 C.2.1 hd (hl.2.2 _ _ hi (by simp)) (k p l e R s m args below meth c D cA ta b0 H locs lsA cells slots Fin C hP hS hl hF)
theorem r_istore_n (i : Nat) (ls1 : List Value) {j : Fin 4} {x : Int32} (hd : Dc mt pc (.istore_n j) 1 n) (hj : (j : Nat) = i) (hb : i < mt.2.2.1) (hs : st1 ls i (.int x) = ls1) (k : Wa X mt d n ls1 st μ Q) : Wa X mt d pc ls (.int x :: st) μ Q := by
  intro p l e R s m args below meth c D cA ta b0 H locs lsA cells slots Fin C hP hS hl hF
  obtain ⟨hd, rfl⟩ := hd
  subst hs
  exact lv_istore_n C.1 C.2.1 hd hj hl.has hb rfl (fun lsA1 hl1 => k p l e R s m args below meth c D cA ta b0 H locs lsA1 cells slots Fin C hP hS (Lh.st1 (v := .int x) hl1) hF)
theorem r_istore (i : Nat) (ls1 : List Value) {x : Int32} (hd : Dc mt pc (.istore i) 2 n) (hb : i < mt.2.2.1) (hs : st1 ls i (.int x) = ls1) (k : Wa X mt d n ls1 st μ Q) : Wa X mt d pc ls (.int x :: st) μ Q := by
  intro p l e R s m args below meth c D cA ta b0 H locs lsA cells slots Fin C hP hS hl hF
  obtain ⟨hd, rfl⟩ := hd
  subst hs
  exact lv_istore C.1 C.2.1 hd hl.has hb rfl (fun lsA1 hl1 => k p l e R s m args below meth c D cA ta b0 H locs lsA1 cells slots Fin C hP hS (Lh.st1 (v := .int x) hl1) hF)
theorem r_lload_n (i : Nat) {j : Fin 4} {x : Int64} (hd : Dc mt pc (.lload_n j) 1 n) (hj : (j : Nat) = i) (hi : ls[i]? = some (.long x)) (k : Wa X mt d n ls (.long x :: st) μ Q) : Wa X mt d pc ls st μ Q := by
  intro p l e R s m args below meth c D cA ta b0 H locs lsA cells slots Fin C hP hS hl hF
  obtain ⟨hd, rfl⟩ := hd
  exact lv_lload_n C.1 C.2.1 hd hj (hl.2.2 _ _ hi (by simp)) (k p l e R s m args below meth c D cA ta b0 H locs lsA cells slots Fin C hP hS hl hF)
theorem r_lload (i : Nat) {x : Int64} (hd : Dc mt pc (.lload i) 2 n) (hi : ls[i]? = some (.long x)) (k : Wa X mt d n ls (.long x :: st) μ Q) : Wa X mt d pc ls st μ Q := by
  intro p l e R s m args below meth c D cA ta b0 H locs lsA cells slots Fin C hP hS hl hF
  obtain ⟨hd, rfl⟩ := hd
  exact lv_lload C.1 C.2.1 hd (hl.2.2 _ _ hi (by simp)) (k p l e R s m args below meth c D cA ta b0 H locs lsA cells slots Fin C hP hS hl hF)
theorem r_lstore_n (i : Nat) (ls1 : List Value) {j : Fin 4} {x : Int64} (hd : Dc mt pc (.lstore_n j) 1 n) (hj : (j : Nat) = i) (hb : i + 1 < mt.2.2.1) (hs : st2 ls i (.long x) = ls1) (k : Wa X mt d n ls1 st μ Q) : Wa X mt d pc ls (.long x :: st) μ Q := by
  intro p l e R s m args below meth c D cA ta b0 H locs lsA cells slots Fin C hP hS hl hF
  obtain ⟨hd, rfl⟩ := hd
  subst hs
  exact lv_lstore_n C.1 C.2.1 hd hj hl.has hb rfl (fun lsA1 hl1 => k p l e R s m args below meth c D cA ta b0 H locs lsA1 cells slots Fin C hP hS (Lh.st2 (v := .long x) hl1) hF)
theorem r_lstore (i : Nat) (ls1 : List Value) {x : Int64} (hd : Dc mt pc (.lstore i) 2 n) (hb : i + 1 < mt.2.2.1) (hs : st2 ls i (.long x) = ls1) (k : Wa X mt d n ls1 st μ Q) : Wa X mt d pc ls (.long x :: st) μ Q := by
  intro p l e R s m args below meth c D cA ta b0 H locs lsA cells slots Fin C hP hS hl hF
  obtain ⟨hd, rfl⟩ := hd
  subst hs
  exact lv_lstore C.1 C.2.1 hd hl.has hb rfl (fun lsA1 hl1 => k p l e R s m args below meth c D cA ta b0 H locs lsA1 cells slots Fin C hP hS (Lh.st2 (v := .long x) hl1) hF)
theorem r_aload_n (i : Nat) {j : Fin 4} {x : Nat} (hd : Dc mt pc (.aload_n j) 1 n) (hj : (j : Nat) = i) (hi : ls[i]? = some (.ref x)) (k : Wa X mt d n ls (.ref x :: st) μ Q) : Wa X mt d pc ls st μ Q := by
  intro p l e R s m args below meth c D cA ta b0 H locs lsA cells slots Fin C hP hS hl hF
  obtain ⟨hd, rfl⟩ := hd
  exact lv_aload_n C.1 C.2.1 hd hj (hl.2.2 _ _ hi (by simp)) (k p l e R s m args below meth c D cA ta b0 H locs lsA cells slots Fin C hP hS hl hF)
theorem r_aload (i : Nat) {x : Nat} (hd : Dc mt pc (.aload i) 2 n) (hi : ls[i]? = some (.ref x)) (k : Wa X mt d n ls (.ref x :: st) μ Q) : Wa X mt d pc ls st μ Q := by
  intro p l e R s m args below meth c D cA ta b0 H locs lsA cells slots Fin C hP hS hl hF
  obtain ⟨hd, rfl⟩ := hd
  exact lv_aload C.1 C.2.1 hd (hl.2.2 _ _ hi (by simp)) (k p l e R s m args below meth c D cA ta b0 H locs lsA cells slots Fin C hP hS hl hF)
theorem r_astore_n (i : Nat) (ls1 : List Value) {j : Fin 4} {x : Nat} (hd : Dc mt pc (.astore_n j) 1 n) (hj : (j : Nat) = i) (hb : i < mt.2.2.1) (hs : st1 ls i (.ref x) = ls1) (k : Wa X mt d n ls1 st μ Q) : Wa X mt d pc ls (.ref x :: st) μ Q := by
  intro p l e R s m args below meth c D cA ta b0 H locs lsA cells slots Fin C hP hS hl hF
  obtain ⟨hd, rfl⟩ := hd
  subst hs
  exact lv_astore_n C.1 C.2.1 hd hj hl.has hb rfl (fun lsA1 hl1 => k p l e R s m args below meth c D cA ta b0 H locs lsA1 cells slots Fin C hP hS (Lh.st1 (v := .ref x) hl1) hF)
theorem r_astore (i : Nat) (ls1 : List Value) {x : Nat} (hd : Dc mt pc (.astore i) 2 n) (hb : i < mt.2.2.1) (hs : st1 ls i (.ref x) = ls1) (k : Wa X mt d n ls1 st μ Q) : Wa X mt d pc ls (.ref x :: st) μ Q := by
  intro p l e R s m args below meth c D cA ta b0 H locs lsA cells slots Fin C hP hS hl hF
  obtain ⟨hd, rfl⟩ := hd
  subst hs
  exact lv_astore C.1 C.2.1 hd hl.has hb rfl (fun lsA1 hl1 => k p l e R s m args below meth c D cA ta b0 H locs lsA1 cells slots Fin C hP hS (Lh.st1 (v := .ref x) hl1) hF)
theorem r_aload_nN (i : Nat) {j : Fin 4} (hd : Dc mt pc (.aload_n j) 1 n) (hj : (j : Nat) = i) (hi : ls[i]? = some .null) (k : Wa X mt d n ls (.null :: st) μ Q) : Wa X mt d pc ls st μ Q := by
  intro p l e R s m args below meth c D cA ta b0 H locs lsA cells slots Fin C hP hS hl hF
  obtain ⟨hd, rfl⟩ := hd
  exact lv_aload_nN C.1 C.2.1 hd hj (hl.2.2 _ _ hi (by simp)) (k p l e R s m args below meth c D cA ta b0 H locs lsA cells slots Fin C hP hS hl hF)
theorem r_aloadN (i : Nat) (hd : Dc mt pc (.aload i) 2 n) (hi : ls[i]? = some .null) (k : Wa X mt d n ls (.null :: st) μ Q) : Wa X mt d pc ls st μ Q := by
  intro p l e R s m args below meth c D cA ta b0 H locs lsA cells slots Fin C hP hS hl hF
  obtain ⟨hd, rfl⟩ := hd
  exact lv_aloadN C.1 C.2.1 hd (hl.2.2 _ _ hi (by simp)) (k p l e R s m args below meth c D cA ta b0 H locs lsA cells slots Fin C hP hS hl hF)
theorem r_astore_nN (i : Nat) (ls1 : List Value) {j : Fin 4} (hd : Dc mt pc (.astore_n j) 1 n) (hj : (j : Nat) = i) (hb : i < mt.2.2.1) (hs : st1 ls i .null = ls1) (k : Wa X mt d n ls1 st μ Q) : Wa X mt d pc ls (.null :: st) μ Q := by
  intro p l e R s m args below meth c D cA ta b0 H locs lsA cells slots Fin C hP hS hl hF
  obtain ⟨hd, rfl⟩ := hd
  subst hs
  exact lv_astore_nN C.1 C.2.1 hd hj hl.has hb rfl (fun lsA1 hl1 => k p l e R s m args below meth c D cA ta b0 H locs lsA1 cells slots Fin C hP hS (Lh.st1 (v := .null) hl1) hF)
theorem r_astoreN (i : Nat) (ls1 : List Value) (hd : Dc mt pc (.astore i) 2 n) (hb : i < mt.2.2.1) (hs : st1 ls i .null = ls1) (k : Wa X mt d n ls1 st μ Q) : Wa X mt d pc ls (.null :: st) μ Q := by
  intro p l e R s m args below meth c D cA ta b0 H locs lsA cells slots Fin C hP hS hl hF
  obtain ⟨hd, rfl⟩ := hd
  subst hs
  exact lv_astoreN C.1 C.2.1 hd hl.has hb rfl (fun lsA1 hl1 => k p l e R s m args below meth c D cA ta b0 H locs lsA1 cells slots Fin C hP hS (Lh.st1 (v := .null) hl1) hF)
theorem r_iinc (i : Nat) (ls1 : List Value) (w : Int32) {z : Int} {x : Int32} (hd : Dc mt pc (.iinc i z) 3 n) (hw : Int32.ofInt z = w) (hb : i < mt.2.2.1) (hi : ls[i]? = some (.int x)) (hs : st1 ls i (.int (x + w)) = ls1) (k : Wa X mt d n ls1 st μ Q) : Wa X mt d pc ls st μ Q := by
  intro p l e R s m args below meth c D cA ta b0 H locs lsA cells slots Fin C hP hS hl hF
  obtain ⟨hd, rfl⟩ := hd
  subst hs
  obtain ⟨j, hj⟩ := List.getElem?_of_mem (lvl_mem (b0 := b0) (ta := ta) hi (by simp))
  exact lv_iinc C.1 C.2.1 hd hl.has (k := j) hj (by rw [hw]) hb rfl (fun lsA1 hl1 => k p l e R s m args below meth c D cA ta b0 H locs lsA1 cells slots Fin C hP hS (Lh.st1 (v := .int (x + w)) hl1) hF)
theorem r_if_eq {x : Int32} {tgt : Nat} (hd : Dj mt pc (.ifCond .eq) n tgt) (kt : x = 0 → Wa X mt d tgt ls st μ Q) (kf : ¬ x = 0 → Wa X mt d n ls st μ Q) : Wa X mt d pc ls (.int x :: st) μ Q := by
  intro p l e R s m args below meth c D cA ta b0 H locs lsA cells slots Fin C hP hS hl hF
  obtain ⟨off, hd, rfl, ht⟩ := hd
  exact lv_if_eq C.1 C.2.1 hd ht (fun h => kt h p l e R s m args below meth c D cA ta b0 H locs lsA cells slots Fin C hP hS hl hF) (fun h => kf h p l e R s m args below meth c D cA ta b0 H locs lsA cells slots Fin C hP hS hl hF)
theorem r_icmp_eq {x y : Int32} {tgt : Nat} (hd : Dj mt pc (.if_icmp .eq) n tgt) (kt : x = y → Wa X mt d tgt ls st μ Q) (kf : ¬ x = y → Wa X mt d n ls st μ Q) : Wa X mt d pc ls (.int y :: .int x :: st) μ Q := by
  intro p l e R s m args below meth c D cA ta b0 H locs lsA cells slots Fin C hP hS hl hF
  obtain ⟨off, hd, rfl, ht⟩ := hd
  exact lv_icmp_eq C.1 C.2.1 hd ht (fun h => kt h p l e R s m args below meth c D cA ta b0 H locs lsA cells slots Fin C hP hS hl hF) (fun h => kf h p l e R s m args below meth c D cA ta b0 H locs lsA cells slots Fin C hP hS hl hF)
theorem r_if_ne {x : Int32} {tgt : Nat} (hd : Dj mt pc (.ifCond .ne) n tgt) (kt : ¬ x = 0 → Wa X mt d tgt ls st μ Q) (kf : x = 0 → Wa X mt d n ls st μ Q) : Wa X mt d pc ls (.int x :: st) μ Q := by
  intro p l e R s m args below meth c D cA ta b0 H locs lsA cells slots Fin C hP hS hl hF
  obtain ⟨off, hd, rfl, ht⟩ := hd
  exact lv_if_ne C.1 C.2.1 hd ht (fun h => kt h p l e R s m args below meth c D cA ta b0 H locs lsA cells slots Fin C hP hS hl hF) (fun h => kf h p l e R s m args below meth c D cA ta b0 H locs lsA cells slots Fin C hP hS hl hF)
theorem r_icmp_ne {x y : Int32} {tgt : Nat} (hd : Dj mt pc (.if_icmp .ne) n tgt) (kt : ¬ x = y → Wa X mt d tgt ls st μ Q) (kf : x = y → Wa X mt d n ls st μ Q) : Wa X mt d pc ls (.int y :: .int x :: st) μ Q := by
  intro p l e R s m args below meth c D cA ta b0 H locs lsA cells slots Fin C hP hS hl hF
  obtain ⟨off, hd, rfl, ht⟩ := hd
  exact lv_icmp_ne C.1 C.2.1 hd ht (fun h => kt h p l e R s m args below meth c D cA ta b0 H locs lsA cells slots Fin C hP hS hl hF) (fun h => kf h p l e R s m args below meth c D cA ta b0 H locs lsA cells slots Fin C hP hS hl hF)
theorem r_if_lt {x : Int32} {tgt : Nat} (hd : Dj mt pc (.ifCond .lt) n tgt) (kt : x < 0 → Wa X mt d tgt ls st μ Q) (kf : ¬ x < 0 → Wa X mt d n ls st μ Q) : Wa X mt d pc ls (.int x :: st) μ Q := by
  intro p l e R s m args below meth c D cA ta b0 H locs lsA cells slots Fin C hP hS hl hF
  obtain ⟨off, hd, rfl, ht⟩ := hd
  exact lv_if_lt C.1 C.2.1 hd ht (fun h => kt h p l e R s m args below meth c D cA ta b0 H locs lsA cells slots Fin C hP hS hl hF) (fun h => kf h p l e R s m args below meth c D cA ta b0 H locs lsA cells slots Fin C hP hS hl hF)
theorem r_icmp_lt {x y : Int32} {tgt : Nat} (hd : Dj mt pc (.if_icmp .lt) n tgt) (kt : x < y → Wa X mt d tgt ls st μ Q) (kf : ¬ x < y → Wa X mt d n ls st μ Q) : Wa X mt d pc ls (.int y :: .int x :: st) μ Q := by
  intro p l e R s m args below meth c D cA ta b0 H locs lsA cells slots Fin C hP hS hl hF
  obtain ⟨off, hd, rfl, ht⟩ := hd
  exact lv_icmp_lt C.1 C.2.1 hd ht (fun h => kt h p l e R s m args below meth c D cA ta b0 H locs lsA cells slots Fin C hP hS hl hF) (fun h => kf h p l e R s m args below meth c D cA ta b0 H locs lsA cells slots Fin C hP hS hl hF)
theorem r_if_ge {x : Int32} {tgt : Nat} (hd : Dj mt pc (.ifCond .ge) n tgt) (kt : 0 ≤ x → Wa X mt d tgt ls st μ Q) (kf : ¬ 0 ≤ x → Wa X mt d n ls st μ Q) : Wa X mt d pc ls (.int x :: st) μ Q := by
  intro p l e R s m args below meth c D cA ta b0 H locs lsA cells slots Fin C hP hS hl hF
  obtain ⟨off, hd, rfl, ht⟩ := hd
  exact lv_if_ge C.1 C.2.1 hd ht (fun h => kt h p l e R s m args below meth c D cA ta b0 H locs lsA cells slots Fin C hP hS hl hF) (fun h => kf h p l e R s m args below meth c D cA ta b0 H locs lsA cells slots Fin C hP hS hl hF)
theorem r_icmp_ge {x y : Int32} {tgt : Nat} (hd : Dj mt pc (.if_icmp .ge) n tgt) (kt : y ≤ x → Wa X mt d tgt ls st μ Q) (kf : ¬ y ≤ x → Wa X mt d n ls st μ Q) : Wa X mt d pc ls (.int y :: .int x :: st) μ Q := by
  intro p l e R s m args below meth c D cA ta b0 H locs lsA cells slots Fin C hP hS hl hF
  obtain ⟨off, hd, rfl, ht⟩ := hd
  exact lv_icmp_ge C.1 C.2.1 hd ht (fun h => kt h p l e R s m args below meth c D cA ta b0 H locs lsA cells slots Fin C hP hS hl hF) (fun h => kf h p l e R s m args below meth c D cA ta b0 H locs lsA cells slots Fin C hP hS hl hF)
theorem r_if_gt {x : Int32} {tgt : Nat} (hd : Dj mt pc (.ifCond .gt) n tgt) (kt : 0 < x → Wa X mt d tgt ls st μ Q) (kf : ¬ 0 < x → Wa X mt d n ls st μ Q) : Wa X mt d pc ls (.int x :: st) μ Q := by
  intro p l e R s m args below meth c D cA ta b0 H locs lsA cells slots Fin C hP hS hl hF
  obtain ⟨off, hd, rfl, ht⟩ := hd
  exact lv_if_gt C.1 C.2.1 hd ht (fun h => kt h p l e R s m args below meth c D cA ta b0 H locs lsA cells slots Fin C hP hS hl hF) (fun h => kf h p l e R s m args below meth c D cA ta b0 H locs lsA cells slots Fin C hP hS hl hF)
theorem r_icmp_gt {x y : Int32} {tgt : Nat} (hd : Dj mt pc (.if_icmp .gt) n tgt) (kt : y < x → Wa X mt d tgt ls st μ Q) (kf : ¬ y < x → Wa X mt d n ls st μ Q) : Wa X mt d pc ls (.int y :: .int x :: st) μ Q := by
  intro p l e R s m args below meth c D cA ta b0 H locs lsA cells slots Fin C hP hS hl hF
  obtain ⟨off, hd, rfl, ht⟩ := hd
  exact lv_icmp_gt C.1 C.2.1 hd ht (fun h => kt h p l e R s m args below meth c D cA ta b0 H locs lsA cells slots Fin C hP hS hl hF) (fun h => kf h p l e R s m args below meth c D cA ta b0 H locs lsA cells slots Fin C hP hS hl hF)
theorem r_if_le {x : Int32} {tgt : Nat} (hd : Dj mt pc (.ifCond .le) n tgt) (kt : x ≤ 0 → Wa X mt d tgt ls st μ Q) (kf : ¬ x ≤ 0 → Wa X mt d n ls st μ Q) : Wa X mt d pc ls (.int x :: st) μ Q := by
  intro p l e R s m args below meth c D cA ta b0 H locs lsA cells slots Fin C hP hS hl hF
  obtain ⟨off, hd, rfl, ht⟩ := hd
  exact lv_if_le C.1 C.2.1 hd ht (fun h => kt h p l e R s m args below meth c D cA ta b0 H locs lsA cells slots Fin C hP hS hl hF) (fun h => kf h p l e R s m args below meth c D cA ta b0 H locs lsA cells slots Fin C hP hS hl hF)
theorem r_icmp_le {x y : Int32} {tgt : Nat} (hd : Dj mt pc (.if_icmp .le) n tgt) (kt : x ≤ y → Wa X mt d tgt ls st μ Q) (kf : ¬ x ≤ y → Wa X mt d n ls st μ Q) : Wa X mt d pc ls (.int y :: .int x :: st) μ Q := by
  intro p l e R s m args below meth c D cA ta b0 H locs lsA cells slots Fin C hP hS hl hF
  obtain ⟨off, hd, rfl, ht⟩ := hd
  exact lv_icmp_le C.1 C.2.1 hd ht (fun h => kt h p l e R s m args below meth c D cA ta b0 H locs lsA cells slots Fin C hP hS hl hF) (fun h => kf h p l e R s m args below meth c D cA ta b0 H locs lsA cells slots Fin C hP hS hl hF)
theorem r_goto {tgt : Nat} (hd : Dj mt pc .goto n tgt) (k : Wa X mt d tgt ls st μ Q) : Wa X mt d pc ls st μ Q := by
  intro p l e R s m args below meth c D cA ta b0 H locs lsA cells slots Fin C hP hS hl hF
  obtain ⟨off, hd, rfl, ht⟩ := hd
  exact lv_goto C.1 C.2.1 hd ht (k p l e R s m args below meth c D cA ta b0 H locs lsA cells slots Fin C hP hS hl hF)
theorem r_ifnull {x tgt : Nat} (hd : Dj mt pc .ifnull n tgt) (k : Wa X mt d n ls st μ Q) : Wa X mt d pc ls (.ref x :: st) μ Q := by
  intro p l e R s m args below meth c D cA ta b0 H locs lsA cells slots Fin C hP hS hl hF
  obtain ⟨off, hd, rfl, ht⟩ := hd
  exact lv_ifnull C.1 C.2.1 hd (k p l e R s m args below meth c D cA ta b0 H locs lsA cells slots Fin C hP hS hl hF)
theorem r_ifnullN {tgt : Nat} (hd : Dj mt pc .ifnull n tgt) (k : Wa X mt d tgt ls st μ Q) : Wa X mt d pc ls (.null :: st) μ Q := by
  intro p l e R s m args below meth c D cA ta b0 H locs lsA cells slots Fin C hP hS hl hF
  obtain ⟨off, hd, rfl, ht⟩ := hd
  exact lv_ifnullN C.1 C.2.1 hd ht (k p l e R s m args below meth c D cA ta b0 H locs lsA cells slots Fin C hP hS hl hF)
theorem r_ifnonnull {x tgt : Nat} (hd : Dj mt pc .ifnonnull n tgt) (k : Wa X mt d tgt ls st μ Q) : Wa X mt d pc ls (.ref x :: st) μ Q := by
  intro p l e R s m args below meth c D cA ta b0 H locs lsA cells slots Fin C hP hS hl hF
  obtain ⟨off, hd, rfl, ht⟩ := hd
  exact lv_ifnonnull C.1 C.2.1 hd ht (k p l e R s m args below meth c D cA ta b0 H locs lsA cells slots Fin C hP hS hl hF)
theorem r_ifnonnullN {tgt : Nat} (hd : Dj mt pc .ifnonnull n tgt) (k : Wa X mt d n ls st μ Q) : Wa X mt d pc ls (.null :: st) μ Q := by
  intro p l e R s m args below meth c D cA ta b0 H locs lsA cells slots Fin C hP hS hl hF
  obtain ⟨off, hd, rfl, ht⟩ := hd
  exact lv_ifnonnullN C.1 C.2.1 hd (k p l e R s m args below meth c D cA ta b0 H locs lsA cells slots Fin C hP hS hl hF)
-- returns
theorem r_ret (hd : Dc mt pc .return_ 1 n) (hr : mt.2.2.2 = none) (k : Q none μ) : Wa X mt d pc ls [] μ Q := by
  intro p l e R s m args below meth c D cA ta b0 H locs lsA cells slots Fin C hP hS hl hF
  exact hF none μ H locs pc lsA k hP hS (Or.inl ⟨rfl, hr, hd.1⟩)
theorem r_iret {v : Int32} (ty : FieldType) (hd : Dc mt pc .ireturn 1 n) (hr : mt.2.2.2 = some ty) (hn : narrow ty (.int v) = .int v) (k : Q (some (.int v)) μ) : Wa X mt d pc ls [.int v] μ Q := by
  intro p l e R s m args below meth c D cA ta b0 H locs lsA cells slots Fin C hP hS hl hF
  exact hF (some (.int v)) μ H locs pc lsA k hP hS (Or.inr (Or.inl ⟨v, ty, rfl, hr, hn, hd.1⟩))
theorem r_lret {v : Int64} (hd : Dc mt pc .lreturn 1 n) (hr : mt.2.2.2 = some .long) (k : Q (some (.long v)) μ) : Wa X mt d pc ls [.long v] μ Q := by
  intro p l e R s m args below meth c D cA ta b0 H locs lsA cells slots Fin C hP hS hl hF
  exact hF (some (.long v)) μ H locs pc lsA k hP hS (Or.inr (Or.inr (Or.inl ⟨v, rfl, hr, hd.1⟩)))
theorem r_aret {v : Nat} (nm : String) (hd : Dc mt pc .areturn 1 n) (hr : mt.2.2.2 = some (.object nm)) (k : Q (some (.ref v)) μ) : Wa X mt d pc ls [.ref v] μ Q := by
  intro p l e R s m args below meth c D cA ta b0 H locs lsA cells slots Fin C hP hS hl hF
  exact hF (some (.ref v)) μ H locs pc lsA k hP hS (Or.inr (Or.inr (Or.inr ⟨Or.inr ⟨v, rfl⟩, ⟨nm, hr⟩, hd.1⟩)))
theorem r_aretN (nm : String) (hd : Dc mt pc .areturn 1 n) (hr : mt.2.2.2 = some (.object nm)) (k : Q (some .null) μ) : Wa X mt d pc ls [.null] μ Q := by
  intro p l e R s m args below meth c D cA ta b0 H locs lsA cells slots Fin C hP hS hl hF
  exact hF (some .null) μ H locs pc lsA k hP hS (Or.inr (Or.inr (Or.inr ⟨Or.inl rfl, ⟨nm, hr⟩, hd.1⟩)))
-- fields
def FL (own : String) (idx ci j : Nat) : Prop := ∃ (C : String) (T : u_T) (N : Nat), kl[ci]? = some (C, T, N) ∧ j < N ∧ Cond.fieldLink own idx (T j).1 (T j).2.1 (T j).2.2.1 ∈ gtb ∧ ∀ w ∈ u_ws C T N, w ∈ gtb
def FP (own : String) (idx ci j : Nat) (ty : FieldType) : Prop := ∃ (C : String) (T : u_T) (N : Nat) (t0 : Nat → FieldType), kl[ci]? = some (C, T, N) ∧ j < N ∧ Cond.fieldLink own idx (T j).1 (T j).2.1 (T j).2.2.1 ∈ gtb ∧ (∀ w ∈ u_ws C T N, w ∈ gtb) ∧ (∀ k, k < N → parseFieldDescriptor (T k).2.2.1 = some (t0 k)) ∧ (∀ a, a < N → ∀ b, b < N → a ≠ b → (T a).2.1 ≠ (T b).2.1) ∧ (T j).2.2.2 = false ∧ parseFieldDescriptor (T j).2.2.1 = some ty
theorem cv_ref {b0 : Nat} {ta : Nat → Nat} {r : Nat} (h : r < 1000) : cv b0 ta (.ref r) = .ref (b0 + r) := by simp [cv, h]
theorem cv_hi {b0 : Nat} {ta : Nat → Nat} {r : Nat} (h : 1000 ≤ r) : cv b0 ta (.ref r) = .ref (ta r) := by simp [cv, Nat.not_lt.mpr h]
theorem r_getI {idx ci j c : Nat} {fks : List Nat} (hf : FL mt.1.cls idx ci j) (hs : shp[c]? = some (.inl (ci, fks))) (hk : fks[j]? = some 0) (hd : Dc mt pc (.getfield idx) 3 n) (k : Wa X mt d n ls (.int (μ.1 c j) :: st) μ Q) : Wa X mt d pc ls (.ref c :: st) μ Q := by
  intro p l e R s m args below meth c1 D cA ta b0 H locs lsA cells slots Fin C hP hS hl hF
  obtain ⟨hd, rfl⟩ := hd
  obtain ⟨C9, T, N, h1, h2, h3, h4⟩ := hf
  have hc := shp_lt hs
  rw [List.map_cons, cv_ref (by omega)]
  exact va_get C.1 C.2.1 C.2.2.2.2.1 h4 C.2.2.2.1 C.2.2.2.2.2.1.1 hP c (wl_get hs) h1 j h2 (C.2.2.2.2.1 _ h3) (fun _ h => h) (fvs_get hk) hd (k p l e R s m args below meth c1 D cA ta b0 H locs lsA cells slots Fin C hP hS hl hF)
theorem r_getL {idx ci j c : Nat} {fks : List Nat} (hf : FL mt.1.cls idx ci j) (hs : shp[c]? = some (.inl (ci, fks))) (hk : fks[j]? = some 1) (hd : Dc mt pc (.getfield idx) 3 n) (k : Wa X mt d n ls (.long (μ.2 c j) :: st) μ Q) : Wa X mt d pc ls (.ref c :: st) μ Q := by
  intro p l e R s m args below meth c1 D cA ta b0 H locs lsA cells slots Fin C hP hS hl hF
  obtain ⟨hd, rfl⟩ := hd
  obtain ⟨C9, T, N, h1, h2, h3, h4⟩ := hf
  have hc := shp_lt hs
  rw [List.map_cons, cv_ref (by omega)]
  exact va_get C.1 C.2.1 C.2.2.2.2.1 h4 C.2.2.2.1 C.2.2.2.2.2.1.1 hP c (wl_get hs) h1 j h2 (C.2.2.2.2.1 _ h3) (fun _ h => h) (fvs_get hk) hd (k p l e R s m args below meth c1 D cA ta b0 H locs lsA cells slots Fin C hP hS hl hF)
theorem r_getR {idx ci j c r : Nat} {fks : List Nat} (hf : FL mt.1.cls idx ci j) (hs : shp[c]? = some (.inl (ci, fks))) (hk : fks[j]? = some (r + 2)) (hd : Dc mt pc (.getfield idx) 3 n) (k : Wa X mt d n ls (.ref r :: st) μ Q) : Wa X mt d pc ls (.ref c :: st) μ Q := by
  intro p l e R s m args below meth c1 D cA ta b0 H locs lsA cells slots Fin C hP hS hl hF
  obtain ⟨hd, rfl⟩ := hd
  obtain ⟨C9, T, N, h1, h2, h3, h4⟩ := hf
  have hc := shp_lt hs
  have hr := shp_ref _ _ _ _ _ hs hk
  have k1 := k p l e R s m args below meth c1 D cA ta b0 H locs lsA cells slots Fin C hP hS hl hF
  rw [List.map_cons, cv_ref hr] at k1
  rw [List.map_cons, cv_ref (by omega)]
  exact va_get C.1 C.2.1 C.2.2.2.2.1 h4 C.2.2.2.1 C.2.2.2.2.2.1.1 hP c (wl_get hs) h1 j h2 (C.2.2.2.2.1 _ h3) (fun _ h => h) (fvs_get hk) hd k1
theorem r_putT {idx ci j c : Nat} {fks : List Nat} {v : Int32} (ty : FieldType) (hf : FP mt.1.cls idx ci j ty) (hs : shp[c]? = some (.inl (ci, fks))) (hk : fks[j]? = some 0) (hn : narrow ty (.int v) = .int v) (hft : fits ty (.int v) = true) (hd : Dc mt pc (.putfield idx) 3 n) (k : Wa X mt d n ls st (uI μ c j v) Q) : Wa X mt d pc ls (.int v :: .ref c :: st) μ Q := by
  intro p l e R s m args below meth c1 D cA ta b0 H locs lsA cells slots Fin C hP hS hl hF
  obtain ⟨hd, rfl⟩ := hd
  obtain ⟨C9, T, N, t0, h1, h2, h3, h4, h5, h6, h7, h8⟩ := hf
  have hc := shp_lt hs
  rw [List.map_cons, List.map_cons, cv_ref (by omega)]
  refine va_put C.1 C.2.1 C.2.2.2.2.1 h4 t0 h5 h6 C.2.2.2.1 C.2.2.2.2.2.1.1 hP wl_D hS c (wl_get hs) h1 j h2 (C.2.2.2.2.1 _ h3) (fun _ h => h) h7 h8 hn hft (by simp [fvs]; exact (List.getElem?_eq_some_iff.mp hk).1) hd (fun H1 locs1 hP1 _ hS1 => ?_)
  have hP1 : va_P D kl ((wl b0 cA μ).set c (b0 + c, .inr (ci, (fvs b0 μ c fks).set j (.int v)))) H1 := hP1
  rw [fvs_set hk, wl_set (μ' := uI μ c j v) (sp := .inl (ci, fks)) (e := .inr (ci, fvs b0 (uI μ c j v) c fks)) hs rfl (fun c' sp' hne => ea_rI_ne hne)] at hP1
  exact k p l e R s m args below meth c1 D cA ta b0 H1 locs1 lsA cells slots Fin C hP1 hS1 hl hF
theorem r_putI {idx ci j c : Nat} {fks : List Nat} {v : Int32} (hf : FP mt.1.cls idx ci j .int) (hs : shp[c]? = some (.inl (ci, fks))) (hk : fks[j]? = some 0) (hd : Dc mt pc (.putfield idx) 3 n) (k : Wa X mt d n ls st (uI μ c j v) Q) : Wa X mt d pc ls (.int v :: .ref c :: st) μ Q := r_putT .int hf hs hk rfl rfl hd k
theorem r_putZ {idx ci j c : Nat} {fks : List Nat} {v : Int32} (hf : FP mt.1.cls idx ci j .boolean) (hs : shp[c]? = some (.inl (ci, fks))) (hk : fks[j]? = some 0) (hv : v = 0 ∨ v = 1) (hd : Dc mt pc (.putfield idx) 3 n) (k : Wa X mt d n ls st (uI μ c j v) Q) : Wa X mt d pc ls (.int v :: .ref c :: st) μ Q := r_putT .boolean hf hs hk (by rcases hv with rfl | rfl <;> decide) (by rcases hv with rfl | rfl <;> decide) hd k
theorem r_putL {idx ci j c : Nat} {fks : List Nat} {v : Int64} (hf : FP mt.1.cls idx ci j .long) (hs : shp[c]? = some (.inl (ci, fks))) (hk : fks[j]? = some 1) (hd : Dc mt pc (.putfield idx) 3 n) (k : Wa X mt d n ls st (uL μ c j v) Q) : Wa X mt d pc ls (.long v :: .ref c :: st) μ Q := by
  intro p l e R s m args below meth c1 D cA ta b0 H locs lsA cells slots Fin C hP hS hl hF
  obtain ⟨hd, rfl⟩ := hd
  obtain ⟨C9, T, N, t0, h1, h2, h3, h4, h5, h6, h7, h8⟩ := hf
  have hc := shp_lt hs
  rw [List.map_cons, List.map_cons, cv_ref (by omega)]
  refine va_put C.1 C.2.1 C.2.2.2.2.1 h4 t0 h5 h6 C.2.2.2.1 C.2.2.2.2.2.1.1 hP wl_D hS c (wl_get hs) h1 j h2 (C.2.2.2.2.1 _ h3) (fun _ h => h) h7 h8 rfl rfl (by simp [fvs]; exact (List.getElem?_eq_some_iff.mp hk).1) hd (fun H1 locs1 hP1 _ hS1 => ?_)
  have hP1 : va_P D kl ((wl b0 cA μ).set c (b0 + c, .inr (ci, (fvs b0 μ c fks).set j (.long v)))) H1 := hP1
  rw [fvs_setL hk, wl_set (μ' := uL μ c j v) (sp := .inl (ci, fks)) (e := .inr (ci, fvs b0 (uL μ c j v) c fks)) hs rfl (fun c' sp' hne => ea_rL_ne hne)] at hP1
  exact k p l e R s m args below meth c1 D cA ta b0 H1 locs1 lsA cells slots Fin C hP1 hS1 hl hF
-- arrays
theorem r_iald {c N b g : Nat} {i : Int32} (hs : shp[c]? = some (.inr (0, N, b, g))) (hi : vp_in i N) (hd : Dc mt pc .iaload 1 n) (k : Wa X mt d n ls (.int (μ.1 c i.toNatClampNeg) :: st) μ Q) : Wa X mt d pc ls (.int i :: .ref c :: st) μ Q := by
  intro p l e R s m args below meth c1 D cA ta b0 H locs lsA cells slots Fin C hP hS hl hF
  obtain ⟨hd, rfl⟩ := hd
  have hc := shp_lt hs
  rw [List.map_cons, List.map_cons, cv_ref (by omega)]
  exact va_iald C.1 C.2.1 C.2.2.2.2.2.1.1 hP c 0 (wl_get hs) rfl hi hd (k p l e R s m args below meth c1 D cA ta b0 H locs lsA cells slots Fin C hP hS hl hF)
theorem r_bald {c N b g : Nat} {i : Int32} (hs : shp[c]? = some (.inr (1, N, b, g))) (hi : vp_in i N) (hd : Dc mt pc .baload 1 n) (k : Wa X mt d n ls (.int (μ.1 c i.toNatClampNeg) :: st) μ Q) : Wa X mt d pc ls (.int i :: .ref c :: st) μ Q := by
  intro p l e R s m args below meth c1 D cA ta b0 H locs lsA cells slots Fin C hP hS hl hF
  obtain ⟨hd, rfl⟩ := hd
  have hc := shp_lt hs
  rw [List.map_cons, List.map_cons, cv_ref (by omega)]
  exact va_bald C.1 C.2.1 C.2.2.2.2.2.1.1 hP c 1 (wl_get hs) rfl hi hd (k p l e R s m args below meth c1 D cA ta b0 H locs lsA cells slots Fin C hP hS hl hF)
theorem r_lald {c N b g : Nat} {i : Int32} (hs : shp[c]? = some (.inr (2, N, b, g))) (hi : vp_in i N) (hd : Dc mt pc .laload 1 n) (k : Wa X mt d n ls (.long (μ.2 c i.toNatClampNeg) :: st) μ Q) : Wa X mt d pc ls (.int i :: .ref c :: st) μ Q := by
  intro p l e R s m args below meth c1 D cA ta b0 H locs lsA cells slots Fin C hP hS hl hF
  obtain ⟨hd, rfl⟩ := hd
  have hc := shp_lt hs
  rw [List.map_cons, List.map_cons, cv_ref (by omega)]
  exact va_lald C.1 C.2.1 C.2.2.2.2.2.1.1 hP c 2 (wl_get hs) rfl hi hd (k p l e R s m args below meth c1 D cA ta b0 H locs lsA cells slots Fin C hP hS hl hF)
theorem r_aald3 {c N b g : Nat} {i : Int32} (hs : shp[c]? = some (.inr (3, N, b, g))) (h4 : N ≤ 4) (hi : vp_in i N) (hd : Dc mt pc .aaload 1 n) (k : Wa X mt d n ls (.ref (b + g * i.toNatClampNeg) :: st) μ Q) : Wa X mt d pc ls (.int i :: .ref c :: st) μ Q := by
  intro p l e R s m args below meth c1 D cA ta b0 H locs lsA cells slots Fin C hP hS hl hF
  obtain ⟨hd, rfl⟩ := hd
  have hc := shp_lt hs
  have hlt : i.toNatClampNeg < N := Nat.not_le.mp fun q => hi (Or.inr q)
  have hb := (shp_len _ _ _ _ _ hs).2
  have hg : g * i.toNatClampNeg ≤ g * 4 := Nat.mul_le_mul_left g (by omega)
  have hr : b + g * i.toNatClampNeg < 1000 := by
    rw [Nat.mul_comm g 4] at hg
    rw [Nat.mul_comm g 4] at hb
    omega
  have k1 := k p l e R s m args below meth c1 D cA ta b0 H locs lsA cells slots Fin C hP hS hl hF
  rw [List.map_cons, cv_ref hr] at k1
  rw [List.map_cons, List.map_cons, cv_ref (by omega)]
  have he : (wl b0 cA μ)[c]? = some (b0 + c, .inl (cA 3, N, .inr (.inr (.inr (.inr (fun j => some (b0 + (b + g * j)))))))) := wl_get (b0 := b0) (cA := cA) (μ := μ) hs
  exact va_aldq (C := R_Learner) C.1 C.2.1 C.2.2.2.2.2.1.1 hP c 3 he rfl hi hd k1
theorem r_aald4 {c N b g : Nat} {i : Int32} (hs : shp[c]? = some (.inr (4, N, b, g))) (h4 : N ≤ 4) (hi : vp_in i N) (hd : Dc mt pc .aaload 1 n) (k : Wa X mt d n ls (.ref (b + g * i.toNatClampNeg) :: st) μ Q) : Wa X mt d pc ls (.int i :: .ref c :: st) μ Q := by
  intro p l e R s m args below meth c1 D cA ta b0 H locs lsA cells slots Fin C hP hS hl hF
  obtain ⟨hd, rfl⟩ := hd
  have hc := shp_lt hs
  have hlt : i.toNatClampNeg < N := Nat.not_le.mp fun q => hi (Or.inr q)
  have hb := (shp_len _ _ _ _ _ hs).2
  have hg : g * i.toNatClampNeg ≤ g * 4 := Nat.mul_le_mul_left g (by omega)
  have hr : b + g * i.toNatClampNeg < 1000 := by
    rw [Nat.mul_comm g 4] at hg
    rw [Nat.mul_comm g 4] at hb
    omega
  have k1 := k p l e R s m args below meth c1 D cA ta b0 H locs lsA cells slots Fin C hP hS hl hF
  rw [List.map_cons, cv_ref hr] at k1
  rw [List.map_cons, List.map_cons, cv_ref (by omega)]
  have he : (wl b0 cA μ)[c]? = some (b0 + c, .inl (cA 4, N, .inr (.inr (.inr (.inr (fun j => some (b0 + (b + g * j)))))))) := wl_get (b0 := b0) (cA := cA) (μ := μ) hs
  exact va_aldq (C := R_Sheet) C.1 C.2.1 C.2.2.2.2.2.1.1 hP c 4 he rfl hi hd k1
theorem r_aald5 {c N b g : Nat} {i : Int32} (hs : shp[c]? = some (.inr (5, N, b, g))) (h4 : N ≤ 4) (hi : vp_in i N) (hd : Dc mt pc .aaload 1 n) (k : Wa X mt d n ls (.ref (b + g * i.toNatClampNeg) :: st) μ Q) : Wa X mt d pc ls (.int i :: .ref c :: st) μ Q := by
  intro p l e R s m args below meth c1 D cA ta b0 H locs lsA cells slots Fin C hP hS hl hF
  obtain ⟨hd, rfl⟩ := hd
  have hc := shp_lt hs
  have hlt : i.toNatClampNeg < N := Nat.not_le.mp fun q => hi (Or.inr q)
  have hb := (shp_len _ _ _ _ _ hs).2
  have hg : g * i.toNatClampNeg ≤ g * 4 := Nat.mul_le_mul_left g (by omega)
  have hr : b + g * i.toNatClampNeg < 1000 := by
    rw [Nat.mul_comm g 4] at hg
    rw [Nat.mul_comm g 4] at hb
    omega
  have k1 := k p l e R s m args below meth c1 D cA ta b0 H locs lsA cells slots Fin C hP hS hl hF
  rw [List.map_cons, cv_ref hr] at k1
  rw [List.map_cons, List.map_cons, cv_ref (by omega)]
  have he : (wl b0 cA μ)[c]? = some (b0 + c, .inl (cA 5, N, .inr (.inr (.inr (.inr (fun j => some (b0 + (b + g * j)))))))) := wl_get (b0 := b0) (cA := cA) (μ := μ) hs
  exact va_aldq (C := R_Shelf) C.1 C.2.1 C.2.2.2.2.2.1.1 hP c 5 he rfl hi hd k1
theorem r_iast {c N b g : Nat} {i v : Int32} (hs : shp[c]? = some (.inr (0, N, b, g))) (hi : vp_in i N) (hd : Dc mt pc .iastore 1 n) (k : Wa X mt d n ls st (uI μ c i.toNatClampNeg v) Q) : Wa X mt d pc ls (.int v :: .int i :: .ref c :: st) μ Q := by
  intro p l e R s m args below meth c1 D cA ta b0 H locs lsA cells slots Fin C hP hS hl hF
  obtain ⟨hd, rfl⟩ := hd
  have hc := shp_lt hs
  rw [List.map_cons, List.map_cons, List.map_cons, cv_ref (by omega)]
  refine va_iast C.1 C.2.1 C.2.2.2.2.2.1.1 hP wl_D hS c 0 (wl_get hs) rfl hi hd (fun H1 locs1 hP1 _ hS1 => ?_)
  rw [wl_set (μ' := uI μ c i.toNatClampNeg v) hs (by simp [ea, av, uI, rI_eq]) (fun c' sp' hne => ea_rI_ne hne)] at hP1
  exact k p l e R s m args below meth c1 D cA ta b0 H1 locs1 lsA cells slots Fin C hP1 hS1 hl hF
theorem r_bast {c N b g : Nat} {i v : Int32} (hs : shp[c]? = some (.inr (1, N, b, g))) (hi : vp_in i N) (hd : Dc mt pc .bastore 1 n) (k : Wa X mt d n ls st (uI μ c i.toNatClampNeg (vp_nar .byte v)) Q) : Wa X mt d pc ls (.int v :: .int i :: .ref c :: st) μ Q := by
  intro p l e R s m args below meth c1 D cA ta b0 H locs lsA cells slots Fin C hP hS hl hF
  obtain ⟨hd, rfl⟩ := hd
  have hc := shp_lt hs
  rw [List.map_cons, List.map_cons, List.map_cons, cv_ref (by omega)]
  refine va_bast C.1 C.2.1 C.2.2.2.2.2.1.1 hP wl_D hS c 1 (wl_get hs) rfl hi hd (fun H1 locs1 hP1 _ hS1 => ?_)
  rw [wl_set (μ' := uI μ c i.toNatClampNeg (vp_nar .byte v)) hs (by simp [ea, av, uI, rI_eq]) (fun c' sp' hne => ea_rI_ne hne)] at hP1
  exact k p l e R s m args below meth c1 D cA ta b0 H1 locs1 lsA cells slots Fin C hP1 hS1 hl hF
theorem r_last {c N b g : Nat} {i : Int32} {v : Int64} (hs : shp[c]? = some (.inr (2, N, b, g))) (hi : vp_in i N) (hd : Dc mt pc .lastore 1 n) (k : Wa X mt d n ls st (uL μ c i.toNatClampNeg v) Q) : Wa X mt d pc ls (.long v :: .int i :: .ref c :: st) μ Q := by
  intro p l e R s m args below meth c1 D cA ta b0 H locs lsA cells slots Fin C hP hS hl hF
  obtain ⟨hd, rfl⟩ := hd
  have hc := shp_lt hs
  rw [List.map_cons, List.map_cons, List.map_cons, cv_ref (by omega)]
  refine va_last C.1 C.2.1 C.2.2.2.2.2.1.1 hP wl_D hS c 2 (wl_get hs) rfl hi hd (fun H1 locs1 hP1 _ hS1 => ?_)
  rw [wl_set (μ' := uL μ c i.toNatClampNeg v) hs (by simp [ea, av, uL, rL_eq]) (fun c' sp' hne => ea_rL_ne hne)] at hP1
  exact k p l e R s m args below meth c1 D cA ta b0 H1 locs1 lsA cells slots Fin C hP1 hS1 hl hF
-- the static tables
theorem r_gets {idx : Nat} (t : Nat) (ht : t < 8) (hf : Cond.fieldLink mt.1.cls idx "SevenEights" (stn t) "[I" ∈ gtb) (hd : Dc mt pc (.getstatic idx) 3 n) (k : Wa X mt d n ls (.ref (1000 + t) :: st) μ Q) : Wa X mt d pc ls st μ Q := by
  intro p l e R s m args below meth c1 D cA ta b0 H locs lsA cells slots Fin C hP hS hl hF
  obtain ⟨hd, rfl⟩ := hd
  have k1 := k p l e R s m args below meth c1 D cA ta b0 H locs lsA cells slots Fin C hP hS hl hF
  rw [List.map_cons, cv_hi (Nat.le_add_right 1000 t)] at k1
  exact va_gets C.1 C.2.1 (C.2.2.2.2.2.1.2.2.2.1 t ht).1 hS C.2.2.2.1 (C.2.2.2.2.1 _ hf) (fun _ h => h) hd k1
theorem r_getsN {idx : Nat} {host : String} (t : Nat) (ht : t < 8) (hf : (mt.1.cls, idx, "SevenEights", stn t, "[I", host) ∈ nwf) (hd : Dc mt pc (.getstatic idx) 3 n) (k : Wa X mt d n ls (.ref (1000 + t) :: st) μ Q) : Wa X mt d pc ls st μ Q := by
  intro p l e R s m args below meth c1 D cA ta b0 H locs lsA cells slots Fin C hP hS hl hF
  obtain ⟨hd, rfl⟩ := hd
  have k1 := k p l e R s m args below meth c1 D cA ta b0 H locs lsA cells slots Fin C hP hS hl hF
  rw [List.map_cons, cv_hi (Nat.le_add_right 1000 t)] at k1
  exact va_getsN C.1 C.2.1 (C.2.2.2.2.2.1.2.2.2.1 t ht).1 hS C.2.2.2.1 (va_Nw.use rfl (C.2.2.2.2.2.1.2.2.1 _ hf)) (fun _ h => h) hd k1
theorem r_tald {t : Nat} {i : Int32} (ht : t < 8) (hi : vp_in i (sta t).length) (hd : Dc mt pc .iaload 1 n) (k : Wa X mt d n ls (.int ((sta t).getD i.toNatClampNeg 0) :: st) μ Q) : Wa X mt d pc ls (.int i :: .ref (1000 + t) :: st) μ Q := by
  intro p l e R s m args below meth c1 D cA ta b0 H locs lsA cells slots Fin C hP hS hl hF
  obtain ⟨hd, rfl⟩ := hd
  have k1 := k p l e R s m args below meth c1 D cA ta b0 H locs lsA cells slots Fin C hP hS hl hF
  rw [List.map_cons, List.map_cons, cv_hi (Nat.le_add_right 1000 t)]
  exact va_ti C.1 C.2.1 (C.2.2.2.2.2.1.2.2.2.1 t ht).2 hS hi rfl hd k1
-- constants
theorem r_ldc {idx : Nat} {v : Int32} (hf : Cond.constant mt.1.cls idx v ∈ gtb) (hd : Dc mt pc (.ldc idx) 2 n) (k : Wa X mt d n ls (.int v :: st) μ Q) : Wa X mt d pc ls st μ Q := by
  intro p l e R s m args below meth c1 D cA ta b0 H locs lsA cells slots Fin C hP hS hl hF
  obtain ⟨hd, rfl⟩ := hd
  exact lv_ldc C.1 C.2.1 C.2.2.2.1 (C.2.2.2.2.1 _ hf) hd (k p l e R s m args below meth c1 D cA ta b0 H locs lsA cells slots Fin C hP hS hl hF)
theorem r_ldc_w {idx : Nat} {v : Int32} (hf : Cond.constant mt.1.cls idx v ∈ gtb) (hd : Dc mt pc (.ldc_w idx) 3 n) (k : Wa X mt d n ls (.int v :: st) μ Q) : Wa X mt d pc ls st μ Q := by
  intro p l e R s m args below meth c1 D cA ta b0 H locs lsA cells slots Fin C hP hS hl hF
  obtain ⟨hd, rfl⟩ := hd
  exact lv_ldcw C.1 C.2.1 C.2.2.2.1 (C.2.2.2.2.1 _ hf) hd (k p l e R s m args below meth c1 D cA ta b0 H locs lsA cells slots Fin C hP hS hl hF)
theorem r_ldc2 {idx : Nat} {v : Int64} (hf : Cond.constantLong mt.1.cls idx v ∈ gtb) (hd : Dc mt pc (.ldc2_w idx) 3 n) (k : Wa X mt d n ls (.long v :: st) μ Q) : Wa X mt d pc ls st μ Q := by
  intro p l e R s m args below meth c1 D cA ta b0 H locs lsA cells slots Fin C hP hS hl hF
  obtain ⟨hd, rfl⟩ := hd
  exact lv_ldc2 C.1 C.2.1 C.2.2.2.1 (C.2.2.2.2.1 _ hf) hd (k p l e R s m args below meth c1 D cA ta b0 H locs lsA cells slots Fin C hP hS hl hF)
theorem r_ldcS {idx : Nat} (q : Nat) (hq : q < 4) (hm : mt.1.cls = "SevenEights$Text") (hi : (ssx q).2 = idx) (hd : Dc mt pc (.ldc idx) 2 n) (k : Wa X mt d n ls (.ref (2000 + q) :: st) μ Q) : Wa X mt d pc ls st μ Q := by
  intro p l e R s m args below meth c1 D cA ta b0 H locs lsA cells slots Fin C hP hS hl hF
  obtain ⟨hd, rfl⟩ := hd
  have k1 := k p l e R s m args below meth c1 D cA ta b0 H locs lsA cells slots Fin C hP hS hl hF
  rw [List.map_cons, cv_hi (show 1000 ≤ 2000 + q by omega)] at k1
  subst hi
  exact va_ldcS (own := "SevenEights$Text") C.1 C.2.1 (by rw [← hm]; exact C.2.2.2.1) (C.2.2.2.2.2.1.2.2.2.2.1 q hq) hd k1
-- the script
theorem r_sald {i : Int32} (hi : vp_in i X.1) (hd : Dc mt pc .iaload 1 n) (k : Wa X mt d n ls (.int (X.2 i.toNatClampNeg) :: st) μ Q) : Wa X mt d pc ls (.int i :: .ref 3000 :: st) μ Q := by
  intro p l e R s m args below meth c1 D cA ta b0 H locs lsA cells slots Fin C hP hS hl hF
  obtain ⟨hd, rfl⟩ := hd
  obtain ⟨-, -, -, -, -, -, -, h8, h9, h10⟩ := C.2.2.2.2.2.1
  exact va_sld C.1 C.2.1 h8 h9 (fun z => absurd (show b0 ≤ ta 3000 from z) (by omega)) hS hi hd (k p l e R s m args below meth c1 D cA ta b0 H locs lsA cells slots Fin C hP hS hl hF)
theorem r_slen (hd : Dc mt pc .arraylength 1 n) (k : Wa X mt d n ls (.int (Int32.ofNat X.1) :: st) μ Q) : Wa X mt d pc ls (.ref 3000 :: st) μ Q := by
  intro p l e R s m args below meth c1 D cA ta b0 H locs lsA cells slots Fin C hP hS hl hF
  obtain ⟨hd, rfl⟩ := hd
  obtain ⟨-, -, -, -, -, -, -, h8, h9, h10⟩ := C.2.2.2.2.2.1
  exact va_slen C.1 C.2.1 h8 h9 (fun z => absurd (show b0 ≤ ta 3000 from z) (by omega)) hS hd (k p l e R s m args below meth c1 D cA ta b0 H locs lsA cells slots Fin C hP hS hl hF)
-- calls
theorem run_k {p : Program} {l : Launch} {e : Env} {R : Room} {s : State} {m : MethodId} {args : Array Value} {below : List Frame} {meth : Method} {c : Code} {H : Heap} {locs : List Loc} {cells slots pc : Nat} {lsA : Array Slot} {st0 rest : List Value} {Fin : State → Prop} {D : va_G} {cA : Nat → ClassId} {ta : Nat → Nat} {b0 : Nat} {post : Option Value → Me → Prop} {a : Array Value}
    (hr : va_Run p l e R s m args below meth c H locs cells slots 0 0 (F0 m pc lsA st0) rest (Qcx D cA ta b0 post a) (Ab b0)) (hS : va_S (Ab b0) s.heap H locs)
    (kk : ∀ (r : Option Value) (μ' : Me) (H1 : Heap) (locs1 : List Loc), post r μ' → va_P D kl (wl b0 cA μ') H1 → va_S (Ab b0) s.heap H1 locs1 → W p l e R s m args below meth c H1 locs1 cells slots Fin (F0 m (pc + 3) lsA ((r.map (cv b0 ta)).toList ++ rest))) : W p l e R s m args below meth c H locs cells slots Fin (F0 m pc lsA st0) := by
  intro T hT Y
  obtain ⟨v, st₀, t, T', L, h0, Y', hL, e1, e2, ⟨⟨r, μ', hv, hp, hP'⟩, hz, hk⟩, stp⟩ := hr T hT Y
  cases hv
  rw [h0] at hz hk
  obtain ⟨t2, a1, b1⟩ := kk r μ' T'.heap (locs ++ L) hp (by rw [e1]; exact hP') ⟨Nat.le_trans hS.1 (by rw [e1]; exact hz), fun q h1 h2 => by rw [e1, hk q (Nat.lt_of_lt_of_le h1 hS.1) h2]; exact hS.2.1 q h1 h2, fun q hq => by
      rcases List.mem_append.mp hq with h | h
      · exact hS.2.2 q h
      · exact hL q h⟩ T' rfl Y'
  exact ⟨t2, stp t2 a1, b1⟩
/-- what a call site of a static method needs -/
def LkS (own : String) (idx : Nat) (y : MT) (na : Nat) : Prop := Cond.methodLink own idx y.1 ∈ gtb ∧ Cond.static y.1 ∈ gtb ∧ Cond.initialized y.1.cls ∈ gtb ∧ Cond.code y.1 y.2.1 y.2.2.1 y.2.2.2 ∈ gtb ∧ y.2.2.1 ≤ 45 ∧ (y.1.cls ≠ "java/lang/invoke/MethodHandle" ∧ y.1.cls ≠ "java/lang/invoke/VarHandle" ∧ (parseMethodDescriptor y.1.desc).map (fun d => d.parameters.length) = some na)
def LkSN (own : String) (idx : Nat) (y : MT) (na : Nat) : Prop := (∃ host, (own, idx, y.1, host) ∈ nwm) ∧ Cond.static y.1 ∈ gtb ∧ Cond.initialized y.1.cls ∈ gtb ∧ Cond.code y.1 y.2.1 y.2.2.1 y.2.2.2 ∈ gtb ∧ y.2.2.1 ≤ 45 ∧ (y.1.cls ≠ "java/lang/invoke/MethodHandle" ∧ y.1.cls ≠ "java/lang/invoke/VarHandle" ∧ (parseMethodDescriptor y.1.desc).map (fun d => d.parameters.length) = some na)
def LkV (own : String) (idx : Nat) (y : MT) (na ci : Nat) : Prop := Cond.methodLink own idx y.1 ∈ gtb ∧ Cond.instanceMethod y.1 ∈ gtb ∧ Cond.selects y.1.cls y.1 y.1 ∈ gtb ∧ Cond.initialized y.1.cls ∈ gtb ∧ Cond.code y.1 y.2.1 y.2.2.1 y.2.2.2 ∈ gtb ∧ y.2.2.1 ≤ 45 ∧ (y.1.cls ≠ "java/lang/invoke/MethodHandle" ∧ y.1.cls ≠ "java/lang/invoke/VarHandle" ∧ (parseMethodDescriptor y.1.desc).map (fun d => d.parameters.length) = some na) ∧ ∃ q : vw_C, kl[ci]? = some q ∧ q.1 = y.1.cls
theorem good_wsm {y : MT} (h : Cond.code y.1 y.2.1 y.2.2.1 y.2.2.2 ∈ gtb) : GoodIn gtb (wsm y) := fun w hw => by
  rcases List.mem_cons.mp hw with rfl | hw
  · exact gtb_good _ h
  · exact gtb_good _ hw
theorem cvl_rev (b0 : Nat) (ta : Nat → Nat) (As st : List Value) : (As.reverse ++ st).map (cv b0 ta) = (As.map (cv b0 ta)).reverse ++ st.map (cv b0 ta) := by simp
theorem r_callS {y : MT} {idx na d' : Nat} {As st0 : List Value} {post : Option Value → Me → Prop} (hM : Ct y d' As μ post) (hf : LkS mt.1.cls idx y na) (hd : Dc mt pc (.invokestatic idx) 3 n) (hst : st0 = As.reverse ++ st) (hn : As.length = na) (hw : (st.map fun v => v.category).sum ≤ 8) (hdd : d' < d) (k : ∀ r μ', post r μ' → Wa X mt d n ls (r.toList ++ st) μ' Q) : Wa X mt d pc ls st0 μ Q := by
  intro p l e R s m args below meth c D cA ta b0 H locs lsA cells slots Fin C hP hS hl hF
  obtain ⟨hd, rfl⟩ := hd
  obtain ⟨f1, f2, f3, f4, f5, f6⟩ := hf
  obtain ⟨c1, c2, c3, c4, c5, c6, c7, c8, c9, c10⟩ := C
  have hcw := va_cwS (R := R) (rm := rmD d') (mc := 0) (ms := 0) (bytes := y.2.1) (maxL := y.2.2.1) (ret := y.2.2.2) (ws' := gtb) na c5 (show GoodIn gtb (va_wsS mt.1.cls idx y.1 (wsm y)) from fun w hw => by
    rcases List.mem_append.mp hw with h | h
    · simp only [List.mem_cons, List.not_mem_nil, or_false] at h
      rcases h with rfl | rfl | rfl
      · exact gtb_good _ f1
      · exact gtb_good _ f2
      · exact gtb_good _ f3
    · exact good_wsm f4 w h) rfl rfl rfl f6 ⟨by show d' + 1 ≤ R.frames; omega, by show 8 + (y.2.2.1 + 11) + 64 * d' ≤ R.locals; omega⟩
  subst hst
  rw [cvl_rev]
  refine run_k (va_runS ⟨c1, c2, c3, c4, c5⟩ (hM l X D cA ta b0) hcw ⟨Pcx.blind, fun U hU hW => ⟨rfl, by rw [hU]; exact hP, c6.move hS hU hW⟩⟩ rfl (by simpa using hn) (hl.1) rfl (lv_room (by rw [cv_cats]; exact hw)) hd ⟨c9, c10⟩) hS ?_
  intro r μ' H1 locs1 hp hP1 hS1
  have := k r μ' hp p l e R s m args below meth c D cA ta b0 H1 locs1 lsA cells slots Fin ⟨c1, c2, c3, c4, c5, c6, c7, c8, c9, c10⟩ hP1 hS1 hl hF
  rw [List.map_append] at this
  cases r <;> exact this
theorem r_callSN {y : MT} {idx na d' : Nat} {As st0 : List Value} {post : Option Value → Me → Prop} (hM : Ct y d' As μ post) (hf : LkSN mt.1.cls idx y na) (hd : Dc mt pc (.invokestatic idx) 3 n) (hst : st0 = As.reverse ++ st) (hn : As.length = na) (hw : (st.map fun v => v.category).sum ≤ 8) (hdd : d' < d) (k : ∀ r μ', post r μ' → Wa X mt d n ls (r.toList ++ st) μ' Q) : Wa X mt d pc ls st0 μ Q := by
  intro p l e R s m args below meth c D cA ta b0 H locs lsA cells slots Fin C hP hS hl hF
  obtain ⟨hd, rfl⟩ := hd
  obtain ⟨⟨host, f1⟩, f2, f3, f4, f5, f6⟩ := hf
  obtain ⟨c1, c2, c3, c4, c5, c6, c7, c8, c9, c10⟩ := C
  have hcw := va_cnB (R := R) (rm := rmD d') (mc := 0) (ms := 0) (bytes := y.2.1) (maxL := y.2.2.1) (ret := y.2.2.2) (ws' := gtb) na c5 (good_wsm f4) rfl rfl rfl (c6.2.1 _ f1) (c5 _ f3) f6 ⟨by show d' + 1 ≤ R.frames; omega, by show 8 + (y.2.2.1 + 11) + 64 * d' ≤ R.locals; omega⟩
  subst hst
  rw [cvl_rev]
  refine run_k (va_runSN ⟨c1, c2, c3, c4, c5⟩ (hM l X D cA ta b0) ⟨hcw, c5 _ f2, trivial⟩ ⟨Pcx.blind, fun U hU hW => ⟨rfl, by rw [hU]; exact hP, c6.move hS hU hW⟩⟩ rfl (by simpa using hn) (hl.1) rfl (lv_room (by rw [cv_cats]; exact hw)) hd ⟨c9, c10⟩) hS ?_
  intro r μ' H1 locs1 hp hP1 hS1
  have := k r μ' hp p l e R s m args below meth c D cA ta b0 H1 locs1 lsA cells slots Fin ⟨c1, c2, c3, c4, c5, c6, c7, c8, c9, c10⟩ hP1 hS1 hl hF
  rw [List.map_append] at this
  cases r <;> exact this
theorem r_callV {y : MT} {idx na ci d' b : Nat} {fks : List Nat} {As st0 : List Value} {post : Option Value → Me → Prop} (hM : Ct y d' (.ref b :: As) μ post) (hf : LkV mt.1.cls idx y na ci) (hs : shp[b]? = some (.inl (ci, fks))) (hd : Dc mt pc (.invokevirtual idx) 3 n) (hst : st0 = As.reverse ++ .ref b :: st) (hn : As.length = na) (hw : (st.map fun v => v.category).sum ≤ 8) (hdd : d' < d) (k : ∀ r μ', post r μ' → Wa X mt d n ls (r.toList ++ st) μ' Q) : Wa X mt d pc ls st0 μ Q := by
  intro p l e R s m args below meth c D cA ta b0 H locs lsA cells slots Fin C hP hS hl hF
  obtain ⟨hd, rfl⟩ := hd
  obtain ⟨f1, f2, f2b, f3, f4, f5, f6, q, f7, f8⟩ := hf
  obtain ⟨c1, c2, c3, c4, c5, c6, c7, c8, c9, c10⟩ := C
  have hcw := cwV (R := R) (rm := rmD d') (mc := 0) (ms := 0) (bytes := y.2.1) (maxL := y.2.2.1) (ret := y.2.2.2) (ws' := gtb) (C := y.1.cls) na c5 (show GoodIn gtb (wsV mt.1.cls idx y.1.cls y.1 (wsm y)) from fun w hw => by
    rcases List.mem_append.mp hw with h | h
    · simp only [List.mem_cons, List.not_mem_nil, or_false] at h
      rcases h with rfl | rfl | rfl | rfl
      · exact gtb_good _ f1
      · exact gtb_good _ f2
      · exact gtb_good _ f2b
      · exact gtb_good _ f3
    · exact good_wsm f4 w h) rfl rfl rfl ⟨rfl, f6⟩ ⟨by show d' + 1 ≤ R.frames; omega, by show 8 + (y.2.2.1 + 11) + 64 * d' ≤ R.locals; omega⟩
  subst hst
  have hb := shp_lt hs
  rw [cvl_rev, List.map_cons, cv_ref (show b < 1000 by omega)]
  have hM1 := hM l X D cA ta b0
  refine run_k (va_runV ⟨c1, c2, c3, c4, c5⟩ hM1 hcw ⟨Pcx.blind, ?_, fun U hU hW => ⟨by rw [List.map_cons, cv_ref (show b < 1000 by omega)], by rw [hU]; exact hP, c6.move hS hU hW⟩⟩ rfl (by simpa using hn) (hl.1) rfl (lv_room (by rw [cv_cats]; exact hw)) hd ⟨c9, c10⟩) hS ?_
  · rw [← f8]
    exact va_recv c6.1 hP f7 (wl_get hs)
  · intro r μ' H1 locs1 hp hP1 hS1
    have := k r μ' hp p l e R s m args below meth c D cA ta b0 H1 locs1 lsA cells slots Fin ⟨c1, c2, c3, c4, c5, c6, c7, c8, c9, c10⟩ hP1 hS1 hl hF
    rw [List.map_append] at this
    cases r <;> exact this
-- Math
theorem r_min {idx : Nat} {x y : Int32} (hf : Cond.methodLink mt.1.cls idx Lib.Math.min.name ∈ gtb ∧ Cond.static Lib.Math.min.name ∈ gtb ∧ Cond.initialized "java/lang/Math" ∈ gtb ∧ Cond.code Lib.Math.min.name Lib.Math.min.code 2 (some .int) ∈ gtb) (hd : Dc mt pc (.invokestatic idx) 3 n) (hw : (st.map fun v => v.category).sum ≤ 8) (hdd : 0 < d) (k : Wa X mt d n ls (.int (if y < x then y else x) :: st) μ Q) : Wa X mt d pc ls (.int y :: .int x :: st) μ Q := by
  intro p l e R s m args below meth c D cA ta b0 H locs lsA cells slots Fin C hP hS hl hF
  obtain ⟨hd, rfl⟩ := hd
  have k1 := k p l e R s m args below meth c D cA ta b0 H locs lsA cells slots Fin C hP hS hl hF
  obtain ⟨c1, c2, c3, c4, c5, c6, c7, c8, c9, c10⟩ := C
  exact va_mmin c1 c2 (c3.trans hl.1.symm) c4 (c5 _ hf.1) (c5 _ hf.2.1) (c5 _ hf.2.2.1) (c5 _ hf.2.2.2) (by omega) (by rw [cv_cats]; omega) c9 c10 hd k1
theorem r_max {idx : Nat} {x y : Int32} (hf : Cond.methodLink mt.1.cls idx Lib.Math.max.name ∈ gtb ∧ Cond.static Lib.Math.max.name ∈ gtb ∧ Cond.initialized "java/lang/Math" ∈ gtb ∧ Cond.code Lib.Math.max.name Lib.Math.max.code 2 (some .int) ∈ gtb) (hd : Dc mt pc (.invokestatic idx) 3 n) (hw : (st.map fun v => v.category).sum ≤ 8) (hdd : 0 < d) (k : Wa X mt d n ls (.int (if x < y then y else x) :: st) μ Q) : Wa X mt d pc ls (.int y :: .int x :: st) μ Q := by
  intro p l e R s m args below meth c D cA ta b0 H locs lsA cells slots Fin C hP hS hl hF
  obtain ⟨hd, rfl⟩ := hd
  have k1 := k p l e R s m args below meth c D cA ta b0 H locs lsA cells slots Fin C hP hS hl hF
  obtain ⟨c1, c2, c3, c4, c5, c6, c7, c8, c9, c10⟩ := C
  exact va_mmax c1 c2 (c3.trans hl.1.symm) c4 (c5 _ hf.1) (c5 _ hf.2.1) (c5 _ hf.2.2.1) (c5 _ hf.2.2.2) (by omega) (by rw [cv_cats]; omega) c9 c10 hd k1

end Rules
end
section
section Rules2
variable {X : Nat × (Nat → Int32)} {mt : MT} {d pc n : Nat} {ls st : List Value} {μ : Me} {Q : Option Value → Me → Prop}
/-- System.arraycopy of a row of ints, from its start -/
theorem r_copy {idx c0 c1 N0 N1 b0' g0 b1 g1 : Nat} {z : Int32} (hf : Cond.methodLink mt.1.cls idx arraycopyName ∈ gtb ∧ Cond.native arraycopyName ∈ gtb ∧ Cond.static arraycopyName ∈ gtb ∧ Cond.initialized "java/lang/System" ∈ gtb) (hs0 : shp[c0]? = some (.inr (0, N0, b0', g0))) (hs1 : shp[c1]? = some (.inr (0, N1, b1, g1))) (hz : ¬ z < 0) (h0 : z.toNatClampNeg ≤ N0) (h1 : z.toNatClampNeg ≤ N1) (hd : Dc mt pc (.invokestatic idx) 3 n) (hw : (st.map fun v => v.category).sum ≤ 8) (hdd : 0 < d) (k : Wa X mt d n ls st (rI μ c1 (va_cpy (μ.1 c0) (μ.1 c1) 0 0 z.toNatClampNeg)) Q) : Wa X mt d pc ls (.int z :: .int 0 :: .ref c1 :: .int 0 :: .ref c0 :: st) μ Q := by
  intro p l e R s m args below meth c D cA ta b0 H locs lsA cells slots Fin C hP hS hl hF
  obtain ⟨hd, rfl⟩ := hd
  have hc0 := shp_lt hs0
  have hc1 := shp_lt hs1
  rw [List.map_cons, List.map_cons, List.map_cons, List.map_cons, List.map_cons, cv_ref (show c1 < 1000 by omega), cv_ref (show c0 < 1000 by omega)]
  obtain ⟨e1, e2, e3, e4, e5, e6, e7, e8, e9, e10⟩ := C
  have hnat : nativeFrameWords "java/lang/System" "arraycopy" 5 + 11 ≤ 56 := by decide
  refine va_copyi e1 e2 (e3.trans hl.1.symm) e4 (e5 _ hf.1) (e5 _ hf.2.1) (e5 _ hf.2.2.1) (e5 _ hf.2.2.2) e6.1 hP wl_D hS c0 c1 0 0 (wl_get hs0) (wl_get hs1) rfl rfl rfl (by decide) (by decide) hz (by show 0 + z.toNatClampNeg ≤ N0; omega) (by show 0 + z.toNatClampNeg ≤ N1; omega) (fun i hi => rfl) (by omega) (by rw [cv_cats]; omega) hd (fun H1 locs1 hP1 _ hS1 => ?_)
  have hP1 : va_P D kl ((wl b0 cA μ).set c1 (b0 + c1, .inl (cA 0, N1, .inl (va_cpy (μ.1 c0) (μ.1 c1) 0 0 z.toNatClampNeg)))) H1 := hP1
  rw [wl_set (μ' := rI μ c1 (va_cpy (μ.1 c0) (μ.1 c1) 0 0 z.toNatClampNeg)) hs1 (by simp [ea, av, rI_eq]) (fun c' sp' hne => ea_rI_ne hne)] at hP1
  exact k p l e R s m args below meth c D cA ta b0 H1 locs1 lsA cells slots Fin ⟨e1, e2, e3, e4, e5, e6, e7, e8, e9, e10⟩ hP1 hS1 hl hF
/-- a table switch: targets by value, and the default -/
def tsOk (pc : Nat) (lo hi : Int) (offs : List Int) (tg : List (Int32 × Nat)) : Bool :=
  decide (tg.length = offs.length) && decide (hi = lo + offs.length - 1) && (List.range tg.length).all (fun j => match tg[j]?, offs[j]? with
    | some q, some o => decide (q.1.toInt = lo + j) && decide ((pc : Int) + o = (q.2 : Int))
    | _, _ => false)
def Ts (mt : MT) (pc : Nat) (tg : List (Int32 × Nat)) (dt : Nat) : Prop := ∃ (dflt lo hi : Int) (offs : List Int) (len : Nat), decode mt.2.1 pc = .ok (.tableswitch dflt lo hi offs.toArray, len) ∧ (pc : Int) + dflt = (dt : Int) ∧ tsOk pc lo hi offs tg = true
theorem r_ts {x : Int32} {tg : List (Int32 × Nat)} {dt : Nat} (hd : Ts mt pc tg dt) (k : ∀ q ∈ tg, x = q.1 → Wa X mt d q.2 ls st μ Q) (k0 : (∀ q ∈ tg, ¬ x = q.1) → Wa X mt d dt ls st μ Q) : Wa X mt d pc ls (.int x :: st) μ Q := by
  obtain ⟨dflt, lo, hi, offs, len, hd, hdt, hok⟩ := hd
  simp only [tsOk, Bool.and_eq_true, decide_eq_true_eq, List.all_eq_true, List.mem_range] at hok
  obtain ⟨⟨h1, h2⟩, h3⟩ := hok
  have key : ∀ j : Nat, j < tg.length → ∃ q o, tg[j]? = some q ∧ offs[j]? = some o ∧ q.1.toInt = lo + j ∧ (pc : Int) + o = (q.2 : Int) := by
    intro j hj
    have := h3 j hj
    cases ht : tg[j]? with
    | none => rw [ht] at this; simp at this
    | some q =>
      cases ho : offs[j]? with
      | none => rw [ht, ho] at this; simp at this
      | some o =>
        rw [ht, ho] at this
        simp only [Bool.and_eq_true, decide_eq_true_eq] at this
        exact ⟨q, o, rfl, rfl, this.1, this.2⟩
  by_cases hx : x.toInt < lo ∨ hi < x.toInt
  · have k1 := k0 (fun q hq hxq => by
      obtain ⟨j, hj⟩ := List.getElem?_of_mem hq
      have hl := (List.getElem?_eq_some_iff.mp hj).1
      obtain ⟨q', o, g1, g2, g3, g4⟩ := key j hl
      rw [hj] at g1
      cases g1
      rw [hxq, g3] at hx
      omega)
    intro p l e R s m args below meth c D cA ta b0 H locs lsA cells slots Fin C hP hS hl hF
    exact lv_tableOut C.1 C.2.1 hd hx hdt (k1 p l e R s m args below meth c D cA ta b0 H locs lsA cells slots Fin C hP hS hl hF)
  · have hj : (x.toInt - lo).toNat < tg.length := by omega
    obtain ⟨q, o, g1, g2, g3, g4⟩ := key _ hj
    have hxq : x = q.1 := Int32.toInt_inj.mp (by rw [g3]; omega)
    have k1 := k q (List.mem_of_getElem? g1) hxq
    intro p l e R s m args below meth c D cA ta b0 H locs lsA cells slots Fin C hP hS hl hF
    exact lv_tableIn C.1 C.2.1 hd (by omega) (by omega) (by simpa using g2) g4 (k1 p l e R s m args below meth c D cA ta b0 H locs lsA cells slots Fin C hP hS hl hF)
def lsOk (pc : Nat) (ps : List (Int × Int)) (tg : List (Int32 × Nat)) : Bool := match ps, tg with
  | [], [] => true
  | a :: ps, q :: tg => decide (q.1.toInt = a.1) && decide ((pc : Int) + a.2 = (q.2 : Int)) && lsOk pc ps tg
  | _, _ => false
def Lsw (mt : MT) (pc : Nat) (tg : List (Int32 × Nat)) (dt : Nat) : Prop := ∃ (dflt : Int) (ps : List (Int × Int)) (len : Nat), decode mt.2.1 pc = .ok (.lookupswitch dflt ps.toArray, len) ∧ (pc : Int) + dflt = (dt : Int) ∧ lsOk pc ps tg = true ∧ (ps.zip (ps.drop 1)).all (fun (a, next) => a.1 < next.1) = true
theorem lsw_off (pc : Nat) (x : Int32) (dflt : Int) : ∀ (ps : List (Int × Int)) (tg : List (Int32 × Nat)), lsOk pc ps tg = true → (∃ q ∈ tg, x = q.1 ∧ (pc : Int) + Op.lookupswitch.offset ps dflt x.toInt = (q.2 : Int)) ∨ ((∀ q ∈ tg, ¬ x = q.1) ∧ Op.lookupswitch.offset ps dflt x.toInt = dflt)
  | [], [], _ => Or.inr ⟨fun q h => by simp at h, rfl⟩
  | [], _ :: _, h => by simp [lsOk] at h
  | _ :: _, [], h => by simp [lsOk] at h
  | (a, o) :: ps, q :: tg, h => by
    simp only [lsOk, Bool.and_eq_true, decide_eq_true_eq] at h
    obtain ⟨⟨h1, h2⟩, h3⟩ := h
    by_cases hx : x = q.1
    · refine Or.inl ⟨q, List.mem_cons_self, hx, ?_⟩
      rw [Op.lookupswitch.offset_cons, if_pos (by rw [hx, h1])]
      exact h2
    · rw [lv_osw hx h1]
      rcases lsw_off pc x dflt ps tg h3 with ⟨q', g1, g2, g3⟩ | ⟨g1, g2⟩
      · exact Or.inl ⟨q', List.mem_cons_of_mem _ g1, g2, g3⟩
      · refine Or.inr ⟨fun q' hq' => ?_, g2⟩
        rcases List.mem_cons.mp hq' with rfl | hq'
        · exact hx
        · exact g1 q' hq'
theorem r_ls {x : Int32} {tg : List (Int32 × Nat)} {dt : Nat} (hd : Lsw mt pc tg dt) (k : ∀ q ∈ tg, x = q.1 → Wa X mt d q.2 ls st μ Q) (k0 : (∀ q ∈ tg, ¬ x = q.1) → Wa X mt d dt ls st μ Q) : Wa X mt d pc ls (.int x :: st) μ Q := by
  obtain ⟨dflt, ps, len, hd, hdt, hok, hso⟩ := hd
  rcases lsw_off pc x dflt ps tg hok with ⟨q, g1, g2, g3⟩ | ⟨g1, g2⟩
  · have k1 := k q g1 g2
    intro p l e R s m args below meth c D cA ta b0 H locs lsA cells slots Fin C hP hS hl hF
    exact lv_lookup C.1 C.2.1 hd hso rfl g3 (k1 p l e R s m args below meth c D cA ta b0 H locs lsA cells slots Fin C hP hS hl hF)
  · have k1 := k0 g1
    intro p l e R s m args below meth c D cA ta b0 H locs lsA cells slots Fin C hP hS hl hF
    exact lv_lookup C.1 C.2.1 hd hso g2 hdt (k1 p l e R s m args below meth c D cA ta b0 H locs lsA cells slots Fin C hP hS hl hF)
/-- what a walk must come to may be weaker -/
theorem Wa.mono {Q' : Option Value → Me → Prop} (h : ∀ r μ', Q' r μ' → Q r μ') (k : Wa X mt d pc ls st μ Q') : Wa X mt d pc ls st μ Q := by
  intro p l e R s m args below meth c D cA ta b0 H locs lsA cells slots Fin C hP hS hl hF
  exact k p l e R s m args below meth c D cA ta b0 H locs lsA cells slots Fin C hP hS hl (fun r μ' H' locs' pc' lsA' hq => hF r μ' H' locs' pc' lsA' (h r μ' hq))
theorem Wa.eqI {x y : Int32} (h : x = y) (k : Wa X mt d pc ls (.int y :: st) μ Q) : Wa X mt d pc ls (.int x :: st) μ Q := h ▸ k
theorem Wa.eqM {μ' : Me} (h : μ = μ') (k : Wa X mt d pc ls st μ' Q) : Wa X mt d pc ls st μ Q := h ▸ k
end Rules2
end
section
set_option maxRecDepth 100000 in
theorem uw_Answer : ∀ w ∈ u_ws R_Answer F_Answer 4, w ∈ gtb := by
  intro w hw
  have h : (u_ws R_Answer F_Answer 4).all (fun w => decide (w ∈ tables_1) && goodWord w) = true := by decide +kernel
  have h1 := List.all_eq_true.mp h w hw
  simp only [Bool.and_eq_true, decide_eq_true_eq] at h1
  exact List.mem_filter.mpr ⟨List.mem_append_right _ h1.1, h1.2⟩
set_option maxRecDepth 100000 in
theorem uw_Doer : ∀ w ∈ u_ws R_Doer F_Doer 6, w ∈ gtb := by
  intro w hw
  have h : (u_ws R_Doer F_Doer 6).all (fun w => decide (w ∈ tables_1) && goodWord w) = true := by decide +kernel
  have h1 := List.all_eq_true.mp h w hw
  simp only [Bool.and_eq_true, decide_eq_true_eq] at h1
  exact List.mem_filter.mpr ⟨List.mem_append_right _ h1.1, h1.2⟩
set_option maxRecDepth 100000 in
theorem uw_Learner : ∀ w ∈ u_ws R_Learner F_Learner 5, w ∈ gtb := by
  intro w hw
  have h : (u_ws R_Learner F_Learner 5).all (fun w => decide (w ∈ tables_1) && goodWord w) = true := by decide +kernel
  have h1 := List.all_eq_true.mp h w hw
  simp only [Bool.and_eq_true, decide_eq_true_eq] at h1
  exact List.mem_filter.mpr ⟨List.mem_append_right _ h1.1, h1.2⟩
set_option maxRecDepth 100000 in
theorem uw_Lesson : ∀ w ∈ u_ws R_Lesson F_Lesson 4, w ∈ gtb := by
  intro w hw
  have h : (u_ws R_Lesson F_Lesson 4).all (fun w => decide (w ∈ tables_1) && goodWord w) = true := by decide +kernel
  have h1 := List.all_eq_true.mp h w hw
  simp only [Bool.and_eq_true, decide_eq_true_eq] at h1
  exact List.mem_filter.mpr ⟨List.mem_append_right _ h1.1, h1.2⟩
set_option maxRecDepth 100000 in
theorem uw_Plan : ∀ w ∈ u_ws R_Plan F_Plan 5, w ∈ gtb := by
  intro w hw
  have h : (u_ws R_Plan F_Plan 5).all (fun w => decide (w ∈ tables_1) && goodWord w) = true := by decide +kernel
  have h1 := List.all_eq_true.mp h w hw
  simp only [Bool.and_eq_true, decide_eq_true_eq] at h1
  exact List.mem_filter.mpr ⟨List.mem_append_right _ h1.1, h1.2⟩
set_option maxRecDepth 100000 in
theorem uw_Rows : ∀ w ∈ u_ws R_Rows F_Rows 2, w ∈ gtb := by
  intro w hw
  have h : (u_ws R_Rows F_Rows 2).all (fun w => decide (w ∈ tables_1) && goodWord w) = true := by decide +kernel
  have h1 := List.all_eq_true.mp h w hw
  simp only [Bool.and_eq_true, decide_eq_true_eq] at h1
  exact List.mem_filter.mpr ⟨List.mem_append_right _ h1.1, h1.2⟩
set_option maxRecDepth 100000 in
theorem uw_School : ∀ w ∈ u_ws R_School F_School 6, w ∈ gtb := by
  intro w hw
  have h : (u_ws R_School F_School 6).all (fun w => decide (w ∈ tables_1) && goodWord w) = true := by decide +kernel
  have h1 := List.all_eq_true.mp h w hw
  simp only [Bool.and_eq_true, decide_eq_true_eq] at h1
  exact List.mem_filter.mpr ⟨List.mem_append_right _ h1.1, h1.2⟩
set_option maxRecDepth 100000 in
theorem uw_Sheet : ∀ w ∈ u_ws R_Sheet F_Sheet 3, w ∈ gtb := by
  intro w hw
  have h : (u_ws R_Sheet F_Sheet 3).all (fun w => decide (w ∈ tables_1) && goodWord w) = true := by decide +kernel
  have h1 := List.all_eq_true.mp h w hw
  simp only [Bool.and_eq_true, decide_eq_true_eq] at h1
  exact List.mem_filter.mpr ⟨List.mem_append_right _ h1.1, h1.2⟩
set_option maxRecDepth 100000 in
theorem uw_Shelf : ∀ w ∈ u_ws R_Shelf F_Shelf 3, w ∈ gtb := by
  intro w hw
  have h : (u_ws R_Shelf F_Shelf 3).all (fun w => decide (w ∈ tables_1) && goodWord w) = true := by decide +kernel
  have h1 := List.all_eq_true.mp h w hw
  simp only [Bool.and_eq_true, decide_eq_true_eq] at h1
  exact List.mem_filter.mpr ⟨List.mem_append_right _ h1.1, h1.2⟩
set_option maxRecDepth 100000 in
theorem uw_Text : ∀ w ∈ u_ws R_Text F_Text 3, w ∈ gtb := by
  intro w hw
  have h : (u_ws R_Text F_Text 3).all (fun w => decide (w ∈ tables_1) && goodWord w) = true := by decide +kernel
  have h1 := List.all_eq_true.mp h w hw
  simp only [Bool.and_eq_true, decide_eq_true_eq] at h1
  exact List.mem_filter.mpr ⟨List.mem_append_right _ h1.1, h1.2⟩
set_option maxRecDepth 100000 in
theorem uw_S : ∀ w ∈ u_ws R_S F_S 14, w ∈ gtb := by
  intro w hw
  have h : (u_ws R_S F_S 14).all (fun w => decide (w ∈ tables_1) && goodWord w) = true := by decide +kernel
  have h1 := List.all_eq_true.mp h w hw
  simp only [Bool.and_eq_true, decide_eq_true_eq] at h1
  exact List.mem_filter.mpr ⟨List.mem_append_right _ h1.1, h1.2⟩
set_option maxRecDepth 100000 in
theorem uw_M : ∀ w ∈ u_ws R_M F_M 41, w ∈ gtb := by
  intro w hw
  have h : (u_ws R_M F_M 41).all (fun w => decide (w ∈ tables_1) && goodWord w) = true := by decide +kernel
  have h1 := List.all_eq_true.mp h w hw
  simp only [Bool.and_eq_true, decide_eq_true_eq] at h1
  exact List.mem_filter.mpr ⟨List.mem_append_right _ h1.1, h1.2⟩
set_option maxRecDepth 100000 in
theorem fl_S_12 : FL "SevenEights" 12 10 0 := ⟨R_S, F_S, 14, rfl, by decide, gi 276 rfl rfl, uw_S⟩
set_option maxRecDepth 100000 in
theorem fl_S_16 : FL "SevenEights" 16 10 1 := ⟨R_S, F_S, 14, rfl, by decide, gi 277 rfl rfl, uw_S⟩
set_option maxRecDepth 100000 in
theorem fl_S_19 : FL "SevenEights" 19 10 2 := ⟨R_S, F_S, 14, rfl, by decide, gi 278 rfl rfl, uw_S⟩
set_option maxRecDepth 100000 in
theorem fp_S_19 : FP "SevenEights" 19 10 2 .boolean := ⟨R_S, F_S, 14, t_S, rfl, by decide, gi 278 rfl rfl, uw_S, t_S_ok, n_S, rfl, by decide +kernel⟩
set_option maxRecDepth 100000 in
theorem fl_S_26 : FL "SevenEights" 26 10 3 := ⟨R_S, F_S, 14, rfl, by decide, gi 279 rfl rfl, uw_S⟩
set_option maxRecDepth 100000 in
theorem fl_S_33 : FL "SevenEights" 33 10 4 := ⟨R_S, F_S, 14, rfl, by decide, gi 280 rfl rfl, uw_S⟩
set_option maxRecDepth 100000 in
theorem fl_S_40 : FL "SevenEights" 40 10 5 := ⟨R_S, F_S, 14, rfl, by decide, gi 281 rfl rfl, uw_S⟩
set_option maxRecDepth 100000 in
theorem fl_S_47 : FL "SevenEights" 47 10 6 := ⟨R_S, F_S, 14, rfl, by decide, gi 282 rfl rfl, uw_S⟩
set_option maxRecDepth 100000 in
theorem fl_S_54 : FL "SevenEights" 54 10 7 := ⟨R_S, F_S, 14, rfl, by decide, gi 283 rfl rfl, uw_S⟩
set_option maxRecDepth 100000 in
theorem fl_S_58 : FL "SevenEights" 58 10 8 := ⟨R_S, F_S, 14, rfl, by decide, gi 284 rfl rfl, uw_S⟩
set_option maxRecDepth 100000 in
theorem fl_S_65 : FL "SevenEights" 65 10 9 := ⟨R_S, F_S, 14, rfl, by decide, gi 285 rfl rfl, uw_S⟩
set_option maxRecDepth 100000 in
theorem fl_S_69 : FL "SevenEights" 69 10 10 := ⟨R_S, F_S, 14, rfl, by decide, gi 286 rfl rfl, uw_S⟩
set_option maxRecDepth 100000 in
theorem fl_S_74 : FL "SevenEights" 74 10 11 := ⟨R_S, F_S, 14, rfl, by decide, gi 287 rfl rfl, uw_S⟩
set_option maxRecDepth 100000 in
theorem fl_S_80 : FL "SevenEights" 80 10 12 := ⟨R_S, F_S, 14, rfl, by decide, gi 288 rfl rfl, uw_S⟩
set_option maxRecDepth 100000 in
theorem fl_S_87 : FL "SevenEights" 87 10 13 := ⟨R_S, F_S, 14, rfl, by decide, gi 289 rfl rfl, uw_S⟩
set_option maxRecDepth 100000 in
theorem fl_S_93 : FL "SevenEights" 93 9 1 := ⟨R_Text, F_Text, 3, rfl, by decide, gi 123 rfl rfl, uw_Text⟩
set_option maxRecDepth 100000 in
theorem fp_S_93 : FP "SevenEights" 93 9 1 .int := ⟨R_Text, F_Text, 3, t_Text, rfl, by decide, gi 123 rfl rfl, uw_Text, t_Text_ok, n_Text, rfl, by decide +kernel⟩
set_option maxRecDepth 100000 in
theorem cw_Text_append : Cond.code m_Text_append.1 m_Text_append.2.1 m_Text_append.2.2.1 m_Text_append.2.2.2 ∈ gtb := gi 326 rfl rfl
set_option maxRecDepth 100000 in
theorem lk_S_97 : LkV "SevenEights" 97 m_Text_append 1 9 := ⟨gi 323 rfl rfl, gi 324 rfl rfl, gi 325 rfl rfl, gi 5 rfl rfl, cw_Text_append, by decide, ⟨by decide, by decide, by decide +kernel⟩, _, rfl, rfl⟩
set_option maxRecDepth 100000 in
theorem cw_Text_readInto : Cond.code m_Text_readInto.1 m_Text_readInto.2.1 m_Text_readInto.2.2.1 m_Text_readInto.2.2.2 ∈ gtb := gi 334 rfl rfl
set_option maxRecDepth 100000 in
theorem lk_S_101 : LkV "SevenEights" 101 m_Text_readInto 1 9 := ⟨gi 331 rfl rfl, gi 332 rfl rfl, gi 333 rfl rfl, gi 5 rfl rfl, cw_Text_readInto, by decide, ⟨by decide, by decide, by decide +kernel⟩, _, rfl, rfl⟩
set_option maxRecDepth 100000 in
theorem fl_S_105 : FL "SevenEights" 105 9 2 := ⟨R_Text, F_Text, 3, rfl, by decide, gi 125 rfl rfl, uw_Text⟩
set_option maxRecDepth 100000 in
theorem fl_S_108 : FL "SevenEights" 108 6 5 := ⟨R_School, F_School, 6, rfl, by decide, gi 101 rfl rfl, uw_School⟩
set_option maxRecDepth 100000 in
theorem cw_Lesson_copyFrom : Cond.code m_Lesson_copyFrom.1 m_Lesson_copyFrom.2.1 m_Lesson_copyFrom.2.2.1 m_Lesson_copyFrom.2.2.2 ∈ gtb := gi 443 rfl rfl
set_option maxRecDepth 100000 in
theorem lk_S_111 : LkV "SevenEights" 111 m_Lesson_copyFrom 1 3 := ⟨gi 440 rfl rfl, gi 441 rfl rfl, gi 442 rfl rfl, gi 3 rfl rfl, cw_Lesson_copyFrom, by decide, ⟨by decide, by decide, by decide +kernel⟩, _, rfl, rfl⟩
set_option maxRecDepth 100000 in
theorem fl_S_115 : FL "SevenEights" 115 3 3 := ⟨R_Lesson, F_Lesson, 4, rfl, by decide, gi 50 rfl rfl, uw_Lesson⟩
set_option maxRecDepth 100000 in
theorem cw_S_isWithin : Cond.code m_S_isWithin.1 m_S_isWithin.2.1 m_S_isWithin.2.2.1 m_S_isWithin.2.2.2 ∈ gtb := gi 453 rfl rfl
set_option maxRecDepth 100000 in
theorem lk_S_118 : LkS "SevenEights" 118 m_S_isWithin 2 := ⟨gi 451 rfl rfl, gi 452 rfl rfl, gi 1 rfl rfl, cw_S_isWithin, by decide, ⟨by decide, by decide, by decide +kernel⟩⟩
set_option maxRecDepth 100000 in
theorem fl_S_122 : FL "SevenEights" 122 6 1 := ⟨R_School, F_School, 6, rfl, by decide, gi 93 rfl rfl, uw_School⟩
set_option maxRecDepth 100000 in
theorem cw_School_admit : Cond.code m_School_admit.1 m_School_admit.2.1 m_School_admit.2.2.1 m_School_admit.2.2.2 ∈ gtb := gi 457 rfl rfl
set_option maxRecDepth 100000 in
theorem lk_S_123 : LkV "SevenEights" 123 m_School_admit 2 6 := ⟨gi 454 rfl rfl, gi 455 rfl rfl, gi 456 rfl rfl, gi 2 rfl rfl, cw_School_admit, by decide, ⟨by decide, by decide, by decide +kernel⟩, _, rfl, rfl⟩
set_option maxRecDepth 100000 in
theorem cw_School_learnerAt : Cond.code m_School_learnerAt.1 m_School_learnerAt.2.1 m_School_learnerAt.2.2.1 m_School_learnerAt.2.2.2 ∈ gtb := gi 476 rfl rfl
set_option maxRecDepth 100000 in
theorem lk_S_127 : LkV "SevenEights" 127 m_School_learnerAt 1 6 := ⟨gi 473 rfl rfl, gi 474 rfl rfl, gi 475 rfl rfl, gi 2 rfl rfl, cw_School_learnerAt, by decide, ⟨by decide, by decide, by decide +kernel⟩, _, rfl, rfl⟩
set_option maxRecDepth 100000 in
theorem fl_S_131 : FL "SevenEights" 131 2 0 := ⟨R_Learner, F_Learner, 5, rfl, by decide, gi 68 rfl rfl, uw_Learner⟩
set_option maxRecDepth 100000 in
theorem fl_S_134 : FL "SevenEights" 134 2 1 := ⟨R_Learner, F_Learner, 5, rfl, by decide, gi 70 rfl rfl, uw_Learner⟩
set_option maxRecDepth 100000 in
theorem cw_Learner_firmSum : Cond.code m_Learner_firmSum.1 m_Learner_firmSum.2.1 m_Learner_firmSum.2.2.1 m_Learner_firmSum.2.2.2 ∈ gtb := gi 480 rfl rfl
set_option maxRecDepth 100000 in
theorem lk_S_137 : LkV "SevenEights" 137 m_Learner_firmSum 0 2 := ⟨gi 477 rfl rfl, gi 478 rfl rfl, gi 479 rfl rfl, gi 4 rfl rfl, cw_Learner_firmSum, by decide, ⟨by decide, by decide, by decide +kernel⟩, _, rfl, rfl⟩
set_option maxRecDepth 100000 in
theorem cw_S_pairAt : Cond.code m_S_pairAt.1 m_S_pairAt.2.1 m_S_pairAt.2.2.1 m_S_pairAt.2.2.2 ∈ gtb := gi 414 rfl rfl
set_option maxRecDepth 100000 in
theorem lk_S_141 : LkS "SevenEights" 141 m_S_pairAt 2 := ⟨gi 485 rfl rfl, gi 413 rfl rfl, gi 1 rfl rfl, cw_S_pairAt, by decide, ⟨by decide, by decide, by decide +kernel⟩⟩
set_option maxRecDepth 100000 in
theorem cw_S_isPair : Cond.code m_S_isPair.1 m_S_isPair.2.1 m_S_isPair.2.2.1 m_S_isPair.2.2.2 ∈ gtb := gi 492 rfl rfl
set_option maxRecDepth 100000 in
theorem lk_S_144 : LkS "SevenEights" 144 m_S_isPair 1 := ⟨gi 490 rfl rfl, gi 491 rfl rfl, gi 1 rfl rfl, cw_S_isPair, by decide, ⟨by decide, by decide, by decide +kernel⟩⟩
set_option maxRecDepth 100000 in
theorem fs_S_148 : Cond.fieldLink "SevenEights" 148 "SevenEights" (stn 0) "[I" ∈ gtb := gi 465 rfl rfl
set_option maxRecDepth 100000 in
theorem fs_S_151 : Cond.fieldLink "SevenEights" 151 "SevenEights" (stn 1) "[I" ∈ gtb := gi 467 rfl rfl
set_option maxRecDepth 100000 in
theorem cw_S_product : Cond.code m_S_product.1 m_S_product.2.1 m_S_product.2.2.1 m_S_product.2.2.2 ∈ gtb := gi 495 rfl rfl
set_option maxRecDepth 100000 in
theorem lk_S_154 : LkS "SevenEights" 154 m_S_product 1 := ⟨gi 493 rfl rfl, gi 494 rfl rfl, gi 1 rfl rfl, cw_S_product, by decide, ⟨by decide, by decide, by decide +kernel⟩⟩
set_option maxRecDepth 100000 in
theorem cw_S_firmAtFirst : Cond.code m_S_firmAtFirst.1 m_S_firmAtFirst.2.1 m_S_firmAtFirst.2.2.1 m_S_firmAtFirst.2.2.2 ∈ gtb := gi 464 rfl rfl
set_option maxRecDepth 100000 in
theorem lk_S_158 : LkS "SevenEights" 158 m_S_firmAtFirst 1 := ⟨gi 496 rfl rfl, gi 463 rfl rfl, gi 1 rfl rfl, cw_S_firmAtFirst, by decide, ⟨by decide, by decide, by decide +kernel⟩⟩
set_option maxRecDepth 100000 in
theorem kc_S_161 : Cond.constantLong "SevenEights" 161 (-1) ∈ gtb := gi 501 rfl rfl
set_option maxRecDepth 100000 in
theorem cw_S_nextDoor : Cond.code m_S_nextDoor.1 m_S_nextDoor.2.1 m_S_nextDoor.2.2.1 m_S_nextDoor.2.2.2 ∈ gtb := gi 504 rfl rfl
set_option maxRecDepth 100000 in
theorem lk_S_163 : LkS "SevenEights" 163 m_S_nextDoor 2 := ⟨gi 502 rfl rfl, gi 503 rfl rfl, gi 1 rfl rfl, cw_S_nextDoor, by decide, ⟨by decide, by decide, by decide +kernel⟩⟩
set_option maxRecDepth 100000 in
theorem fl_S_166 : FL "SevenEights" 166 2 2 := ⟨R_Learner, F_Learner, 5, rfl, by decide, gi 73 rfl rfl, uw_Learner⟩
set_option maxRecDepth 100000 in
theorem fl_S_169 : FL "SevenEights" 169 2 3 := ⟨R_Learner, F_Learner, 5, rfl, by decide, gi 76 rfl rfl, uw_Learner⟩
set_option maxRecDepth 100000 in
theorem fl_S_172 : FL "SevenEights" 172 2 4 := ⟨R_Learner, F_Learner, 5, rfl, by decide, gi 78 rfl rfl, uw_Learner⟩
set_option maxRecDepth 100000 in
theorem cw_Learner_box : Cond.code m_Learner_box.1 m_Learner_box.2.1 m_Learner_box.2.2.1 m_Learner_box.2.2.2 ∈ gtb := gi 512 rfl rfl
set_option maxRecDepth 100000 in
theorem lk_S_175 : LkV "SevenEights" 175 m_Learner_box 1 2 := ⟨gi 509 rfl rfl, gi 510 rfl rfl, gi 511 rfl rfl, gi 4 rfl rfl, cw_Learner_box, by decide, ⟨by decide, by decide, by decide +kernel⟩, _, rfl, rfl⟩
set_option maxRecDepth 100000 in
theorem cw_Learner_due : Cond.code m_Learner_due.1 m_Learner_due.2.1 m_Learner_due.2.2.1 m_Learner_due.2.2.2 ∈ gtb := gi 517 rfl rfl
set_option maxRecDepth 100000 in
theorem lk_S_178 : LkV "SevenEights" 178 m_Learner_due 1 2 := ⟨gi 514 rfl rfl, gi 515 rfl rfl, gi 516 rfl rfl, gi 4 rfl rfl, cw_Learner_due, by decide, ⟨by decide, by decide, by decide +kernel⟩, _, rfl, rfl⟩
set_option maxRecDepth 100000 in
theorem fs_S_181 : Cond.fieldLink "SevenEights" 181 "SevenEights" (stn 2) "[I" ∈ gtb := gi 531 rfl rfl
set_option maxRecDepth 100000 in
theorem fl_S_184 : FL "SevenEights" 184 6 2 := ⟨R_School, F_School, 6, rfl, by decide, gi 95 rfl rfl, uw_School⟩
set_option maxRecDepth 100000 in
theorem fl_S_187 : FL "SevenEights" 187 6 3 := ⟨R_School, F_School, 6, rfl, by decide, gi 97 rfl rfl, uw_School⟩
set_option maxRecDepth 100000 in
theorem cw_S_isSeconds : Cond.code m_S_isSeconds.1 m_S_isSeconds.2.1 m_S_isSeconds.2.2.1 m_S_isSeconds.2.2.2 ∈ gtb := gi 543 rfl rfl
set_option maxRecDepth 100000 in
theorem lk_S_190 : LkS "SevenEights" 190 m_S_isSeconds 1 := ⟨gi 541 rfl rfl, gi 542 rfl rfl, gi 1 rfl rfl, cw_S_isSeconds, by decide, ⟨by decide, by decide, by decide +kernel⟩⟩
set_option maxRecDepth 100000 in
theorem cw_Learner_feeling : Cond.code m_Learner_feeling.1 m_Learner_feeling.2.1 m_Learner_feeling.2.2.1 m_Learner_feeling.2.2.2 ∈ gtb := gi 547 rfl rfl
set_option maxRecDepth 100000 in
theorem lk_S_193 : LkV "SevenEights" 193 m_Learner_feeling 2 2 := ⟨gi 544 rfl rfl, gi 545 rfl rfl, gi 546 rfl rfl, gi 4 rfl rfl, cw_Learner_feeling, by decide, ⟨by decide, by decide, by decide +kernel⟩, _, rfl, rfl⟩
set_option maxRecDepth 100000 in
theorem cw_Answer_find : Cond.code m_Answer_find.1 m_Answer_find.2.1 m_Answer_find.2.2.1 m_Answer_find.2.2.2 ∈ gtb := gi 556 rfl rfl
set_option maxRecDepth 100000 in
theorem lk_S_196 : LkV "SevenEights" 196 m_Answer_find 4 0 := ⟨gi 553 rfl rfl, gi 554 rfl rfl, gi 555 rfl rfl, gi 6 rfl rfl, cw_Answer_find, by decide, ⟨by decide, by decide, by decide +kernel⟩, _, rfl, rfl⟩
set_option maxRecDepth 100000 in
theorem fl_S_200 : FL "SevenEights" 200 0 0 := ⟨R_Answer, F_Answer, 4, rfl, by decide, gi 145 rfl rfl, uw_Answer⟩
set_option maxRecDepth 100000 in
theorem fl_S_203 : FL "SevenEights" 203 0 1 := ⟨R_Answer, F_Answer, 4, rfl, by decide, gi 148 rfl rfl, uw_Answer⟩
set_option maxRecDepth 100000 in
theorem fl_S_206 : FL "SevenEights" 206 0 2 := ⟨R_Answer, F_Answer, 4, rfl, by decide, gi 150 rfl rfl, uw_Answer⟩
set_option maxRecDepth 100000 in
theorem fl_S_209 : FL "SevenEights" 209 0 3 := ⟨R_Answer, F_Answer, 4, rfl, by decide, gi 153 rfl rfl, uw_Answer⟩
set_option maxRecDepth 100000 in
theorem cw_Learner_keepAnswer : Cond.code m_Learner_keepAnswer.1 m_Learner_keepAnswer.2.1 m_Learner_keepAnswer.2.2.1 m_Learner_keepAnswer.2.2.2 ∈ gtb := gi 593 rfl rfl
set_option maxRecDepth 100000 in
theorem lk_S_212 : LkV "SevenEights" 212 m_Learner_keepAnswer 3 2 := ⟨gi 590 rfl rfl, gi 591 rfl rfl, gi 592 rfl rfl, gi 4 rfl rfl, cw_Learner_keepAnswer, by decide, ⟨by decide, by decide, by decide +kernel⟩, _, rfl, rfl⟩
set_option maxRecDepth 100000 in
theorem cw_Learner_hear : Cond.code m_Learner_hear.1 m_Learner_hear.2.1 m_Learner_hear.2.2.1 m_Learner_hear.2.2.2 ∈ gtb := gi 605 rfl rfl
set_option maxRecDepth 100000 in
theorem lk_S_216 : LkV "SevenEights" 216 m_Learner_hear 1 2 := ⟨gi 602 rfl rfl, gi 603 rfl rfl, gi 604 rfl rfl, gi 4 rfl rfl, cw_Learner_hear, by decide, ⟨by decide, by decide, by decide +kernel⟩, _, rfl, rfl⟩
set_option maxRecDepth 100000 in
theorem cw_School_rest : Cond.code m_School_rest.1 m_School_rest.2.1 m_School_rest.2.2.1 m_School_rest.2.2.2 ∈ gtb := gi 616 rfl rfl
set_option maxRecDepth 100000 in
theorem lk_S_220 : LkV "SevenEights" 220 m_School_rest 1 6 := ⟨gi 613 rfl rfl, gi 614 rfl rfl, gi 615 rfl rfl, gi 2 rfl rfl, cw_School_rest, by decide, ⟨by decide, by decide, by decide +kernel⟩, _, rfl, rfl⟩
set_option maxRecDepth 100000 in
theorem cw_S_knownSet : Cond.code m_S_knownSet.1 m_S_knownSet.2.1 m_S_knownSet.2.2.1 m_S_knownSet.2.2.2 ∈ gtb := gi 635 rfl rfl
set_option maxRecDepth 100000 in
theorem lk_S_223 : LkV "SevenEights" 223 m_S_knownSet 2 10 := ⟨gi 632 rfl rfl, gi 634 rfl rfl, gs (q := (⟨"SevenEights", "knownSet", "(LSevenEights$Learner;I)J"⟩, 14)) 11 rfl rfl, gi 1 rfl rfl, cw_S_knownSet, by decide, ⟨by decide, by decide, by decide +kernel⟩, _, rfl, rfl⟩
set_option maxRecDepth 100000 in
theorem cw_Learner_copyFrom : Cond.code m_Learner_copyFrom.1 m_Learner_copyFrom.2.1 m_Learner_copyFrom.2.2.1 m_Learner_copyFrom.2.2.2 ∈ gtb := gi 644 rfl rfl
set_option maxRecDepth 100000 in
theorem lk_S_227 : LkV "SevenEights" 227 m_Learner_copyFrom 1 2 := ⟨gi 641 rfl rfl, gi 642 rfl rfl, gi 643 rfl rfl, gi 4 rfl rfl, cw_Learner_copyFrom, by decide, ⟨by decide, by decide, by decide +kernel⟩, _, rfl, rfl⟩
set_option maxRecDepth 100000 in
theorem cw_Learner_sleep : Cond.code m_Learner_sleep.1 m_Learner_sleep.2.1 m_Learner_sleep.2.2.1 m_Learner_sleep.2.2.2 ∈ gtb := gi 620 rfl rfl
set_option maxRecDepth 100000 in
theorem lk_S_230 : LkV "SevenEights" 230 m_Learner_sleep 2 2 := ⟨gi 646 rfl rfl, gi 618 rfl rfl, gi 619 rfl rfl, gi 4 rfl rfl, cw_Learner_sleep, by decide, ⟨by decide, by decide, by decide +kernel⟩, _, rfl, rfl⟩
set_option maxRecDepth 100000 in
theorem kc_S_234 : Cond.constantLong "SevenEights" 234 (68719476735) ∈ gtb := gi 647 rfl rfl
set_option maxRecDepth 100000 in
theorem fl_S_236 : FL "SevenEights" 236 6 0 := ⟨R_School, F_School, 6, rfl, by decide, gi 91 rfl rfl, uw_School⟩
set_option maxRecDepth 100000 in
theorem cw_JLong_bitCount : Cond.code m_JLong_bitCount.1 m_JLong_bitCount.2.1 m_JLong_bitCount.2.2.1 m_JLong_bitCount.2.2.2 ∈ gtb := gi 654 rfl rfl
set_option maxRecDepth 100000 in
theorem lk_S_240 : LkS "SevenEights" 240 m_JLong_bitCount 1 := ⟨gi 652 rfl rfl, gi 653 rfl rfl, gi 19 rfl rfl, cw_JLong_bitCount, by decide, ⟨by decide, by decide, by decide +kernel⟩⟩
set_option maxRecDepth 100000 in
theorem cw_S_commonDivisor : Cond.code m_S_commonDivisor.1 m_S_commonDivisor.2.1 m_S_commonDivisor.2.2.1 m_S_commonDivisor.2.2.2 ∈ gtb := gi 660 rfl rfl
set_option maxRecDepth 100000 in
theorem lk_S_246 : LkS "SevenEights" 246 m_S_commonDivisor 2 := ⟨gi 658 rfl rfl, gi 659 rfl rfl, gi 1 rfl rfl, cw_S_commonDivisor, by decide, ⟨by decide, by decide, by decide +kernel⟩⟩
set_option maxRecDepth 100000 in
theorem cw_Plan_weigh : Cond.code m_Plan_weigh.1 m_Plan_weigh.2.1 m_Plan_weigh.2.2.1 m_Plan_weigh.2.2.2 ∈ gtb := gi 668 rfl rfl
set_option maxRecDepth 100000 in
theorem lk_S_249 : LkV "SevenEights" 249 m_Plan_weigh 3 4 := ⟨gi 665 rfl rfl, gi 666 rfl rfl, gi 667 rfl rfl, gi 7 rfl rfl, cw_Plan_weigh, by decide, ⟨by decide, by decide, by decide +kernel⟩, _, rfl, rfl⟩
set_option maxRecDepth 100000 in
theorem cw_Plan_chooseOne : Cond.code m_Plan_chooseOne.1 m_Plan_chooseOne.2.1 m_Plan_chooseOne.2.2.1 m_Plan_chooseOne.2.2.2 ∈ gtb := gi 674 rfl rfl
set_option maxRecDepth 100000 in
theorem lk_S_253 : LkV "SevenEights" 253 m_Plan_chooseOne 0 4 := ⟨gi 671 rfl rfl, gi 672 rfl rfl, gi 673 rfl rfl, gi 7 rfl rfl, cw_Plan_chooseOne, by decide, ⟨by decide, by decide, by decide +kernel⟩, _, rfl, rfl⟩
set_option maxRecDepth 100000 in
theorem cw_Plan_chooseTwo : Cond.code m_Plan_chooseTwo.1 m_Plan_chooseTwo.2.1 m_Plan_chooseTwo.2.2.1 m_Plan_chooseTwo.2.2.2 ∈ gtb := gi 682 rfl rfl
set_option maxRecDepth 100000 in
theorem lk_S_256 : LkV "SevenEights" 256 m_Plan_chooseTwo 0 4 := ⟨gi 679 rfl rfl, gi 680 rfl rfl, gi 681 rfl rfl, gi 7 rfl rfl, cw_Plan_chooseTwo, by decide, ⟨by decide, by decide, by decide +kernel⟩, _, rfl, rfl⟩
set_option maxRecDepth 100000 in
theorem fl_S_259 : FL "SevenEights" 259 4 2 := ⟨R_Plan, F_Plan, 5, rfl, by decide, gi 172 rfl rfl, uw_Plan⟩
set_option maxRecDepth 100000 in
theorem fl_S_262 : FL "SevenEights" 262 4 3 := ⟨R_Plan, F_Plan, 5, rfl, by decide, gi 174 rfl rfl, uw_Plan⟩
set_option maxRecDepth 100000 in
theorem fl_S_265 : FL "SevenEights" 265 4 4 := ⟨R_Plan, F_Plan, 5, rfl, by decide, gi 176 rfl rfl, uw_Plan⟩
set_option maxRecDepth 100000 in
theorem cw_S_firmWhenTold : Cond.code m_S_firmWhenTold.1 m_S_firmWhenTold.2.1 m_S_firmWhenTold.2.2.1 m_S_firmWhenTold.2.2.2 ∈ gtb := gi 608 rfl rfl
set_option maxRecDepth 100000 in
theorem lk_S_268 : LkS "SevenEights" 268 m_S_firmWhenTold 1 := ⟨gi 687 rfl rfl, gi 607 rfl rfl, gi 1 rfl rfl, cw_S_firmWhenTold, by decide, ⟨by decide, by decide, by decide +kernel⟩⟩
set_option maxRecDepth 100000 in
theorem cw_S_howManyKnow : Cond.code m_S_howManyKnow.1 m_S_howManyKnow.2.1 m_S_howManyKnow.2.2.1 m_S_howManyKnow.2.2.2 ∈ gtb := gi 695 rfl rfl
set_option maxRecDepth 100000 in
theorem lk_S_271 : LkV "SevenEights" 271 m_S_howManyKnow 2 10 := ⟨gi 692 rfl rfl, gi 694 rfl rfl, gs (q := (⟨"SevenEights", "howManyKnow", "(II)I"⟩, 14)) 13 rfl rfl, gi 1 rfl rfl, cw_S_howManyKnow, by decide, ⟨by decide, by decide, by decide +kernel⟩, _, rfl, rfl⟩
set_option maxRecDepth 100000 in
theorem cw_S_countSlips : Cond.code m_S_countSlips.1 m_S_countSlips.2.1 m_S_countSlips.2.2.1 m_S_countSlips.2.2.2 ∈ gtb := gi 703 rfl rfl
set_option maxRecDepth 100000 in
theorem lk_S_274 : LkV "SevenEights" 274 m_S_countSlips 2 10 := ⟨gi 700 rfl rfl, gi 702 rfl rfl, gs (q := (⟨"SevenEights", "countSlips", "(LSevenEights$Learner;I)V"⟩, 14)) 14 rfl rfl, gi 1 rfl rfl, cw_S_countSlips, by decide, ⟨by decide, by decide, by decide +kernel⟩, _, rfl, rfl⟩
set_option maxRecDepth 100000 in
theorem fl_S_278 : FL "SevenEights" 278 3 1 := ⟨R_Lesson, F_Lesson, 4, rfl, by decide, gi 45 rfl rfl, uw_Lesson⟩
set_option maxRecDepth 100000 in
theorem fl_S_281 : FL "SevenEights" 281 3 0 := ⟨R_Lesson, F_Lesson, 4, rfl, by decide, gi 43 rfl rfl, uw_Lesson⟩
set_option maxRecDepth 100000 in
theorem fl_S_284 : FL "SevenEights" 284 3 2 := ⟨R_Lesson, F_Lesson, 4, rfl, by decide, gi 47 rfl rfl, uw_Lesson⟩
set_option maxRecDepth 100000 in
theorem cw_Answer_isProduct : Cond.code m_Answer_isProduct.1 m_Answer_isProduct.2.1 m_Answer_isProduct.2.2.1 m_Answer_isProduct.2.2.2 ∈ gtb := gi 597 rfl rfl
set_option maxRecDepth 100000 in
theorem lk_S_286 : LkV "SevenEights" 286 m_Answer_isProduct 0 0 := ⟨gi 636 rfl rfl, gi 595 rfl rfl, gi 596 rfl rfl, gi 6 rfl rfl, cw_Answer_isProduct, by decide, ⟨by decide, by decide, by decide +kernel⟩, _, rfl, rfl⟩
set_option maxRecDepth 100000 in
theorem fl_S_290 : FL "SevenEights" 290 6 4 := ⟨R_School, F_School, 6, rfl, by decide, gi 99 rfl rfl, uw_School⟩
set_option maxRecDepth 100000 in
theorem fp_S_290 : FP "SevenEights" 290 6 4 .int := ⟨R_School, F_School, 6, t_School, rfl, by decide, gi 99 rfl rfl, uw_School, t_School_ok, n_School, rfl, by decide +kernel⟩
set_option maxRecDepth 100000 in
theorem kc_S_293 : Cond.constant "SevenEights" 293 (1103515245) ∈ gtb := gi 720 rfl rfl
set_option maxRecDepth 100000 in
theorem cw_S_memberAt : Cond.code m_S_memberAt.1 m_S_memberAt.2.1 m_S_memberAt.2.2.1 m_S_memberAt.2.2.2 ∈ gtb := gi 723 rfl rfl
set_option maxRecDepth 100000 in
theorem lk_S_294 : LkS "SevenEights" 294 m_S_memberAt 2 := ⟨gi 721 rfl rfl, gi 722 rfl rfl, gi 1 rfl rfl, cw_S_memberAt, by decide, ⟨by decide, by decide, by decide +kernel⟩⟩
set_option maxRecDepth 100000 in
theorem cw_S_fillRows : Cond.code m_S_fillRows.1 m_S_fillRows.2.1 m_S_fillRows.2.2.1 m_S_fillRows.2.2.2 ∈ gtb := gi 731 rfl rfl
set_option maxRecDepth 100000 in
theorem lk_S_298 : LkV "SevenEights" 298 m_S_fillRows 2 10 := ⟨gi 728 rfl rfl, gi 730 rfl rfl, gs (q := (⟨"SevenEights", "fillRows", "(LSevenEights$Rows;LSevenEights$Learner;)V"⟩, 14)) 15 rfl rfl, gi 1 rfl rfl, cw_S_fillRows, by decide, ⟨by decide, by decide, by decide +kernel⟩, _, rfl, rfl⟩
set_option maxRecDepth 100000 in
theorem fl_S_302 : FL "SevenEights" 302 5 1 := ⟨R_Rows, F_Rows, 2, rfl, by decide, gi 197 rfl rfl, uw_Rows⟩
set_option maxRecDepth 100000 in
theorem fp_S_302 : FP "SevenEights" 302 5 1 .int := ⟨R_Rows, F_Rows, 2, t_Rows, rfl, by decide, gi 197 rfl rfl, uw_Rows, t_Rows_ok, n_Rows, rfl, by decide +kernel⟩
set_option maxRecDepth 100000 in
theorem cw_Rows_placeOf : Cond.code m_Rows_placeOf.1 m_Rows_placeOf.2.1 m_Rows_placeOf.2.2.1 m_Rows_placeOf.2.2.2 ∈ gtb := gi 743 rfl rfl
set_option maxRecDepth 100000 in
theorem lk_S_303 : LkV "SevenEights" 303 m_Rows_placeOf 2 5 := ⟨gi 740 rfl rfl, gi 741 rfl rfl, gi 742 rfl rfl, gi 8 rfl rfl, cw_Rows_placeOf, by decide, ⟨by decide, by decide, by decide +kernel⟩, _, rfl, rfl⟩
set_option maxRecDepth 100000 in
theorem fl_S_306 : FL "SevenEights" 306 5 0 := ⟨R_Rows, F_Rows, 2, rfl, by decide, gi 195 rfl rfl, uw_Rows⟩
set_option maxRecDepth 100000 in
theorem cw_Rows_isSameAt : Cond.code m_Rows_isSameAt.1 m_Rows_isSameAt.2.1 m_Rows_isSameAt.2.2.1 m_Rows_isSameAt.2.2.2 ∈ gtb := gi 756 rfl rfl
set_option maxRecDepth 100000 in
theorem lk_S_309 : LkV "SevenEights" 309 m_Rows_isSameAt 2 5 := ⟨gi 753 rfl rfl, gi 754 rfl rfl, gi 755 rfl rfl, gi 8 rfl rfl, cw_Rows_isSameAt, by decide, ⟨by decide, by decide, by decide +kernel⟩, _, rfl, rfl⟩
set_option maxRecDepth 100000 in
theorem cw_S_isSheet : Cond.code m_S_isSheet.1 m_S_isSheet.2.1 m_S_isSheet.2.2.1 m_S_isSheet.2.2.2 ∈ gtb := gi 763 rfl rfl
set_option maxRecDepth 100000 in
theorem lk_S_313 : LkS "SevenEights" 313 m_S_isSheet 1 := ⟨gi 761 rfl rfl, gi 762 rfl rfl, gi 1 rfl rfl, cw_S_isSheet, by decide, ⟨by decide, by decide, by decide +kernel⟩⟩
set_option maxRecDepth 100000 in
theorem cw_Sheet_isMissing : Cond.code m_Sheet_isMissing.1 m_Sheet_isMissing.2.1 m_Sheet_isMissing.2.2.1 m_Sheet_isMissing.2.2.2 ∈ gtb := gi 767 rfl rfl
set_option maxRecDepth 100000 in
theorem lk_S_316 : LkV "SevenEights" 316 m_Sheet_isMissing 0 7 := ⟨gi 764 rfl rfl, gi 765 rfl rfl, gi 766 rfl rfl, gi 10 rfl rfl, cw_Sheet_isMissing, by decide, ⟨by decide, by decide, by decide +kernel⟩, _, rfl, rfl⟩
set_option maxRecDepth 100000 in
theorem fl_S_319 : FL "SevenEights" 319 7 0 := ⟨R_Sheet, F_Sheet, 3, rfl, by decide, gi 244 rfl rfl, uw_Sheet⟩
set_option maxRecDepth 100000 in
theorem fl_S_322 : FL "SevenEights" 322 7 1 := ⟨R_Sheet, F_Sheet, 3, rfl, by decide, gi 247 rfl rfl, uw_Sheet⟩
set_option maxRecDepth 100000 in
theorem fl_S_323 : FL "SevenEights" 323 7 2 := ⟨R_Sheet, F_Sheet, 3, rfl, by decide, gi 249 rfl rfl, uw_Sheet⟩
set_option maxRecDepth 100000 in
theorem mm_S_327 : Cond.methodLink "SevenEights" 327 Lib.Math.min.name ∈ gtb ∧ Cond.static Lib.Math.min.name ∈ gtb ∧ Cond.initialized "java/lang/Math" ∈ gtb ∧ Cond.code Lib.Math.min.name Lib.Math.min.code 2 (some .int) ∈ gtb := ⟨gi 415 rfl rfl, gi 416 rfl rfl, gi 17 rfl rfl, gi 417 rfl rfl⟩
set_option maxRecDepth 100000 in
theorem mm_S_332 : Cond.methodLink "SevenEights" 332 Lib.Math.max.name ∈ gtb ∧ Cond.static Lib.Math.max.name ∈ gtb ∧ Cond.initialized "java/lang/Math" ∈ gtb ∧ Cond.code Lib.Math.max.name Lib.Math.max.code 2 (some .int) ∈ gtb := ⟨gi 418 rfl rfl, gi 419 rfl rfl, gi 17 rfl rfl, gi 420 rfl rfl⟩
set_option maxRecDepth 100000 in
theorem cw_Sheet_lose : Cond.code m_Sheet_lose.1 m_Sheet_lose.2.1 m_Sheet_lose.2.2.1 m_Sheet_lose.2.2.2 ∈ gtb := gi 775 rfl rfl
set_option maxRecDepth 100000 in
theorem lk_S_335 : LkV "SevenEights" 335 m_Sheet_lose 0 7 := ⟨gi 772 rfl rfl, gi 773 rfl rfl, gi 774 rfl rfl, gi 10 rfl rfl, cw_Sheet_lose, by decide, ⟨by decide, by decide, by decide +kernel⟩, _, rfl, rfl⟩
set_option maxRecDepth 100000 in
theorem cw_Sheet_become : Cond.code m_Sheet_become.1 m_Sheet_become.2.1 m_Sheet_become.2.2.1 m_Sheet_become.2.2.2 ∈ gtb := gi 779 rfl rfl
set_option maxRecDepth 100000 in
theorem lk_S_338 : LkV "SevenEights" 338 m_Sheet_become 2 7 := ⟨gi 776 rfl rfl, gi 777 rfl rfl, gi 778 rfl rfl, gi 10 rfl rfl, cw_Sheet_become, by decide, ⟨by decide, by decide, by decide +kernel⟩, _, rfl, rfl⟩
set_option maxRecDepth 100000 in
theorem cw_Sheet_narrowed : Cond.code m_Sheet_narrowed.1 m_Sheet_narrowed.2.1 m_Sheet_narrowed.2.2.1 m_Sheet_narrowed.2.2.2 ∈ gtb := gi 787 rfl rfl
set_option maxRecDepth 100000 in
theorem lk_S_341 : LkV "SevenEights" 341 m_Sheet_narrowed 1 7 := ⟨gi 784 rfl rfl, gi 785 rfl rfl, gi 786 rfl rfl, gi 10 rfl rfl, cw_Sheet_narrowed, by decide, ⟨by decide, by decide, by decide +kernel⟩, _, rfl, rfl⟩
set_option maxRecDepth 100000 in
theorem cw_S_isShelf : Cond.code m_S_isShelf.1 m_S_isShelf.2.1 m_S_isShelf.2.2.1 m_S_isShelf.2.2.2 ∈ gtb := gi 798 rfl rfl
set_option maxRecDepth 100000 in
theorem lk_S_345 : LkS "SevenEights" 345 m_S_isShelf 1 := ⟨gi 796 rfl rfl, gi 797 rfl rfl, gi 1 rfl rfl, cw_S_isShelf, by decide, ⟨by decide, by decide, by decide +kernel⟩⟩
set_option maxRecDepth 100000 in
theorem cw_Shelf_holdLearner : Cond.code m_Shelf_holdLearner.1 m_Shelf_holdLearner.2.1 m_Shelf_holdLearner.2.2.1 m_Shelf_holdLearner.2.2.2 ∈ gtb := gi 802 rfl rfl
set_option maxRecDepth 100000 in
theorem lk_S_348 : LkV "SevenEights" 348 m_Shelf_holdLearner 1 8 := ⟨gi 799 rfl rfl, gi 800 rfl rfl, gi 801 rfl rfl, gi 11 rfl rfl, cw_Shelf_holdLearner, by decide, ⟨by decide, by decide, by decide +kernel⟩, _, rfl, rfl⟩
set_option maxRecDepth 100000 in
theorem cw_Shelf_holdRow : Cond.code m_Shelf_holdRow.1 m_Shelf_holdRow.2.1 m_Shelf_holdRow.2.2.1 m_Shelf_holdRow.2.2.2 ∈ gtb := gi 810 rfl rfl
set_option maxRecDepth 100000 in
theorem lk_S_351 : LkV "SevenEights" 351 m_Shelf_holdRow 1 8 := ⟨gi 807 rfl rfl, gi 808 rfl rfl, gi 809 rfl rfl, gi 11 rfl rfl, cw_Shelf_holdRow, by decide, ⟨by decide, by decide, by decide +kernel⟩, _, rfl, rfl⟩
set_option maxRecDepth 100000 in
theorem cw_Shelf_holdNothing : Cond.code m_Shelf_holdNothing.1 m_Shelf_holdNothing.2.1 m_Shelf_holdNothing.2.2.1 m_Shelf_holdNothing.2.2.2 ∈ gtb := gi 806 rfl rfl
set_option maxRecDepth 100000 in
theorem lk_S_355 : LkV "SevenEights" 355 m_Shelf_holdNothing 0 8 := ⟨gi 811 rfl rfl, gi 804 rfl rfl, gi 805 rfl rfl, gi 11 rfl rfl, cw_Shelf_holdNothing, by decide, ⟨by decide, by decide, by decide +kernel⟩, _, rfl, rfl⟩
set_option maxRecDepth 100000 in
theorem cw_Shelf_holdsRow : Cond.code m_Shelf_holdsRow.1 m_Shelf_holdsRow.2.1 m_Shelf_holdsRow.2.2.1 m_Shelf_holdsRow.2.2.2 ∈ gtb := gi 819 rfl rfl
set_option maxRecDepth 100000 in
theorem lk_S_358 : LkV "SevenEights" 358 m_Shelf_holdsRow 0 8 := ⟨gi 816 rfl rfl, gi 817 rfl rfl, gi 818 rfl rfl, gi 11 rfl rfl, cw_Shelf_holdsRow, by decide, ⟨by decide, by decide, by decide +kernel⟩, _, rfl, rfl⟩
set_option maxRecDepth 100000 in
theorem fl_S_361 : FL "SevenEights" 361 8 1 := ⟨R_Shelf, F_Shelf, 3, rfl, by decide, gi 266 rfl rfl, uw_Shelf⟩
set_option maxRecDepth 100000 in
theorem fl_S_362 : FL "SevenEights" 362 8 2 := ⟨R_Shelf, F_Shelf, 3, rfl, by decide, gi 268 rfl rfl, uw_Shelf⟩
set_option maxRecDepth 100000 in
theorem fl_S_363 : FL "SevenEights" 363 8 0 := ⟨R_Shelf, F_Shelf, 3, rfl, by decide, gi 264 rfl rfl, uw_Shelf⟩
set_option maxRecDepth 100000 in
theorem cw_S_isUnder : Cond.code m_S_isUnder.1 m_S_isUnder.2.1 m_S_isUnder.2.2.1 m_S_isUnder.2.2.2 ∈ gtb := gi 822 rfl rfl
set_option maxRecDepth 100000 in
theorem lk_S_366 : LkS "SevenEights" 366 m_S_isUnder 2 := ⟨gi 820 rfl rfl, gi 821 rfl rfl, gi 1 rfl rfl, cw_S_isUnder, by decide, ⟨by decide, by decide, by decide +kernel⟩⟩
set_option maxRecDepth 100000 in
theorem cw_Doer_clear : Cond.code m_Doer_clear.1 m_Doer_clear.2.1 m_Doer_clear.2.2.1 m_Doer_clear.2.2.2 ∈ gtb := gi 832 rfl rfl
set_option maxRecDepth 100000 in
theorem lk_S_369 : LkV "SevenEights" 369 m_Doer_clear 0 1 := ⟨gi 829 rfl rfl, gi 830 rfl rfl, gi 831 rfl rfl, gi 9 rfl rfl, cw_Doer_clear, by decide, ⟨by decide, by decide, by decide +kernel⟩, _, rfl, rfl⟩
set_option maxRecDepth 100000 in
theorem cw_Doer_become : Cond.code m_Doer_become.1 m_Doer_become.2.1 m_Doer_become.2.2.1 m_Doer_become.2.2.2 ∈ gtb := gi 836 rfl rfl
set_option maxRecDepth 100000 in
theorem lk_S_372 : LkV "SevenEights" 372 m_Doer_become 3 1 := ⟨gi 833 rfl rfl, gi 834 rfl rfl, gi 835 rfl rfl, gi 9 rfl rfl, cw_Doer_become, by decide, ⟨by decide, by decide, by decide +kernel⟩, _, rfl, rfl⟩
set_option maxRecDepth 100000 in
theorem cw_Doer_bodyOf : Cond.code m_Doer_bodyOf.1 m_Doer_bodyOf.2.1 m_Doer_bodyOf.2.2.1 m_Doer_bodyOf.2.2.2 ∈ gtb := gi 840 rfl rfl
set_option maxRecDepth 100000 in
theorem lk_S_375 : LkV "SevenEights" 375 m_Doer_bodyOf 1 1 := ⟨gi 837 rfl rfl, gi 838 rfl rfl, gi 839 rfl rfl, gi 9 rfl rfl, cw_Doer_bodyOf, by decide, ⟨by decide, by decide, by decide +kernel⟩, _, rfl, rfl⟩
set_option maxRecDepth 100000 in
theorem cw_S_run : Cond.code m_S_run.1 m_S_run.2.1 m_S_run.2.2.1 m_S_run.2.2.2 ∈ gtb := gi 851 rfl rfl
set_option maxRecDepth 100000 in
theorem lk_S_378 : LkS "SevenEights" 378 m_S_run 4 := ⟨gi 849 rfl rfl, gi 850 rfl rfl, gi 1 rfl rfl, cw_S_run, by decide, ⟨by decide, by decide, by decide +kernel⟩⟩
set_option maxRecDepth 100000 in
theorem fl_S_382 : FL "SevenEights" 382 1 3 := ⟨R_Doer, F_Doer, 6, rfl, by decide, gi 219 rfl rfl, uw_Doer⟩
set_option maxRecDepth 100000 in
theorem fl_S_385 : FL "SevenEights" 385 1 5 := ⟨R_Doer, F_Doer, 6, rfl, by decide, gi 223 rfl rfl, uw_Doer⟩
set_option maxRecDepth 100000 in
theorem fl_S_386 : FL "SevenEights" 386 1 4 := ⟨R_Doer, F_Doer, 6, rfl, by decide, gi 221 rfl rfl, uw_Doer⟩
set_option maxRecDepth 100000 in
theorem cw_School_copyFrom : Cond.code m_School_copyFrom.1 m_School_copyFrom.2.1 m_School_copyFrom.2.2.1 m_School_copyFrom.2.2.2 ∈ gtb := gi 875 rfl rfl
set_option maxRecDepth 100000 in
theorem lk_S_389 : LkV "SevenEights" 389 m_School_copyFrom 1 6 := ⟨gi 872 rfl rfl, gi 873 rfl rfl, gi 874 rfl rfl, gi 2 rfl rfl, cw_School_copyFrom, by decide, ⟨by decide, by decide, by decide +kernel⟩, _, rfl, rfl⟩
set_option maxRecDepth 100000 in
theorem fs_S_392 : Cond.fieldLink "SevenEights" 392 "SevenEights" (stn 3) "[I" ∈ gtb := gi 823 rfl rfl
set_option maxRecDepth 100000 in
theorem cw_Rows_append : Cond.code m_Rows_append.1 m_Rows_append.2.1 m_Rows_append.2.2.1 m_Rows_append.2.2.2 ∈ gtb := gi 735 rfl rfl
set_option maxRecDepth 100000 in
theorem lk_S_395 : LkV "SevenEights" 395 m_Rows_append 3 5 := ⟨gi 732 rfl rfl, gi 733 rfl rfl, gi 734 rfl rfl, gi 8 rfl rfl, cw_Rows_append, by decide, ⟨by decide, by decide, by decide +kernel⟩, _, rfl, rfl⟩
set_option maxRecDepth 100000 in
theorem cw_Doer_begin : Cond.code m_Doer_begin.1 m_Doer_begin.2.1 m_Doer_begin.2.2.1 m_Doer_begin.2.2.2 ∈ gtb := gi 855 rfl rfl
set_option maxRecDepth 100000 in
theorem lk_S_397 : LkV "SevenEights" 397 m_Doer_begin 1 1 := ⟨gi 852 rfl rfl, gi 853 rfl rfl, gi 854 rfl rfl, gi 9 rfl rfl, cw_Doer_begin, by decide, ⟨by decide, by decide, by decide +kernel⟩, _, rfl, rfl⟩
set_option maxRecDepth 100000 in
theorem fl_S_400 : FL "SevenEights" 400 1 1 := ⟨R_Doer, F_Doer, 6, rfl, by decide, gi 215 rfl rfl, uw_Doer⟩
set_option maxRecDepth 100000 in
theorem fl_S_403 : FL "SevenEights" 403 1 2 := ⟨R_Doer, F_Doer, 6, rfl, by decide, gi 217 rfl rfl, uw_Doer⟩
set_option maxRecDepth 100000 in
theorem cw_Doer_partEvenly : Cond.code m_Doer_partEvenly.1 m_Doer_partEvenly.2.1 m_Doer_partEvenly.2.2.1 m_Doer_partEvenly.2.2.2 ∈ gtb := gi 859 rfl rfl
set_option maxRecDepth 100000 in
theorem lk_S_404 : LkV "SevenEights" 404 m_Doer_partEvenly 1 1 := ⟨gi 856 rfl rfl, gi 857 rfl rfl, gi 858 rfl rfl, gi 9 rfl rfl, cw_Doer_partEvenly, by decide, ⟨by decide, by decide, by decide +kernel⟩, _, rfl, rfl⟩
set_option maxRecDepth 100000 in
theorem fp_Answer_9 : FP "SevenEights$Answer" 9 0 0 .int := ⟨R_Answer, F_Answer, 4, t_Answer, rfl, by decide, gi 144 rfl rfl, uw_Answer, t_Answer_ok, n_Answer, rfl, by decide +kernel⟩
set_option maxRecDepth 100000 in
theorem fl_Answer_15 : FL "SevenEights$Answer" 15 0 1 := ⟨R_Answer, F_Answer, 4, rfl, by decide, gi 146 rfl rfl, uw_Answer⟩
set_option maxRecDepth 100000 in
theorem fp_Answer_15 : FP "SevenEights$Answer" 15 0 1 .int := ⟨R_Answer, F_Answer, 4, t_Answer, rfl, by decide, gi 146 rfl rfl, uw_Answer, t_Answer_ok, n_Answer, rfl, by decide +kernel⟩
set_option maxRecDepth 100000 in
theorem fp_Answer_18 : FP "SevenEights$Answer" 18 0 2 .int := ⟨R_Answer, F_Answer, 4, t_Answer, rfl, by decide, gi 149 rfl rfl, uw_Answer, t_Answer_ok, n_Answer, rfl, by decide +kernel⟩
set_option maxRecDepth 100000 in
theorem fp_Answer_21 : FP "SevenEights$Answer" 21 0 3 .int := ⟨R_Answer, F_Answer, 4, t_Answer, rfl, by decide, gi 151 rfl rfl, uw_Answer, t_Answer_ok, n_Answer, rfl, by decide +kernel⟩
set_option maxRecDepth 100000 in
theorem cw_Learner_isAtOnce : Cond.code m_Learner_isAtOnce.1 m_Learner_isAtOnce.2.1 m_Learner_isAtOnce.2.2.1 m_Learner_isAtOnce.2.2.2 ∈ gtb := gi 560 rfl rfl
set_option maxRecDepth 100000 in
theorem lk_Answer_24 : LkV "SevenEights$Answer" 24 m_Learner_isAtOnce 3 2 := ⟨gi 557 rfl rfl, gi 558 rfl rfl, gi 559 rfl rfl, gi 4 rfl rfl, cw_Learner_isAtOnce, by decide, ⟨by decide, by decide, by decide +kernel⟩, _, rfl, rfl⟩
set_option maxRecDepth 100000 in
theorem lk_Answer_30 : LkSN "SevenEights$Answer" 30 m_S_product 1 := ⟨⟨"SevenEights", List.mem_of_getElem? (i := 13) rfl⟩, gi 494 rfl rfl, gi 1 rfl rfl, cw_S_product, by decide, ⟨by decide, by decide, by decide +kernel⟩⟩
set_option maxRecDepth 100000 in
theorem cw_Learner_takes : Cond.code m_Learner_takes.1 m_Learner_takes.2.1 m_Learner_takes.2.2.1 m_Learner_takes.2.2.2 ∈ gtb := gi 569 rfl rfl
set_option maxRecDepth 100000 in
theorem lk_Answer_34 : LkV "SevenEights$Answer" 34 m_Learner_takes 2 2 := ⟨gi 566 rfl rfl, gi 567 rfl rfl, gi 568 rfl rfl, gi 4 rfl rfl, cw_Learner_takes, by decide, ⟨by decide, by decide, by decide +kernel⟩, _, rfl, rfl⟩
set_option maxRecDepth 100000 in
theorem cw_Answer_become : Cond.code m_Answer_become.1 m_Answer_become.2.1 m_Answer_become.2.2.1 m_Answer_become.2.2.2 ∈ gtb := gi 573 rfl rfl
set_option maxRecDepth 100000 in
theorem lk_Answer_38 : LkV "SevenEights$Answer" 38 m_Answer_become 4 0 := ⟨gi 570 rfl rfl, gi 572 rfl rfl, gs (q := (⟨"SevenEights$Answer", "become", "(IIII)V"⟩, 4)) 10 rfl rfl, gi 6 rfl rfl, cw_Answer_become, by decide, ⟨by decide, by decide, by decide +kernel⟩, _, rfl, rfl⟩
set_option maxRecDepth 100000 in
theorem cw_Answer_wayRound : Cond.code m_Answer_wayRound.1 m_Answer_wayRound.2.1 m_Answer_wayRound.2.2.1 m_Answer_wayRound.2.2.2 ∈ gtb := gi 576 rfl rfl
set_option maxRecDepth 100000 in
theorem lk_Answer_42 : LkS "SevenEights$Answer" 42 m_Answer_wayRound 4 := ⟨gi 574 rfl rfl, gi 575 rfl rfl, gi 6 rfl rfl, cw_Answer_wayRound, by decide, ⟨by decide, by decide, by decide +kernel⟩⟩
set_option maxRecDepth 100000 in
theorem cw_Learner_step : Cond.code m_Learner_step.1 m_Learner_step.2.1 m_Learner_step.2.2.1 m_Learner_step.2.2.2 ∈ gtb := gi 580 rfl rfl
set_option maxRecDepth 100000 in
theorem lk_Answer_46 : LkV "SevenEights$Answer" 46 m_Learner_step 0 2 := ⟨gi 577 rfl rfl, gi 578 rfl rfl, gi 579 rfl rfl, gi 4 rfl rfl, cw_Learner_step, by decide, ⟨by decide, by decide, by decide +kernel⟩, _, rfl, rfl⟩
set_option maxRecDepth 100000 in
theorem cw_Answer_firmestTied : Cond.code m_Answer_firmestTied.1 m_Answer_firmestTied.2.1 m_Answer_firmestTied.2.2.1 m_Answer_firmestTied.2.2.2 ∈ gtb := gi 584 rfl rfl
set_option maxRecDepth 100000 in
theorem lk_Answer_50 : LkS "SevenEights$Answer" 50 m_Answer_firmestTied 3 := ⟨gi 582 rfl rfl, gi 583 rfl rfl, gi 6 rfl rfl, cw_Answer_firmestTied, by decide, ⟨by decide, by decide, by decide +kernel⟩⟩
set_option maxRecDepth 100000 in
theorem fl_Answer_54 : FL "SevenEights$Answer" 54 2 0 := ⟨R_Learner, F_Learner, 5, rfl, by decide, gi 67 rfl rfl, uw_Learner⟩
set_option maxRecDepth 100000 in
theorem lk_Answer_57 : LkV "SevenEights$Answer" 57 m_Learner_feeling 2 2 := ⟨gi 585 rfl rfl, gi 545 rfl rfl, gi 546 rfl rfl, gi 4 rfl rfl, cw_Learner_feeling, by decide, ⟨by decide, by decide, by decide +kernel⟩, _, rfl, rfl⟩
set_option maxRecDepth 100000 in
theorem lk_Answer_60 : LkSN "SevenEights$Answer" 60 m_S_nextDoor 2 := ⟨⟨"SevenEights", List.mem_of_getElem? (i := 14) rfl⟩, gi 503 rfl rfl, gi 1 rfl rfl, cw_S_nextDoor, by decide, ⟨by decide, by decide, by decide +kernel⟩⟩
set_option maxRecDepth 100000 in
theorem fl_Doer_9 : FL "SevenEights$Doer" 9 1 0 := ⟨R_Doer, F_Doer, 6, rfl, by decide, gi 213 rfl rfl, uw_Doer⟩
set_option maxRecDepth 100000 in
theorem fp_Doer_9 : FP "SevenEights$Doer" 9 1 0 .int := ⟨R_Doer, F_Doer, 6, t_Doer, rfl, by decide, gi 213 rfl rfl, uw_Doer, t_Doer_ok, n_Doer, rfl, by decide +kernel⟩
set_option maxRecDepth 100000 in
theorem fl_Doer_15 : FL "SevenEights$Doer" 15 1 1 := ⟨R_Doer, F_Doer, 6, rfl, by decide, gi 214 rfl rfl, uw_Doer⟩
set_option maxRecDepth 100000 in
theorem fp_Doer_15 : FP "SevenEights$Doer" 15 1 1 .int := ⟨R_Doer, F_Doer, 6, t_Doer, rfl, by decide, gi 214 rfl rfl, uw_Doer, t_Doer_ok, n_Doer, rfl, by decide +kernel⟩
set_option maxRecDepth 100000 in
theorem fl_Doer_18 : FL "SevenEights$Doer" 18 1 2 := ⟨R_Doer, F_Doer, 6, rfl, by decide, gi 216 rfl rfl, uw_Doer⟩
set_option maxRecDepth 100000 in
theorem fp_Doer_18 : FP "SevenEights$Doer" 18 1 2 .int := ⟨R_Doer, F_Doer, 6, t_Doer, rfl, by decide, gi 216 rfl rfl, uw_Doer, t_Doer_ok, n_Doer, rfl, by decide +kernel⟩
set_option maxRecDepth 100000 in
theorem fl_Doer_21 : FL "SevenEights$Doer" 21 1 3 := ⟨R_Doer, F_Doer, 6, rfl, by decide, gi 218 rfl rfl, uw_Doer⟩
set_option maxRecDepth 100000 in
theorem fp_Doer_21 : FP "SevenEights$Doer" 21 1 3 .boolean := ⟨R_Doer, F_Doer, 6, t_Doer, rfl, by decide, gi 218 rfl rfl, uw_Doer, t_Doer_ok, n_Doer, rfl, by decide +kernel⟩
set_option maxRecDepth 100000 in
theorem fl_Doer_25 : FL "SevenEights$Doer" 25 1 4 := ⟨R_Doer, F_Doer, 6, rfl, by decide, gi 220 rfl rfl, uw_Doer⟩
set_option maxRecDepth 100000 in
theorem fl_Doer_29 : FL "SevenEights$Doer" 29 1 5 := ⟨R_Doer, F_Doer, 6, rfl, by decide, gi 222 rfl rfl, uw_Doer⟩
set_option maxRecDepth 100000 in
theorem fp_Doer_29 : FP "SevenEights$Doer" 29 1 5 .int := ⟨R_Doer, F_Doer, 6, t_Doer, rfl, by decide, gi 222 rfl rfl, uw_Doer, t_Doer_ok, n_Doer, rfl, by decide +kernel⟩
set_option maxRecDepth 100000 in
theorem fn_Doer_32 : (("SevenEights$Doer", 32, "SevenEights", stn 4, "[I", "SevenEights") : String × Nat × String × String × String × String) ∈ nwf := List.mem_of_getElem? (i := 0) rfl
set_option maxRecDepth 100000 in
theorem fn_Doer_35 : (("SevenEights$Doer", 35, "SevenEights", stn 5, "[I", "SevenEights") : String × Nat × String × String × String × String) ∈ nwf := List.mem_of_getElem? (i := 1) rfl
set_option maxRecDepth 100000 in
theorem fn_Doer_38 : (("SevenEights$Doer", 38, "SevenEights", stn 6, "[I", "SevenEights") : String × Nat × String × String × String × String) ∈ nwf := List.mem_of_getElem? (i := 2) rfl
set_option maxRecDepth 100000 in
theorem fn_Doer_41 : (("SevenEights$Doer", 41, "SevenEights", stn 7, "[I", "SevenEights") : String × Nat × String × String × String × String) ∈ nwf := List.mem_of_getElem? (i := 3) rfl
set_option maxRecDepth 100000 in
theorem fl_Learner_9 : FL "SevenEights$Learner" 9 2 0 := ⟨R_Learner, F_Learner, 5, rfl, by decide, gi 66 rfl rfl, uw_Learner⟩
set_option maxRecDepth 100000 in
theorem fp_Learner_9 : FP "SevenEights$Learner" 9 2 0 .int := ⟨R_Learner, F_Learner, 5, t_Learner, rfl, by decide, gi 66 rfl rfl, uw_Learner, t_Learner_ok, n_Learner, rfl, by decide +kernel⟩
set_option maxRecDepth 100000 in
theorem fl_Learner_15 : FL "SevenEights$Learner" 15 2 1 := ⟨R_Learner, F_Learner, 5, rfl, by decide, gi 69 rfl rfl, uw_Learner⟩
set_option maxRecDepth 100000 in
theorem fp_Learner_15 : FP "SevenEights$Learner" 15 2 1 .int := ⟨R_Learner, F_Learner, 5, t_Learner, rfl, by decide, gi 69 rfl rfl, uw_Learner, t_Learner_ok, n_Learner, rfl, by decide +kernel⟩
set_option maxRecDepth 100000 in
theorem fl_Learner_18 : FL "SevenEights$Learner" 18 2 2 := ⟨R_Learner, F_Learner, 5, rfl, by decide, gi 71 rfl rfl, uw_Learner⟩
set_option maxRecDepth 100000 in
theorem fl_Learner_22 : FL "SevenEights$Learner" 22 2 3 := ⟨R_Learner, F_Learner, 5, rfl, by decide, gi 74 rfl rfl, uw_Learner⟩
set_option maxRecDepth 100000 in
theorem fl_Learner_25 : FL "SevenEights$Learner" 25 2 4 := ⟨R_Learner, F_Learner, 5, rfl, by decide, gi 77 rfl rfl, uw_Learner⟩
set_option maxRecDepth 100000 in
theorem lk_Learner_28 : LkSN "SevenEights$Learner" 28 m_S_firmAtFirst 1 := ⟨⟨"SevenEights", List.mem_of_getElem? (i := 12) rfl⟩, gi 463 rfl rfl, gi 1 rfl rfl, cw_S_firmAtFirst, by decide, ⟨by decide, by decide, by decide +kernel⟩⟩
set_option maxRecDepth 100000 in
theorem ac_Learner_32 : Cond.methodLink "SevenEights$Learner" 32 arraycopyName ∈ gtb ∧ Cond.native arraycopyName ∈ gtb ∧ Cond.static arraycopyName ∈ gtb ∧ Cond.initialized "java/lang/System" ∈ gtb := ⟨gi 645 rfl rfl, gi 446 rfl rfl, gi 445 rfl rfl, gi 18 rfl rfl⟩
set_option maxRecDepth 100000 in
theorem mm_Learner_38 : Cond.methodLink "SevenEights$Learner" 38 Lib.Math.max.name ∈ gtb ∧ Cond.static Lib.Math.max.name ∈ gtb ∧ Cond.initialized "java/lang/Math" ∈ gtb ∧ Cond.code Lib.Math.max.name Lib.Math.max.code 2 (some .int) ∈ gtb := ⟨gi 548 rfl rfl, gi 419 rfl rfl, gi 17 rfl rfl, gi 420 rfl rfl⟩
set_option maxRecDepth 100000 in
theorem mm_Learner_44 : Cond.methodLink "SevenEights$Learner" 44 Lib.Math.min.name ∈ gtb ∧ Cond.static Lib.Math.min.name ∈ gtb ∧ Cond.initialized "java/lang/Math" ∈ gtb ∧ Cond.code Lib.Math.min.name Lib.Math.min.code 2 (some .int) ∈ gtb := ⟨gi 513 rfl rfl, gi 416 rfl rfl, gi 17 rfl rfl, gi 417 rfl rfl⟩
set_option maxRecDepth 100000 in
theorem lk_Learner_47 : LkV "SevenEights$Learner" 47 m_Learner_feeling 2 2 := ⟨gi 561 rfl rfl, gi 545 rfl rfl, gi 546 rfl rfl, gi 4 rfl rfl, cw_Learner_feeling, by decide, ⟨by decide, by decide, by decide +kernel⟩, _, rfl, rfl⟩
set_option maxRecDepth 100000 in
theorem cw_Learner_takesBy : Cond.code m_Learner_takesBy.1 m_Learner_takesBy.2.1 m_Learner_takesBy.2.2.1 m_Learner_takesBy.2.2.2 ∈ gtb := gi 564 rfl rfl
set_option maxRecDepth 100000 in
theorem lk_Learner_50 : LkS "SevenEights$Learner" 50 m_Learner_takesBy 1 := ⟨gi 562 rfl rfl, gi 563 rfl rfl, gi 4 rfl rfl, cw_Learner_takesBy, by decide, ⟨by decide, by decide, by decide +kernel⟩⟩
set_option maxRecDepth 100000 in
theorem lk_Learner_53 : LkSN "SevenEights$Learner" 53 m_S_firmWhenTold 1 := ⟨⟨"SevenEights", List.mem_of_getElem? (i := 15) rfl⟩, gi 607 rfl rfl, gi 1 rfl rfl, cw_S_firmWhenTold, by decide, ⟨by decide, by decide, by decide +kernel⟩⟩
set_option maxRecDepth 100000 in
theorem lk_Learner_56 : LkV "SevenEights$Learner" 56 m_Answer_isProduct 0 0 := ⟨gi 594 rfl rfl, gi 595 rfl rfl, gi 596 rfl rfl, gi 6 rfl rfl, cw_Answer_isProduct, by decide, ⟨by decide, by decide, by decide +kernel⟩, _, rfl, rfl⟩
set_option maxRecDepth 100000 in
theorem fl_Learner_62 : FL "SevenEights$Learner" 62 0 1 := ⟨R_Answer, F_Answer, 4, rfl, by decide, gi 147 rfl rfl, uw_Answer⟩
set_option maxRecDepth 100000 in
theorem fl_Learner_65 : FL "SevenEights$Learner" 65 0 3 := ⟨R_Answer, F_Answer, 4, rfl, by decide, gi 152 rfl rfl, uw_Answer⟩
set_option maxRecDepth 100000 in
theorem cw_S_firmBehindNights : Cond.code m_S_firmBehindNights.1 m_S_firmBehindNights.2.1 m_S_firmBehindNights.2.2.1 m_S_firmBehindNights.2.2.2 ∈ gtb := gi 623 rfl rfl
set_option maxRecDepth 100000 in
theorem lk_Learner_68 : LkSN "SevenEights$Learner" 68 m_S_firmBehindNights 4 := ⟨⟨"SevenEights", List.mem_of_getElem? (i := 16) rfl⟩, gi 622 rfl rfl, gi 1 rfl rfl, cw_S_firmBehindNights, by decide, ⟨by decide, by decide, by decide +kernel⟩⟩
set_option maxRecDepth 100000 in
theorem lk_Learner_72 : LkV "SevenEights$Learner" 72 m_Learner_box 1 2 := ⟨gi 518 rfl rfl, gi 510 rfl rfl, gi 511 rfl rfl, gi 4 rfl rfl, cw_Learner_box, by decide, ⟨by decide, by decide, by decide +kernel⟩, _, rfl, rfl⟩
set_option maxRecDepth 100000 in
theorem fl_Lesson_9 : FL "SevenEights$Lesson" 9 3 0 := ⟨R_Lesson, F_Lesson, 4, rfl, by decide, gi 42 rfl rfl, uw_Lesson⟩
set_option maxRecDepth 100000 in
theorem fl_Lesson_15 : FL "SevenEights$Lesson" 15 3 1 := ⟨R_Lesson, F_Lesson, 4, rfl, by decide, gi 44 rfl rfl, uw_Lesson⟩
set_option maxRecDepth 100000 in
theorem fl_Lesson_18 : FL "SevenEights$Lesson" 18 3 2 := ⟨R_Lesson, F_Lesson, 4, rfl, by decide, gi 46 rfl rfl, uw_Lesson⟩
set_option maxRecDepth 100000 in
theorem fl_Lesson_21 : FL "SevenEights$Lesson" 21 3 3 := ⟨R_Lesson, F_Lesson, 4, rfl, by decide, gi 48 rfl rfl, uw_Lesson⟩
set_option maxRecDepth 100000 in
theorem fp_Lesson_21 : FP "SevenEights$Lesson" 21 3 3 .int := ⟨R_Lesson, F_Lesson, 4, t_Lesson, rfl, by decide, gi 48 rfl rfl, uw_Lesson, t_Lesson_ok, n_Lesson, rfl, by decide +kernel⟩
set_option maxRecDepth 100000 in
theorem ac_Lesson_25 : Cond.methodLink "SevenEights$Lesson" 25 arraycopyName ∈ gtb ∧ Cond.native arraycopyName ∈ gtb ∧ Cond.static arraycopyName ∈ gtb ∧ Cond.initialized "java/lang/System" ∈ gtb := ⟨gi 444 rfl rfl, gi 446 rfl rfl, gi 445 rfl rfl, gi 18 rfl rfl⟩
set_option maxRecDepth 100000 in
theorem fl_Plan_9 : FL "SevenEights$Plan" 9 4 0 := ⟨R_Plan, F_Plan, 5, rfl, by decide, gi 169 rfl rfl, uw_Plan⟩
set_option maxRecDepth 100000 in
theorem fl_Plan_15 : FL "SevenEights$Plan" 15 4 1 := ⟨R_Plan, F_Plan, 5, rfl, by decide, gi 170 rfl rfl, uw_Plan⟩
set_option maxRecDepth 100000 in
theorem fl_Plan_18 : FL "SevenEights$Plan" 18 4 2 := ⟨R_Plan, F_Plan, 5, rfl, by decide, gi 171 rfl rfl, uw_Plan⟩
set_option maxRecDepth 100000 in
theorem fp_Plan_18 : FP "SevenEights$Plan" 18 4 2 .int := ⟨R_Plan, F_Plan, 5, t_Plan, rfl, by decide, gi 171 rfl rfl, uw_Plan, t_Plan_ok, n_Plan, rfl, by decide +kernel⟩
set_option maxRecDepth 100000 in
theorem fl_Plan_22 : FL "SevenEights$Plan" 22 4 3 := ⟨R_Plan, F_Plan, 5, rfl, by decide, gi 173 rfl rfl, uw_Plan⟩
set_option maxRecDepth 100000 in
theorem fp_Plan_22 : FP "SevenEights$Plan" 22 4 3 .int := ⟨R_Plan, F_Plan, 5, t_Plan, rfl, by decide, gi 173 rfl rfl, uw_Plan, t_Plan_ok, n_Plan, rfl, by decide +kernel⟩
set_option maxRecDepth 100000 in
theorem fp_Plan_25 : FP "SevenEights$Plan" 25 4 4 .int := ⟨R_Plan, F_Plan, 5, t_Plan, rfl, by decide, gi 175 rfl rfl, uw_Plan, t_Plan_ok, n_Plan, rfl, by decide +kernel⟩
set_option maxRecDepth 100000 in
theorem fl_Plan_28 : FL "SevenEights$Plan" 28 2 3 := ⟨R_Learner, F_Learner, 5, rfl, by decide, gi 75 rfl rfl, uw_Learner⟩
set_option maxRecDepth 100000 in
theorem fl_Plan_33 : FL "SevenEights$Plan" 33 2 2 := ⟨R_Learner, F_Learner, 5, rfl, by decide, gi 72 rfl rfl, uw_Learner⟩
set_option maxRecDepth 100000 in
theorem lk_Plan_36 : LkSN "SevenEights$Plan" 36 m_S_firmWhenTold 1 := ⟨⟨"SevenEights", List.mem_of_getElem? (i := 17) rfl⟩, gi 607 rfl rfl, gi 1 rfl rfl, cw_S_firmWhenTold, by decide, ⟨by decide, by decide, by decide +kernel⟩⟩
set_option maxRecDepth 100000 in
theorem lk_Plan_40 : LkSN "SevenEights$Plan" 40 m_S_firmBehindNights 4 := ⟨⟨"SevenEights", List.mem_of_getElem? (i := 18) rfl⟩, gi 622 rfl rfl, gi 1 rfl rfl, cw_S_firmBehindNights, by decide, ⟨by decide, by decide, by decide +kernel⟩⟩
set_option maxRecDepth 100000 in
theorem cw_Plan_offer : Cond.code m_Plan_offer.1 m_Plan_offer.2.1 m_Plan_offer.2.2.1 m_Plan_offer.2.2.2 ∈ gtb := gi 678 rfl rfl
set_option maxRecDepth 100000 in
theorem lk_Plan_44 : LkV "SevenEights$Plan" 44 m_Plan_offer 2 4 := ⟨gi 675 rfl rfl, gi 677 rfl rfl, gs (q := (⟨"SevenEights$Plan", "offer", "(II)V"⟩, 5)) 12 rfl rfl, gi 7 rfl rfl, cw_Plan_offer, by decide, ⟨by decide, by decide, by decide +kernel⟩, _, rfl, rfl⟩
set_option maxRecDepth 100000 in
theorem fl_Rows_9 : FL "SevenEights$Rows" 9 5 0 := ⟨R_Rows, F_Rows, 2, rfl, by decide, gi 194 rfl rfl, uw_Rows⟩
set_option maxRecDepth 100000 in
theorem fl_Rows_15 : FL "SevenEights$Rows" 15 5 1 := ⟨R_Rows, F_Rows, 2, rfl, by decide, gi 196 rfl rfl, uw_Rows⟩
set_option maxRecDepth 100000 in
theorem fp_Rows_15 : FP "SevenEights$Rows" 15 5 1 .int := ⟨R_Rows, F_Rows, 2, t_Rows, rfl, by decide, gi 196 rfl rfl, uw_Rows, t_Rows_ok, n_Rows, rfl, by decide +kernel⟩
set_option maxRecDepth 100000 in
theorem lk_Rows_19 : LkSN "SevenEights$Rows" 19 m_S_isWithin 2 := ⟨⟨"SevenEights", List.mem_of_getElem? (i := 19) rfl⟩, gi 452 rfl rfl, gi 1 rfl rfl, cw_S_isWithin, by decide, ⟨by decide, by decide, by decide +kernel⟩⟩
set_option maxRecDepth 100000 in
theorem fl_School_11 : FL "SevenEights$School" 11 6 0 := ⟨R_School, F_School, 6, rfl, by decide, gi 90 rfl rfl, uw_School⟩
set_option maxRecDepth 100000 in
theorem fl_School_17 : FL "SevenEights$School" 17 6 1 := ⟨R_School, F_School, 6, rfl, by decide, gi 92 rfl rfl, uw_School⟩
set_option maxRecDepth 100000 in
theorem fp_School_17 : FP "SevenEights$School" 17 6 1 .int := ⟨R_School, F_School, 6, t_School, rfl, by decide, gi 92 rfl rfl, uw_School, t_School_ok, n_School, rfl, by decide +kernel⟩
set_option maxRecDepth 100000 in
theorem fl_School_21 : FL "SevenEights$School" 21 6 2 := ⟨R_School, F_School, 6, rfl, by decide, gi 94 rfl rfl, uw_School⟩
set_option maxRecDepth 100000 in
theorem fl_School_25 : FL "SevenEights$School" 25 6 3 := ⟨R_School, F_School, 6, rfl, by decide, gi 96 rfl rfl, uw_School⟩
set_option maxRecDepth 100000 in
theorem fp_School_25 : FP "SevenEights$School" 25 6 3 .int := ⟨R_School, F_School, 6, t_School, rfl, by decide, gi 96 rfl rfl, uw_School, t_School_ok, n_School, rfl, by decide +kernel⟩
set_option maxRecDepth 100000 in
theorem fl_School_28 : FL "SevenEights$School" 28 6 4 := ⟨R_School, F_School, 6, rfl, by decide, gi 98 rfl rfl, uw_School⟩
set_option maxRecDepth 100000 in
theorem fp_School_28 : FP "SevenEights$School" 28 6 4 .int := ⟨R_School, F_School, 6, t_School, rfl, by decide, gi 98 rfl rfl, uw_School, t_School_ok, n_School, rfl, by decide +kernel⟩
set_option maxRecDepth 100000 in
theorem fl_School_34 : FL "SevenEights$School" 34 6 5 := ⟨R_School, F_School, 6, rfl, by decide, gi 100 rfl rfl, uw_School⟩
set_option maxRecDepth 100000 in
theorem cw_Learner_start : Cond.code m_Learner_start.1 m_Learner_start.2.1 m_Learner_start.2.2.1 m_Learner_start.2.2.2 ∈ gtb := gi 461 rfl rfl
set_option maxRecDepth 100000 in
theorem lk_School_39 : LkV "SevenEights$School" 39 m_Learner_start 2 2 := ⟨gi 458 rfl rfl, gi 459 rfl rfl, gi 460 rfl rfl, gi 4 rfl rfl, cw_Learner_start, by decide, ⟨by decide, by decide, by decide +kernel⟩, _, rfl, rfl⟩
set_option maxRecDepth 100000 in
theorem lk_School_43 : LkV "SevenEights$School" 43 m_Learner_sleep 2 2 := ⟨gi 617 rfl rfl, gi 618 rfl rfl, gi 619 rfl rfl, gi 4 rfl rfl, cw_Learner_sleep, by decide, ⟨by decide, by decide, by decide +kernel⟩, _, rfl, rfl⟩
set_option maxRecDepth 100000 in
theorem lk_School_46 : LkV "SevenEights$School" 46 m_Learner_copyFrom 1 2 := ⟨gi 876 rfl rfl, gi 642 rfl rfl, gi 643 rfl rfl, gi 4 rfl rfl, cw_Learner_copyFrom, by decide, ⟨by decide, by decide, by decide +kernel⟩, _, rfl, rfl⟩
set_option maxRecDepth 100000 in
theorem ac_School_50 : Cond.methodLink "SevenEights$School" 50 arraycopyName ∈ gtb ∧ Cond.native arraycopyName ∈ gtb ∧ Cond.static arraycopyName ∈ gtb ∧ Cond.initialized "java/lang/System" ∈ gtb := ⟨gi 877 rfl rfl, gi 446 rfl rfl, gi 445 rfl rfl, gi 18 rfl rfl⟩
set_option maxRecDepth 100000 in
theorem lk_School_56 : LkV "SevenEights$School" 56 m_Lesson_copyFrom 1 3 := ⟨gi 878 rfl rfl, gi 441 rfl rfl, gi 442 rfl rfl, gi 3 rfl rfl, cw_Lesson_copyFrom, by decide, ⟨by decide, by decide, by decide +kernel⟩, _, rfl, rfl⟩
set_option maxRecDepth 100000 in
theorem fl_Sheet_9 : FL "SevenEights$Sheet" 9 7 0 := ⟨R_Sheet, F_Sheet, 3, rfl, by decide, gi 242 rfl rfl, uw_Sheet⟩
set_option maxRecDepth 100000 in
theorem fp_Sheet_9 : FP "SevenEights$Sheet" 9 7 0 .int := ⟨R_Sheet, F_Sheet, 3, t_Sheet, rfl, by decide, gi 242 rfl rfl, uw_Sheet, t_Sheet_ok, n_Sheet, rfl, by decide +kernel⟩
set_option maxRecDepth 100000 in
theorem fp_Sheet_15 : FP "SevenEights$Sheet" 15 7 1 .int := ⟨R_Sheet, F_Sheet, 3, t_Sheet, rfl, by decide, gi 245 rfl rfl, uw_Sheet, t_Sheet_ok, n_Sheet, rfl, by decide +kernel⟩
set_option maxRecDepth 100000 in
theorem fl_Sheet_18 : FL "SevenEights$Sheet" 18 7 2 := ⟨R_Sheet, F_Sheet, 3, rfl, by decide, gi 248 rfl rfl, uw_Sheet⟩
set_option maxRecDepth 100000 in
theorem fp_Shelf_9 : FP "SevenEights$Shelf" 9 8 0 .int := ⟨R_Shelf, F_Shelf, 3, t_Shelf, rfl, by decide, gi 263 rfl rfl, uw_Shelf, t_Shelf_ok, n_Shelf, rfl, by decide +kernel⟩
set_option maxRecDepth 100000 in
theorem fl_Shelf_15 : FL "SevenEights$Shelf" 15 8 1 := ⟨R_Shelf, F_Shelf, 3, rfl, by decide, gi 265 rfl rfl, uw_Shelf⟩
set_option maxRecDepth 100000 in
theorem fp_Shelf_15 : FP "SevenEights$Shelf" 15 8 1 .int := ⟨R_Shelf, F_Shelf, 3, t_Shelf, rfl, by decide, gi 265 rfl rfl, uw_Shelf, t_Shelf_ok, n_Shelf, rfl, by decide +kernel⟩
set_option maxRecDepth 100000 in
theorem fp_Shelf_18 : FP "SevenEights$Shelf" 18 8 2 .int := ⟨R_Shelf, F_Shelf, 3, t_Shelf, rfl, by decide, gi 267 rfl rfl, uw_Shelf, t_Shelf_ok, n_Shelf, rfl, by decide +kernel⟩
set_option maxRecDepth 100000 in
theorem lk_Shelf_21 : LkV "SevenEights$Shelf" 21 m_Shelf_holdNothing 0 8 := ⟨gi 803 rfl rfl, gi 804 rfl rfl, gi 805 rfl rfl, gi 11 rfl rfl, cw_Shelf_holdNothing, by decide, ⟨by decide, by decide, by decide +kernel⟩, _, rfl, rfl⟩
set_option maxRecDepth 100000 in
theorem fl_Shelf_24 : FL "SevenEights$Shelf" 24 7 0 := ⟨R_Sheet, F_Sheet, 3, rfl, by decide, gi 243 rfl rfl, uw_Sheet⟩
set_option maxRecDepth 100000 in
theorem fl_Shelf_27 : FL "SevenEights$Shelf" 27 7 1 := ⟨R_Sheet, F_Sheet, 3, rfl, by decide, gi 246 rfl rfl, uw_Sheet⟩
set_option maxRecDepth 100000 in
theorem fl_Text_9 : FL "SevenEights$Text" 9 9 0 := ⟨R_Text, F_Text, 3, rfl, by decide, gi 121 rfl rfl, uw_Text⟩
set_option maxRecDepth 100000 in
theorem fl_Text_15 : FL "SevenEights$Text" 15 9 1 := ⟨R_Text, F_Text, 3, rfl, by decide, gi 122 rfl rfl, uw_Text⟩
set_option maxRecDepth 100000 in
theorem fp_Text_15 : FP "SevenEights$Text" 15 9 1 .int := ⟨R_Text, F_Text, 3, t_Text, rfl, by decide, gi 122 rfl rfl, uw_Text, t_Text_ok, n_Text, rfl, by decide +kernel⟩
set_option maxRecDepth 100000 in
theorem fl_Text_19 : FL "SevenEights$Text" 19 9 2 := ⟨R_Text, F_Text, 3, rfl, by decide, gi 124 rfl rfl, uw_Text⟩
set_option maxRecDepth 100000 in
theorem fp_Text_19 : FP "SevenEights$Text" 19 9 2 .int := ⟨R_Text, F_Text, 3, t_Text, rfl, by decide, gi 124 rfl rfl, uw_Text, t_Text_ok, n_Text, rfl, by decide +kernel⟩
set_option maxRecDepth 100000 in
theorem fp_Text_22 : FP "SevenEights$Text" 22 3 3 .int := ⟨R_Lesson, F_Lesson, 4, t_Lesson, rfl, by decide, gi 49 rfl rfl, uw_Lesson, t_Lesson_ok, n_Lesson, rfl, by decide +kernel⟩
set_option maxRecDepth 100000 in
theorem cw_Text_skipBlanks : Cond.code m_Text_skipBlanks.1 m_Text_skipBlanks.2.1 m_Text_skipBlanks.2.2.1 m_Text_skipBlanks.2.2.2 ∈ gtb := gi 338 rfl rfl
set_option maxRecDepth 100000 in
theorem lk_Text_27 : LkV "SevenEights$Text" 27 m_Text_skipBlanks 0 9 := ⟨gi 335 rfl rfl, gi 337 rfl rfl, gs (q := (⟨"SevenEights$Text", "skipBlanks", "()V"⟩, 3)) 0 rfl rfl, gi 5 rfl rfl, cw_Text_skipBlanks, by decide, ⟨by decide, by decide, by decide +kernel⟩, _, rfl, rfl⟩
set_option maxRecDepth 100000 in
theorem cw_Text_readItem : Cond.code m_Text_readItem.1 m_Text_readItem.2.1 m_Text_readItem.2.2.1 m_Text_readItem.2.2.2 ∈ gtb := gi 342 rfl rfl
set_option maxRecDepth 100000 in
theorem lk_Text_30 : LkV "SevenEights$Text" 30 m_Text_readItem 1 9 := ⟨gi 339 rfl rfl, gi 341 rfl rfl, gs (q := (⟨"SevenEights$Text", "readItem", "(LSevenEights$Lesson;)Z"⟩, 3)) 1 rfl rfl, gi 5 rfl rfl, cw_Text_readItem, by decide, ⟨by decide, by decide, by decide +kernel⟩, _, rfl, rfl⟩
set_option maxRecDepth 100000 in
theorem cw_Text_isNextName : Cond.code m_Text_isNextName.1 m_Text_isNextName.2.1 m_Text_isNextName.2.2.1 m_Text_isNextName.2.2.2 ∈ gtb := gi 347 rfl rfl
set_option maxRecDepth 100000 in
theorem lk_Text_36 : LkV "SevenEights$Text" 36 m_Text_isNextName 1 9 := ⟨gi 344 rfl rfl, gi 346 rfl rfl, gs (q := (⟨"SevenEights$Text", "isNextName", "(Ljava/lang/String;)Z"⟩, 3)) 2 rfl rfl, gi 5 rfl rfl, cw_Text_isNextName, by decide, ⟨by decide, by decide, by decide +kernel⟩, _, rfl, rfl⟩
set_option maxRecDepth 100000 in
theorem cw_Text_readAsk : Cond.code m_Text_readAsk.1 m_Text_readAsk.2.1 m_Text_readAsk.2.2.1 m_Text_readAsk.2.2.2 ∈ gtb := gi 403 rfl rfl
set_option maxRecDepth 100000 in
theorem lk_Text_40 : LkV "SevenEights$Text" 40 m_Text_readAsk 1 9 := ⟨gi 400 rfl rfl, gi 402 rfl rfl, gs (q := (⟨"SevenEights$Text", "readAsk", "(LSevenEights$Lesson;)Z"⟩, 3)) 4 rfl rfl, gi 5 rfl rfl, cw_Text_readAsk, by decide, ⟨by decide, by decide, by decide +kernel⟩, _, rfl, rfl⟩
set_option maxRecDepth 100000 in
theorem cw_Text_readTell : Cond.code m_Text_readTell.1 m_Text_readTell.2.1 m_Text_readTell.2.2.1 m_Text_readTell.2.2.2 ∈ gtb := gi 434 rfl rfl
set_option maxRecDepth 100000 in
theorem lk_Text_45 : LkV "SevenEights$Text" 45 m_Text_readTell 1 9 := ⟨gi 431 rfl rfl, gi 433 rfl rfl, gs (q := (⟨"SevenEights$Text", "readTell", "(LSevenEights$Lesson;)Z"⟩, 3)) 8 rfl rfl, gi 5 rfl rfl, cw_Text_readTell, by decide, ⟨by decide, by decide, by decide +kernel⟩, _, rfl, rfl⟩
set_option maxRecDepth 100000 in
theorem cw_Text_readRest : Cond.code m_Text_readRest.1 m_Text_readRest.2.1 m_Text_readRest.2.2.1 m_Text_readRest.2.2.2 ∈ gtb := gi 439 rfl rfl
set_option maxRecDepth 100000 in
theorem lk_Text_50 : LkV "SevenEights$Text" 50 m_Text_readRest 1 9 := ⟨gi 436 rfl rfl, gi 438 rfl rfl, gs (q := (⟨"SevenEights$Text", "readRest", "(LSevenEights$Lesson;)Z"⟩, 3)) 9 rfl rfl, gi 5 rfl rfl, cw_Text_readRest, by decide, ⟨by decide, by decide, by decide +kernel⟩, _, rfl, rfl⟩
set_option maxRecDepth 100000 in
theorem cw_Text_readPair : Cond.code m_Text_readPair.1 m_Text_readPair.2.1 m_Text_readPair.2.2.1 m_Text_readPair.2.2.2 ∈ gtb := gi 407 rfl rfl
set_option maxRecDepth 100000 in
theorem lk_Text_53 : LkV "SevenEights$Text" 53 m_Text_readPair 0 9 := ⟨gi 404 rfl rfl, gi 406 rfl rfl, gs (q := (⟨"SevenEights$Text", "readPair", "()I"⟩, 3)) 5 rfl rfl, gi 5 rfl rfl, cw_Text_readPair, by decide, ⟨by decide, by decide, by decide +kernel⟩, _, rfl, rfl⟩
set_option maxRecDepth 100000 in
theorem cw_Text_readNumber : Cond.code m_Text_readNumber.1 m_Text_readNumber.2.1 m_Text_readNumber.2.2.1 m_Text_readNumber.2.2.2 ∈ gtb := gi 411 rfl rfl
set_option maxRecDepth 100000 in
theorem lk_Text_59 : LkV "SevenEights$Text" 59 m_Text_readNumber 2 9 := ⟨gi 408 rfl rfl, gi 410 rfl rfl, gs (q := (⟨"SevenEights$Text", "readNumber", "(II)I"⟩, 3)) 6 rfl rfl, gi 5 rfl rfl, cw_Text_readNumber, by decide, ⟨by decide, by decide, by decide +kernel⟩, _, rfl, rfl⟩
set_option maxRecDepth 100000 in
theorem cw_Text_isNextSemicolon : Cond.code m_Text_isNextSemicolon.1 m_Text_isNextSemicolon.2.1 m_Text_isNextSemicolon.2.2.1 m_Text_isNextSemicolon.2.2.2 ∈ gtb := gi 425 rfl rfl
set_option maxRecDepth 100000 in
theorem lk_Text_63 : LkV "SevenEights$Text" 63 m_Text_isNextSemicolon 0 9 := ⟨gi 422 rfl rfl, gi 424 rfl rfl, gs (q := (⟨"SevenEights$Text", "isNextSemicolon", "()Z"⟩, 3)) 7 rfl rfl, gi 5 rfl rfl, cw_Text_isNextSemicolon, by decide, ⟨by decide, by decide, by decide +kernel⟩, _, rfl, rfl⟩
set_option maxRecDepth 100000 in
theorem cw_Lesson_append : Cond.code m_Lesson_append.1 m_Lesson_append.2.1 m_Lesson_append.2.2.1 m_Lesson_append.2.2.2 ∈ gtb := gi 429 rfl rfl
set_option maxRecDepth 100000 in
theorem lk_Text_67 : LkV "SevenEights$Text" 67 m_Lesson_append 3 3 := ⟨gi 426 rfl rfl, gi 427 rfl rfl, gi 428 rfl rfl, gi 3 rfl rfl, cw_Lesson_append, by decide, ⟨by decide, by decide, by decide +kernel⟩, _, rfl, rfl⟩
set_option maxRecDepth 100000 in
theorem lk_Text_71 : LkSN "SevenEights$Text" 71 m_S_pairAt 2 := ⟨⟨"SevenEights", List.mem_of_getElem? (i := 11) rfl⟩, gi 413 rfl rfl, gi 1 rfl rfl, cw_S_pairAt, by decide, ⟨by decide, by decide, by decide +kernel⟩⟩
set_option maxRecDepth 100000 in
theorem cw_Text_endOfRow : Cond.code m_Text_endOfRow.1 m_Text_endOfRow.2.1 m_Text_endOfRow.2.2.1 m_Text_endOfRow.2.2.2 ∈ gtb := gi 351 rfl rfl
set_option maxRecDepth 100000 in
theorem lk_Text_74 : LkV "SevenEights$Text" 74 m_Text_endOfRow 2 9 := ⟨gi 348 rfl rfl, gi 350 rfl rfl, gs (q := (⟨"SevenEights$Text", "endOfRow", "(CC)I"⟩, 3)) 3 rfl rfl, gi 5 rfl rfl, cw_Text_endOfRow, by decide, ⟨by decide, by decide, by decide +kernel⟩, _, rfl, rfl⟩
set_option maxRecDepth 100000 in
theorem cw_JString_length : Cond.code m_JString_length.1 m_JString_length.2.1 m_JString_length.2.2.1 m_JString_length.2.2.2 ∈ gtb := gi 355 rfl rfl
set_option maxRecDepth 100000 in
theorem cw_JString_charAt : Cond.code m_JString_charAt.1 m_JString_charAt.2.1 m_JString_charAt.2.2.1 m_JString_charAt.2.2.2 ∈ gtb := gi 365 rfl rfl
set_option maxRecDepth 100000 in
theorem kc_L_13 : Cond.constantLong "SevenEightsLaw" 13 (4294967295) ∈ gtb := gi 1459 rfl rfl
set_option maxRecDepth 100000 in
theorem cw_S_feed : Cond.code m_S_feed.1 m_S_feed.2.1 m_S_feed.2.2.1 m_S_feed.2.2.2 ∈ gtb := gi 322 rfl rfl
set_option maxRecDepth 100000 in
theorem lk_L_15 : LkV "SevenEightsLaw" 15 m_S_feed 2 10 := ⟨gi 319 rfl rfl, gi 320 rfl rfl, gi 321 rfl rfl, gi 1 rfl rfl, cw_S_feed, by decide, ⟨by decide, by decide, by decide +kernel⟩, _, rfl, rfl⟩
set_option maxRecDepth 100000 in
theorem cw_M_feed : Cond.code m_M_feed.1 m_M_feed.2.1 m_M_feed.2.2.1 m_M_feed.2.2.2 ∈ gtb := gi 1262 rfl rfl
set_option maxRecDepth 100000 in
theorem lk_L_19 : LkV "SevenEightsLaw" 19 m_M_feed 2 11 := ⟨gi 1259 rfl rfl, gi 1260 rfl rfl, gi 1261 rfl rfl, gi 12 rfl rfl, cw_M_feed, by decide, ⟨by decide, by decide, by decide +kernel⟩, _, rfl, rfl⟩
set_option maxRecDepth 100000 in
theorem cw_S_lesson : Cond.code m_S_lesson.1 m_S_lesson.2.1 m_S_lesson.2.2.1 m_S_lesson.2.2.2 ∈ gtb := gi 330 rfl rfl
set_option maxRecDepth 100000 in
theorem lk_L_20 : LkV "SevenEightsLaw" 20 m_S_lesson 0 10 := ⟨gi 327 rfl rfl, gi 328 rfl rfl, gi 329 rfl rfl, gi 1 rfl rfl, cw_S_lesson, by decide, ⟨by decide, by decide, by decide +kernel⟩, _, rfl, rfl⟩
set_option maxRecDepth 100000 in
theorem cw_M_lesson : Cond.code m_M_lesson.1 m_M_lesson.2.1 m_M_lesson.2.2.1 m_M_lesson.2.2.2 ∈ gtb := gi 1267 rfl rfl
set_option maxRecDepth 100000 in
theorem lk_L_24 : LkV "SevenEightsLaw" 24 m_M_lesson 0 11 := ⟨gi 1264 rfl rfl, gi 1265 rfl rfl, gi 1266 rfl rfl, gi 12 rfl rfl, cw_M_lesson, by decide, ⟨by decide, by decide, by decide +kernel⟩, _, rfl, rfl⟩
set_option maxRecDepth 100000 in
theorem cw_S_learner : Cond.code m_S_learner.1 m_S_learner.2.1 m_S_learner.2.2.1 m_S_learner.2.2.2 ∈ gtb := gi 450 rfl rfl
set_option maxRecDepth 100000 in
theorem lk_L_25 : LkV "SevenEightsLaw" 25 m_S_learner 2 10 := ⟨gi 447 rfl rfl, gi 448 rfl rfl, gi 449 rfl rfl, gi 1 rfl rfl, cw_S_learner, by decide, ⟨by decide, by decide, by decide +kernel⟩, _, rfl, rfl⟩
set_option maxRecDepth 100000 in
theorem cw_M_learner : Cond.code m_M_learner.1 m_M_learner.2.1 m_M_learner.2.2.1 m_M_learner.2.2.2 ∈ gtb := gi 1056 rfl rfl
set_option maxRecDepth 100000 in
theorem lk_L_29 : LkV "SevenEightsLaw" 29 m_M_learner 2 11 := ⟨gi 1053 rfl rfl, gi 1054 rfl rfl, gi 1055 rfl rfl, gi 12 rfl rfl, cw_M_learner, by decide, ⟨by decide, by decide, by decide +kernel⟩, _, rfl, rfl⟩
set_option maxRecDepth 100000 in
theorem cw_S_learnerOf : Cond.code m_S_learnerOf.1 m_S_learnerOf.2.1 m_S_learnerOf.2.2.1 m_S_learnerOf.2.2.2 ∈ gtb := gi 472 rfl rfl
set_option maxRecDepth 100000 in
theorem lk_L_30 : LkV "SevenEightsLaw" 30 m_S_learnerOf 2 10 := ⟨gi 469 rfl rfl, gi 470 rfl rfl, gi 471 rfl rfl, gi 1 rfl rfl, cw_S_learnerOf, by decide, ⟨by decide, by decide, by decide +kernel⟩, _, rfl, rfl⟩
set_option maxRecDepth 100000 in
theorem cw_M_learnerOf : Cond.code m_M_learnerOf.1 m_M_learnerOf.2.1 m_M_learnerOf.2.2.1 m_M_learnerOf.2.2.2 ∈ gtb := gi 1064 rfl rfl
set_option maxRecDepth 100000 in
theorem lk_L_33 : LkV "SevenEightsLaw" 33 m_M_learnerOf 2 11 := ⟨gi 1061 rfl rfl, gi 1062 rfl rfl, gi 1063 rfl rfl, gi 12 rfl rfl, cw_M_learnerOf, by decide, ⟨by decide, by decide, by decide +kernel⟩, _, rfl, rfl⟩
set_option maxRecDepth 100000 in
theorem cw_S_pair : Cond.code m_S_pair.1 m_S_pair.2.1 m_S_pair.2.2.1 m_S_pair.2.2.2 ∈ gtb := gi 484 rfl rfl
set_option maxRecDepth 100000 in
theorem lk_L_34 : LkV "SevenEightsLaw" 34 m_S_pair 2 10 := ⟨gi 481 rfl rfl, gi 482 rfl rfl, gi 483 rfl rfl, gi 1 rfl rfl, cw_S_pair, by decide, ⟨by decide, by decide, by decide +kernel⟩, _, rfl, rfl⟩
set_option maxRecDepth 100000 in
theorem cw_M_pair : Cond.code m_M_pair.1 m_M_pair.2.1 m_M_pair.2.2.1 m_M_pair.2.2.2 ∈ gtb := gi 1016 rfl rfl
set_option maxRecDepth 100000 in
theorem lk_L_37 : LkV "SevenEightsLaw" 37 m_M_pair 2 11 := ⟨gi 1013 rfl rfl, gi 1014 rfl rfl, gi 1015 rfl rfl, gi 12 rfl rfl, cw_M_pair, by decide, ⟨by decide, by decide, by decide +kernel⟩, _, rfl, rfl⟩
set_option maxRecDepth 100000 in
theorem cw_S_pairOf : Cond.code m_S_pairOf.1 m_S_pairOf.2.1 m_S_pairOf.2.2.1 m_S_pairOf.2.2.2 ∈ gtb := gi 489 rfl rfl
set_option maxRecDepth 100000 in
theorem lk_L_38 : LkV "SevenEightsLaw" 38 m_S_pairOf 2 10 := ⟨gi 486 rfl rfl, gi 487 rfl rfl, gi 488 rfl rfl, gi 1 rfl rfl, cw_S_pairOf, by decide, ⟨by decide, by decide, by decide +kernel⟩, _, rfl, rfl⟩
set_option maxRecDepth 100000 in
theorem cw_M_pairOf : Cond.code m_M_pairOf.1 m_M_pairOf.2.1 m_M_pairOf.2.2.1 m_M_pairOf.2.2.2 ∈ gtb := gi 1026 rfl rfl
set_option maxRecDepth 100000 in
theorem lk_L_41 : LkV "SevenEightsLaw" 41 m_M_pairOf 2 11 := ⟨gi 1023 rfl rfl, gi 1024 rfl rfl, gi 1025 rfl rfl, gi 12 rfl rfl, cw_M_pairOf, by decide, ⟨by decide, by decide, by decide +kernel⟩, _, rfl, rfl⟩
set_option maxRecDepth 100000 in
theorem cw_S_tied : Cond.code m_S_tied.1 m_S_tied.2.1 m_S_tied.2.2.1 m_S_tied.2.2.2 ∈ gtb := gi 500 rfl rfl
set_option maxRecDepth 100000 in
theorem lk_L_42 : LkV "SevenEightsLaw" 42 m_S_tied 1 10 := ⟨gi 497 rfl rfl, gi 498 rfl rfl, gi 499 rfl rfl, gi 1 rfl rfl, cw_S_tied, by decide, ⟨by decide, by decide, by decide +kernel⟩, _, rfl, rfl⟩
set_option maxRecDepth 100000 in
theorem cw_M_tied : Cond.code m_M_tied.1 m_M_tied.2.1 m_M_tied.2.2.1 m_M_tied.2.2.2 ∈ gtb := gi 1045 rfl rfl
set_option maxRecDepth 100000 in
theorem lk_L_46 : LkV "SevenEightsLaw" 46 m_M_tied 1 11 := ⟨gi 1042 rfl rfl, gi 1043 rfl rfl, gi 1044 rfl rfl, gi 12 rfl rfl, cw_M_tied, by decide, ⟨by decide, by decide, by decide +kernel⟩, _, rfl, rfl⟩
set_option maxRecDepth 100000 in
theorem cw_S_head : Cond.code m_S_head.1 m_S_head.2.1 m_S_head.2.2.1 m_S_head.2.2.2 ∈ gtb := gi 508 rfl rfl
set_option maxRecDepth 100000 in
theorem lk_L_47 : LkV "SevenEightsLaw" 47 m_S_head 3 10 := ⟨gi 505 rfl rfl, gi 506 rfl rfl, gi 507 rfl rfl, gi 1 rfl rfl, cw_S_head, by decide, ⟨by decide, by decide, by decide +kernel⟩, _, rfl, rfl⟩
set_option maxRecDepth 100000 in
theorem cw_M_head : Cond.code m_M_head.1 m_M_head.2.1 m_M_head.2.2.1 m_M_head.2.2.2 ∈ gtb := gi 1088 rfl rfl
set_option maxRecDepth 100000 in
theorem lk_L_51 : LkV "SevenEightsLaw" 51 m_M_head 3 11 := ⟨gi 1085 rfl rfl, gi 1086 rfl rfl, gi 1087 rfl rfl, gi 12 rfl rfl, cw_M_head, by decide, ⟨by decide, by decide, by decide +kernel⟩, _, rfl, rfl⟩
set_option maxRecDepth 100000 in
theorem cw_S_firm : Cond.code m_S_firm.1 m_S_firm.2.1 m_S_firm.2.2.1 m_S_firm.2.2.2 ∈ gtb := gi 522 rfl rfl
set_option maxRecDepth 100000 in
theorem lk_L_52 : LkV "SevenEightsLaw" 52 m_S_firm 3 10 := ⟨gi 519 rfl rfl, gi 520 rfl rfl, gi 521 rfl rfl, gi 1 rfl rfl, cw_S_firm, by decide, ⟨by decide, by decide, by decide +kernel⟩, _, rfl, rfl⟩
set_option maxRecDepth 100000 in
theorem cw_M_firm : Cond.code m_M_firm.1 m_M_firm.2.1 m_M_firm.2.2.1 m_M_firm.2.2.2 ∈ gtb := gi 1108 rfl rfl
set_option maxRecDepth 100000 in
theorem lk_L_55 : LkV "SevenEightsLaw" 55 m_M_firm 3 11 := ⟨gi 1105 rfl rfl, gi 1106 rfl rfl, gi 1107 rfl rfl, gi 12 rfl rfl, cw_M_firm, by decide, ⟨by decide, by decide, by decide +kernel⟩, _, rfl, rfl⟩
set_option maxRecDepth 100000 in
theorem cw_S_rights : Cond.code m_S_rights.1 m_S_rights.2.1 m_S_rights.2.2.1 m_S_rights.2.2.2 ∈ gtb := gi 526 rfl rfl
set_option maxRecDepth 100000 in
theorem lk_L_56 : LkV "SevenEightsLaw" 56 m_S_rights 3 10 := ⟨gi 523 rfl rfl, gi 524 rfl rfl, gi 525 rfl rfl, gi 1 rfl rfl, cw_S_rights, by decide, ⟨by decide, by decide, by decide +kernel⟩, _, rfl, rfl⟩
set_option maxRecDepth 100000 in
theorem cw_M_rights : Cond.code m_M_rights.1 m_M_rights.2.1 m_M_rights.2.2.1 m_M_rights.2.2.2 ∈ gtb := gi 1112 rfl rfl
set_option maxRecDepth 100000 in
theorem lk_L_59 : LkV "SevenEightsLaw" 59 m_M_rights 3 11 := ⟨gi 1109 rfl rfl, gi 1110 rfl rfl, gi 1111 rfl rfl, gi 12 rfl rfl, cw_M_rights, by decide, ⟨by decide, by decide, by decide +kernel⟩, _, rfl, rfl⟩
set_option maxRecDepth 100000 in
theorem cw_S_set : Cond.code m_S_set.1 m_S_set.2.1 m_S_set.2.2.1 m_S_set.2.2.2 ∈ gtb := gi 530 rfl rfl
set_option maxRecDepth 100000 in
theorem lk_L_60 : LkV "SevenEightsLaw" 60 m_S_set 2 10 := ⟨gi 527 rfl rfl, gi 528 rfl rfl, gi 529 rfl rfl, gi 1 rfl rfl, cw_S_set, by decide, ⟨by decide, by decide, by decide +kernel⟩, _, rfl, rfl⟩
set_option maxRecDepth 100000 in
theorem cw_M_set : Cond.code m_M_set.1 m_M_set.2.1 m_M_set.2.2.1 m_M_set.2.2.2 ∈ gtb := gi 1116 rfl rfl
set_option maxRecDepth 100000 in
theorem lk_L_63 : LkV "SevenEightsLaw" 63 m_M_set 2 11 := ⟨gi 1113 rfl rfl, gi 1114 rfl rfl, gi 1115 rfl rfl, gi 12 rfl rfl, cw_M_set, by decide, ⟨by decide, by decide, by decide +kernel⟩, _, rfl, rfl⟩
set_option maxRecDepth 100000 in
theorem cw_S_day : Cond.code m_S_day.1 m_S_day.2.1 m_S_day.2.2.1 m_S_day.2.2.2 ∈ gtb := gi 536 rfl rfl
set_option maxRecDepth 100000 in
theorem lk_L_64 : LkV "SevenEightsLaw" 64 m_S_day 0 10 := ⟨gi 533 rfl rfl, gi 534 rfl rfl, gi 535 rfl rfl, gi 1 rfl rfl, cw_S_day, by decide, ⟨by decide, by decide, by decide +kernel⟩, _, rfl, rfl⟩
set_option maxRecDepth 100000 in
theorem cw_M_day : Cond.code m_M_day.1 m_M_day.2.1 m_M_day.2.2.1 m_M_day.2.2.2 ∈ gtb := gi 1120 rfl rfl
set_option maxRecDepth 100000 in
theorem lk_L_67 : LkV "SevenEightsLaw" 67 m_M_day 0 11 := ⟨gi 1117 rfl rfl, gi 1118 rfl rfl, gi 1119 rfl rfl, gi 12 rfl rfl, cw_M_day, by decide, ⟨by decide, by decide, by decide +kernel⟩, _, rfl, rfl⟩
set_option maxRecDepth 100000 in
theorem cw_S_feel : Cond.code m_S_feel.1 m_S_feel.2.1 m_S_feel.2.2.1 m_S_feel.2.2.2 ∈ gtb := gi 540 rfl rfl
set_option maxRecDepth 100000 in
theorem lk_L_68 : LkV "SevenEightsLaw" 68 m_S_feel 3 10 := ⟨gi 537 rfl rfl, gi 538 rfl rfl, gi 539 rfl rfl, gi 1 rfl rfl, cw_S_feel, by decide, ⟨by decide, by decide, by decide +kernel⟩, _, rfl, rfl⟩
set_option maxRecDepth 100000 in
theorem cw_M_feel : Cond.code m_M_feel.1 m_M_feel.2.1 m_M_feel.2.2.1 m_M_feel.2.2.2 ∈ gtb := gi 1124 rfl rfl
set_option maxRecDepth 100000 in
theorem lk_L_71 : LkV "SevenEightsLaw" 71 m_M_feel 3 11 := ⟨gi 1121 rfl rfl, gi 1122 rfl rfl, gi 1123 rfl rfl, gi 12 rfl rfl, cw_M_feel, by decide, ⟨by decide, by decide, by decide +kernel⟩, _, rfl, rfl⟩
set_option maxRecDepth 100000 in
theorem cw_S_would : Cond.code m_S_would.1 m_S_would.2.1 m_S_would.2.2.1 m_S_would.2.2.2 ∈ gtb := gi 552 rfl rfl
set_option maxRecDepth 100000 in
theorem lk_L_72 : LkV "SevenEightsLaw" 72 m_S_would 4 10 := ⟨gi 549 rfl rfl, gi 550 rfl rfl, gi 551 rfl rfl, gi 1 rfl rfl, cw_S_would, by decide, ⟨by decide, by decide, by decide +kernel⟩, _, rfl, rfl⟩
set_option maxRecDepth 100000 in
theorem cw_M_would : Cond.code m_M_would.1 m_M_would.2.1 m_M_would.2.2.1 m_M_would.2.2.2 ∈ gtb := gi 1138 rfl rfl
set_option maxRecDepth 100000 in
theorem lk_L_76 : LkV "SevenEightsLaw" 76 m_M_would 4 11 := ⟨gi 1135 rfl rfl, gi 1136 rfl rfl, gi 1137 rfl rfl, gi 12 rfl rfl, cw_M_would, by decide, ⟨by decide, by decide, by decide +kernel⟩, _, rfl, rfl⟩
set_option maxRecDepth 100000 in
theorem cw_S_ask : Cond.code m_S_ask.1 m_S_ask.2.1 m_S_ask.2.2.1 m_S_ask.2.2.2 ∈ gtb := gi 589 rfl rfl
set_option maxRecDepth 100000 in
theorem lk_L_77 : LkV "SevenEightsLaw" 77 m_S_ask 3 10 := ⟨gi 586 rfl rfl, gi 587 rfl rfl, gi 588 rfl rfl, gi 1 rfl rfl, cw_S_ask, by decide, ⟨by decide, by decide, by decide +kernel⟩, _, rfl, rfl⟩
set_option maxRecDepth 100000 in
theorem cw_M_ask : Cond.code m_M_ask.1 m_M_ask.2.1 m_M_ask.2.2.1 m_M_ask.2.2.2 ∈ gtb := gi 1169 rfl rfl
set_option maxRecDepth 100000 in
theorem lk_L_80 : LkV "SevenEightsLaw" 80 m_M_ask 3 11 := ⟨gi 1166 rfl rfl, gi 1167 rfl rfl, gi 1168 rfl rfl, gi 12 rfl rfl, cw_M_ask, by decide, ⟨by decide, by decide, by decide +kernel⟩, _, rfl, rfl⟩
set_option maxRecDepth 100000 in
theorem cw_S_tell : Cond.code m_S_tell.1 m_S_tell.2.1 m_S_tell.2.2.1 m_S_tell.2.2.2 ∈ gtb := gi 601 rfl rfl
set_option maxRecDepth 100000 in
theorem lk_L_81 : LkV "SevenEightsLaw" 81 m_S_tell 2 10 := ⟨gi 598 rfl rfl, gi 599 rfl rfl, gi 600 rfl rfl, gi 1 rfl rfl, cw_S_tell, by decide, ⟨by decide, by decide, by decide +kernel⟩, _, rfl, rfl⟩
set_option maxRecDepth 100000 in
theorem cw_M_tell : Cond.code m_M_tell.1 m_M_tell.2.1 m_M_tell.2.2.1 m_M_tell.2.2.2 ∈ gtb := gi 1181 rfl rfl
set_option maxRecDepth 100000 in
theorem lk_L_84 : LkV "SevenEightsLaw" 84 m_M_tell 2 11 := ⟨gi 1178 rfl rfl, gi 1179 rfl rfl, gi 1180 rfl rfl, gi 12 rfl rfl, cw_M_tell, by decide, ⟨by decide, by decide, by decide +kernel⟩, _, rfl, rfl⟩
set_option maxRecDepth 100000 in
theorem cw_S_nights : Cond.code m_S_nights.1 m_S_nights.2.1 m_S_nights.2.2.1 m_S_nights.2.2.2 ∈ gtb := gi 612 rfl rfl
set_option maxRecDepth 100000 in
theorem lk_L_85 : LkV "SevenEightsLaw" 85 m_S_nights 1 10 := ⟨gi 609 rfl rfl, gi 610 rfl rfl, gi 611 rfl rfl, gi 1 rfl rfl, cw_S_nights, by decide, ⟨by decide, by decide, by decide +kernel⟩, _, rfl, rfl⟩
set_option maxRecDepth 100000 in
theorem cw_M_nights : Cond.code m_M_nights.1 m_M_nights.2.1 m_M_nights.2.2.1 m_M_nights.2.2.2 ∈ gtb := gi 1189 rfl rfl
set_option maxRecDepth 100000 in
theorem lk_L_89 : LkV "SevenEightsLaw" 89 m_M_nights 1 11 := ⟨gi 1186 rfl rfl, gi 1187 rfl rfl, gi 1188 rfl rfl, gi 12 rfl rfl, cw_M_nights, by decide, ⟨by decide, by decide, by decide +kernel⟩, _, rfl, rfl⟩
set_option maxRecDepth 100000 in
theorem cw_S_card : Cond.code m_S_card.1 m_S_card.2.1 m_S_card.2.2.1 m_S_card.2.2.2 ∈ gtb := gi 627 rfl rfl
set_option maxRecDepth 100000 in
theorem lk_L_90 : LkV "SevenEightsLaw" 90 m_S_card 1 10 := ⟨gi 624 rfl rfl, gi 625 rfl rfl, gi 626 rfl rfl, gi 1 rfl rfl, cw_S_card, by decide, ⟨by decide, by decide, by decide +kernel⟩, _, rfl, rfl⟩
set_option maxRecDepth 100000 in
theorem cw_M_card : Cond.code m_M_card.1 m_M_card.2.1 m_M_card.2.2.1 m_M_card.2.2.2 ∈ gtb := gi 1197 rfl rfl
set_option maxRecDepth 100000 in
theorem lk_L_93 : LkV "SevenEightsLaw" 93 m_M_card 1 11 := ⟨gi 1194 rfl rfl, gi 1195 rfl rfl, gi 1196 rfl rfl, gi 12 rfl rfl, cw_M_card, by decide, ⟨by decide, by decide, by decide +kernel⟩, _, rfl, rfl⟩
set_option maxRecDepth 100000 in
theorem cw_S_known : Cond.code m_S_known.1 m_S_known.2.1 m_S_known.2.2.1 m_S_known.2.2.2 ∈ gtb := gi 631 rfl rfl
set_option maxRecDepth 100000 in
theorem lk_L_94 : LkV "SevenEightsLaw" 94 m_S_known 2 10 := ⟨gi 628 rfl rfl, gi 629 rfl rfl, gi 630 rfl rfl, gi 1 rfl rfl, cw_S_known, by decide, ⟨by decide, by decide, by decide +kernel⟩, _, rfl, rfl⟩
set_option maxRecDepth 100000 in
theorem cw_M_known : Cond.code m_M_known.1 m_M_known.2.1 m_M_known.2.2.1 m_M_known.2.2.2 ∈ gtb := gi 1201 rfl rfl
set_option maxRecDepth 100000 in
theorem lk_L_98 : LkV "SevenEightsLaw" 98 m_M_known 2 11 := ⟨gi 1198 rfl rfl, gi 1199 rfl rfl, gi 1200 rfl rfl, gi 12 rfl rfl, cw_M_known, by decide, ⟨by decide, by decide, by decide +kernel⟩, _, rfl, rfl⟩
set_option maxRecDepth 100000 in
theorem cw_S_friday : Cond.code m_S_friday.1 m_S_friday.2.1 m_S_friday.2.2.1 m_S_friday.2.2.2 ∈ gtb := gi 640 rfl rfl
set_option maxRecDepth 100000 in
theorem lk_L_99 : LkV "SevenEightsLaw" 99 m_S_friday 3 10 := ⟨gi 637 rfl rfl, gi 638 rfl rfl, gi 639 rfl rfl, gi 1 rfl rfl, cw_S_friday, by decide, ⟨by decide, by decide, by decide +kernel⟩, _, rfl, rfl⟩
set_option maxRecDepth 100000 in
theorem cw_M_friday : Cond.code m_M_friday.1 m_M_friday.2.1 m_M_friday.2.2.1 m_M_friday.2.2.2 ∈ gtb := gi 1213 rfl rfl
set_option maxRecDepth 100000 in
theorem lk_L_103 : LkV "SevenEightsLaw" 103 m_M_friday 3 11 := ⟨gi 1210 rfl rfl, gi 1211 rfl rfl, gi 1212 rfl rfl, gi 12 rfl rfl, cw_M_friday, by decide, ⟨by decide, by decide, by decide +kernel⟩, _, rfl, rfl⟩
set_option maxRecDepth 100000 in
theorem cw_S_odds : Cond.code m_S_odds.1 m_S_odds.2.1 m_S_odds.2.2.1 m_S_odds.2.2.2 ∈ gtb := gi 651 rfl rfl
set_option maxRecDepth 100000 in
theorem lk_L_104 : LkV "SevenEightsLaw" 104 m_S_odds 2 10 := ⟨gi 648 rfl rfl, gi 649 rfl rfl, gi 650 rfl rfl, gi 1 rfl rfl, cw_S_odds, by decide, ⟨by decide, by decide, by decide +kernel⟩, _, rfl, rfl⟩
set_option maxRecDepth 100000 in
theorem cw_M_odds : Cond.code m_M_odds.1 m_M_odds.2.1 m_M_odds.2.2.1 m_M_odds.2.2.2 ∈ gtb := gi 1225 rfl rfl
set_option maxRecDepth 100000 in
theorem lk_L_107 : LkV "SevenEightsLaw" 107 m_M_odds 2 11 := ⟨gi 1222 rfl rfl, gi 1223 rfl rfl, gi 1224 rfl rfl, gi 12 rfl rfl, cw_M_odds, by decide, ⟨by decide, by decide, by decide +kernel⟩, _, rfl, rfl⟩
set_option maxRecDepth 100000 in
theorem cw_S_best : Cond.code m_S_best.1 m_S_best.2.1 m_S_best.2.2.1 m_S_best.2.2.2 ∈ gtb := gi 664 rfl rfl
set_option maxRecDepth 100000 in
theorem lk_L_108 : LkV "SevenEightsLaw" 108 m_S_best 4 10 := ⟨gi 661 rfl rfl, gi 662 rfl rfl, gi 663 rfl rfl, gi 1 rfl rfl, cw_S_best, by decide, ⟨by decide, by decide, by decide +kernel⟩, _, rfl, rfl⟩
set_option maxRecDepth 100000 in
theorem cw_M_best : Cond.code m_M_best.1 m_M_best.2.1 m_M_best.2.2.1 m_M_best.2.2.2 ∈ gtb := gi 1238 rfl rfl
set_option maxRecDepth 100000 in
theorem lk_L_111 : LkV "SevenEightsLaw" 111 m_M_best 4 11 := ⟨gi 1235 rfl rfl, gi 1236 rfl rfl, gi 1237 rfl rfl, gi 12 rfl rfl, cw_M_best, by decide, ⟨by decide, by decide, by decide +kernel⟩, _, rfl, rfl⟩
set_option maxRecDepth 100000 in
theorem cw_S_till : Cond.code m_S_till.1 m_S_till.2.1 m_S_till.2.2.1 m_S_till.2.2.2 ∈ gtb := gi 686 rfl rfl
set_option maxRecDepth 100000 in
theorem lk_L_112 : LkV "SevenEightsLaw" 112 m_S_till 3 10 := ⟨gi 683 rfl rfl, gi 684 rfl rfl, gi 685 rfl rfl, gi 1 rfl rfl, cw_S_till, by decide, ⟨by decide, by decide, by decide +kernel⟩, _, rfl, rfl⟩
set_option maxRecDepth 100000 in
theorem cw_M_till : Cond.code m_M_till.1 m_M_till.2.1 m_M_till.2.2.1 m_M_till.2.2.2 ∈ gtb := gi 1250 rfl rfl
set_option maxRecDepth 100000 in
theorem lk_L_115 : LkV "SevenEightsLaw" 115 m_M_till 3 11 := ⟨gi 1247 rfl rfl, gi 1248 rfl rfl, gi 1249 rfl rfl, gi 12 rfl rfl, cw_M_till, by decide, ⟨by decide, by decide, by decide +kernel⟩, _, rfl, rfl⟩
set_option maxRecDepth 100000 in
theorem cw_S_hardest : Cond.code m_S_hardest.1 m_S_hardest.2.1 m_S_hardest.2.2.1 m_S_hardest.2.2.2 ∈ gtb := gi 691 rfl rfl
set_option maxRecDepth 100000 in
theorem lk_L_116 : LkV "SevenEightsLaw" 116 m_S_hardest 1 10 := ⟨gi 688 rfl rfl, gi 689 rfl rfl, gi 690 rfl rfl, gi 1 rfl rfl, cw_S_hardest, by decide, ⟨by decide, by decide, by decide +kernel⟩, _, rfl, rfl⟩
set_option maxRecDepth 100000 in
theorem cw_M_hardest : Cond.code m_M_hardest.1 m_M_hardest.2.1 m_M_hardest.2.2.1 m_M_hardest.2.2.2 ∈ gtb := gi 1254 rfl rfl
set_option maxRecDepth 100000 in
theorem lk_L_119 : LkV "SevenEightsLaw" 119 m_M_hardest 1 11 := ⟨gi 1251 rfl rfl, gi 1252 rfl rfl, gi 1253 rfl rfl, gi 12 rfl rfl, cw_M_hardest, by decide, ⟨by decide, by decide, by decide +kernel⟩, _, rfl, rfl⟩
set_option maxRecDepth 100000 in
theorem cw_S_draws : Cond.code m_S_draws.1 m_S_draws.2.1 m_S_draws.2.2.1 m_S_draws.2.2.2 ∈ gtb := gi 699 rfl rfl
set_option maxRecDepth 100000 in
theorem lk_L_120 : LkV "SevenEightsLaw" 120 m_S_draws 3 10 := ⟨gi 696 rfl rfl, gi 697 rfl rfl, gi 698 rfl rfl, gi 1 rfl rfl, cw_S_draws, by decide, ⟨by decide, by decide, by decide +kernel⟩, _, rfl, rfl⟩
set_option maxRecDepth 100000 in
theorem cw_M_draws : Cond.code m_M_draws.1 m_M_draws.2.1 m_M_draws.2.2.1 m_M_draws.2.2.2 ∈ gtb := gi 1258 rfl rfl
set_option maxRecDepth 100000 in
theorem lk_L_123 : LkV "SevenEightsLaw" 123 m_M_draws 3 11 := ⟨gi 1255 rfl rfl, gi 1256 rfl rfl, gi 1257 rfl rfl, gi 12 rfl rfl, cw_M_draws, by decide, ⟨by decide, by decide, by decide +kernel⟩, _, rfl, rfl⟩
set_option maxRecDepth 100000 in
theorem cw_S_give : Cond.code m_S_give.1 m_S_give.2.1 m_S_give.2.2.1 m_S_give.2.2.2 ∈ gtb := gi 707 rfl rfl
set_option maxRecDepth 100000 in
theorem lk_L_124 : LkV "SevenEightsLaw" 124 m_S_give 1 10 := ⟨gi 704 rfl rfl, gi 705 rfl rfl, gi 706 rfl rfl, gi 1 rfl rfl, cw_S_give, by decide, ⟨by decide, by decide, by decide +kernel⟩, _, rfl, rfl⟩
set_option maxRecDepth 100000 in
theorem cw_M_give : Cond.code m_M_give.1 m_M_give.2.1 m_M_give.2.2.1 m_M_give.2.2.2 ∈ gtb := gi 1307 rfl rfl
set_option maxRecDepth 100000 in
theorem lk_L_127 : LkV "SevenEightsLaw" 127 m_M_give 1 11 := ⟨gi 1304 rfl rfl, gi 1305 rfl rfl, gi 1306 rfl rfl, gi 12 rfl rfl, cw_M_give, by decide, ⟨by decide, by decide, by decide +kernel⟩, _, rfl, rfl⟩
set_option maxRecDepth 100000 in
theorem cw_S_item : Cond.code m_S_item.1 m_S_item.2.1 m_S_item.2.2.1 m_S_item.2.2.2 ∈ gtb := gi 711 rfl rfl
set_option maxRecDepth 100000 in
theorem lk_L_128 : LkV "SevenEightsLaw" 128 m_S_item 2 10 := ⟨gi 708 rfl rfl, gi 709 rfl rfl, gi 710 rfl rfl, gi 1 rfl rfl, cw_S_item, by decide, ⟨by decide, by decide, by decide +kernel⟩, _, rfl, rfl⟩
set_option maxRecDepth 100000 in
theorem cw_M_item : Cond.code m_M_item.1 m_M_item.2.1 m_M_item.2.2.1 m_M_item.2.2.2 ∈ gtb := gi 1315 rfl rfl
set_option maxRecDepth 100000 in
theorem lk_L_131 : LkV "SevenEightsLaw" 131 m_M_item 2 11 := ⟨gi 1312 rfl rfl, gi 1313 rfl rfl, gi 1314 rfl rfl, gi 12 rfl rfl, cw_M_item, by decide, ⟨by decide, by decide, by decide +kernel⟩, _, rfl, rfl⟩
set_option maxRecDepth 100000 in
theorem cw_S_seed : Cond.code m_S_seed.1 m_S_seed.2.1 m_S_seed.2.2.1 m_S_seed.2.2.2 ∈ gtb := gi 715 rfl rfl
set_option maxRecDepth 100000 in
theorem lk_L_132 : LkV "SevenEightsLaw" 132 m_S_seed 1 10 := ⟨gi 712 rfl rfl, gi 713 rfl rfl, gi 714 rfl rfl, gi 1 rfl rfl, cw_S_seed, by decide, ⟨by decide, by decide, by decide +kernel⟩, _, rfl, rfl⟩
set_option maxRecDepth 100000 in
theorem cw_M_seed : Cond.code m_M_seed.1 m_M_seed.2.1 m_M_seed.2.2.1 m_M_seed.2.2.2 ∈ gtb := gi 1319 rfl rfl
set_option maxRecDepth 100000 in
theorem lk_L_135 : LkV "SevenEightsLaw" 135 m_M_seed 1 11 := ⟨gi 1316 rfl rfl, gi 1317 rfl rfl, gi 1318 rfl rfl, gi 12 rfl rfl, cw_M_seed, by decide, ⟨by decide, by decide, by decide +kernel⟩, _, rfl, rfl⟩
set_option maxRecDepth 100000 in
theorem cw_S_draw : Cond.code m_S_draw.1 m_S_draw.2.1 m_S_draw.2.2.1 m_S_draw.2.2.2 ∈ gtb := gi 719 rfl rfl
set_option maxRecDepth 100000 in
theorem lk_L_136 : LkV "SevenEightsLaw" 136 m_S_draw 2 10 := ⟨gi 716 rfl rfl, gi 717 rfl rfl, gi 718 rfl rfl, gi 1 rfl rfl, cw_S_draw, by decide, ⟨by decide, by decide, by decide +kernel⟩, _, rfl, rfl⟩
set_option maxRecDepth 100000 in
theorem cw_M_draw : Cond.code m_M_draw.1 m_M_draw.2.1 m_M_draw.2.2.1 m_M_draw.2.2.2 ∈ gtb := gi 1323 rfl rfl
set_option maxRecDepth 100000 in
theorem lk_L_139 : LkV "SevenEightsLaw" 139 m_M_draw 2 11 := ⟨gi 1320 rfl rfl, gi 1321 rfl rfl, gi 1322 rfl rfl, gi 12 rfl rfl, cw_M_draw, by decide, ⟨by decide, by decide, by decide +kernel⟩, _, rfl, rfl⟩
set_option maxRecDepth 100000 in
theorem cw_S_prove : Cond.code m_S_prove.1 m_S_prove.2.1 m_S_prove.2.2.1 m_S_prove.2.2.2 ∈ gtb := gi 727 rfl rfl
set_option maxRecDepth 100000 in
theorem lk_L_140 : LkV "SevenEightsLaw" 140 m_S_prove 1 10 := ⟨gi 724 rfl rfl, gi 725 rfl rfl, gi 726 rfl rfl, gi 1 rfl rfl, cw_S_prove, by decide, ⟨by decide, by decide, by decide +kernel⟩, _, rfl, rfl⟩
set_option maxRecDepth 100000 in
theorem cw_M_prove : Cond.code m_M_prove.1 m_M_prove.2.1 m_M_prove.2.2.1 m_M_prove.2.2.2 ∈ gtb := gi 1328 rfl rfl
set_option maxRecDepth 100000 in
theorem lk_L_143 : LkV "SevenEightsLaw" 143 m_M_prove 1 11 := ⟨gi 1325 rfl rfl, gi 1326 rfl rfl, gi 1327 rfl rfl, gi 12 rfl rfl, cw_M_prove, by decide, ⟨by decide, by decide, by decide +kernel⟩, _, rfl, rfl⟩
set_option maxRecDepth 100000 in
theorem cw_S_row : Cond.code m_S_row.1 m_S_row.2.1 m_S_row.2.2.1 m_S_row.2.2.2 ∈ gtb := gi 739 rfl rfl
set_option maxRecDepth 100000 in
theorem lk_L_144 : LkV "SevenEightsLaw" 144 m_S_row 2 10 := ⟨gi 736 rfl rfl, gi 737 rfl rfl, gi 738 rfl rfl, gi 1 rfl rfl, cw_S_row, by decide, ⟨by decide, by decide, by decide +kernel⟩, _, rfl, rfl⟩
set_option maxRecDepth 100000 in
theorem cw_M_row : Cond.code m_M_row.1 m_M_row.2.1 m_M_row.2.2.1 m_M_row.2.2.2 ∈ gtb := gi 1336 rfl rfl
set_option maxRecDepth 100000 in
theorem lk_L_147 : LkV "SevenEightsLaw" 147 m_M_row 2 11 := ⟨gi 1333 rfl rfl, gi 1334 rfl rfl, gi 1335 rfl rfl, gi 12 rfl rfl, cw_M_row, by decide, ⟨by decide, by decide, by decide +kernel⟩, _, rfl, rfl⟩
set_option maxRecDepth 100000 in
theorem cw_S_alterRow : Cond.code m_S_alterRow.1 m_S_alterRow.2.1 m_S_alterRow.2.2.1 m_S_alterRow.2.2.2 ∈ gtb := gi 748 rfl rfl
set_option maxRecDepth 100000 in
theorem lk_L_148 : LkV "SevenEightsLaw" 148 m_S_alterRow 3 10 := ⟨gi 745 rfl rfl, gi 746 rfl rfl, gi 747 rfl rfl, gi 1 rfl rfl, cw_S_alterRow, by decide, ⟨by decide, by decide, by decide +kernel⟩, _, rfl, rfl⟩
set_option maxRecDepth 100000 in
theorem cw_M_alterRow : Cond.code m_M_alterRow.1 m_M_alterRow.2.1 m_M_alterRow.2.2.1 m_M_alterRow.2.2.2 ∈ gtb := gi 1344 rfl rfl
set_option maxRecDepth 100000 in
theorem lk_L_151 : LkV "SevenEightsLaw" 151 m_M_alterRow 3 11 := ⟨gi 1341 rfl rfl, gi 1342 rfl rfl, gi 1343 rfl rfl, gi 12 rfl rfl, cw_M_alterRow, by decide, ⟨by decide, by decide, by decide +kernel⟩, _, rfl, rfl⟩
set_option maxRecDepth 100000 in
theorem cw_S_judge : Cond.code m_S_judge.1 m_S_judge.2.1 m_S_judge.2.2.1 m_S_judge.2.2.2 ∈ gtb := gi 752 rfl rfl
set_option maxRecDepth 100000 in
theorem lk_L_152 : LkV "SevenEightsLaw" 152 m_S_judge 1 10 := ⟨gi 749 rfl rfl, gi 750 rfl rfl, gi 751 rfl rfl, gi 1 rfl rfl, cw_S_judge, by decide, ⟨by decide, by decide, by decide +kernel⟩, _, rfl, rfl⟩
set_option maxRecDepth 100000 in
theorem cw_M_judge : Cond.code m_M_judge.1 m_M_judge.2.1 m_M_judge.2.2.1 m_M_judge.2.2.2 ∈ gtb := gi 1348 rfl rfl
set_option maxRecDepth 100000 in
theorem lk_L_155 : LkV "SevenEightsLaw" 155 m_M_judge 1 11 := ⟨gi 1345 rfl rfl, gi 1346 rfl rfl, gi 1347 rfl rfl, gi 12 rfl rfl, cw_M_judge, by decide, ⟨by decide, by decide, by decide +kernel⟩, _, rfl, rfl⟩
set_option maxRecDepth 100000 in
theorem cw_S_firms : Cond.code m_S_firms.1 m_S_firms.2.1 m_S_firms.2.2.1 m_S_firms.2.2.2 ∈ gtb := gi 760 rfl rfl
set_option maxRecDepth 100000 in
theorem lk_L_156 : LkV "SevenEightsLaw" 156 m_S_firms 5 10 := ⟨gi 757 rfl rfl, gi 758 rfl rfl, gi 759 rfl rfl, gi 1 rfl rfl, cw_S_firms, by decide, ⟨by decide, by decide, by decide +kernel⟩, _, rfl, rfl⟩
set_option maxRecDepth 100000 in
theorem cw_M_firms : Cond.code m_M_firms.1 m_M_firms.2.1 m_M_firms.2.2.1 m_M_firms.2.2.2 ∈ gtb := gi 1352 rfl rfl
set_option maxRecDepth 100000 in
theorem lk_L_160 : LkV "SevenEightsLaw" 160 m_M_firms 5 11 := ⟨gi 1349 rfl rfl, gi 1350 rfl rfl, gi 1351 rfl rfl, gi 12 rfl rfl, cw_M_firms, by decide, ⟨by decide, by decide, by decide +kernel⟩, _, rfl, rfl⟩
set_option maxRecDepth 100000 in
theorem cw_S_sheet : Cond.code m_S_sheet.1 m_S_sheet.2.1 m_S_sheet.2.2.1 m_S_sheet.2.2.2 ∈ gtb := gi 771 rfl rfl
set_option maxRecDepth 100000 in
theorem lk_L_161 : LkV "SevenEightsLaw" 161 m_S_sheet 3 10 := ⟨gi 768 rfl rfl, gi 769 rfl rfl, gi 770 rfl rfl, gi 1 rfl rfl, cw_S_sheet, by decide, ⟨by decide, by decide, by decide +kernel⟩, _, rfl, rfl⟩
set_option maxRecDepth 100000 in
theorem cw_M_sheet : Cond.code m_M_sheet.1 m_M_sheet.2.1 m_M_sheet.2.2.1 m_M_sheet.2.2.2 ∈ gtb := gi 1363 rfl rfl
set_option maxRecDepth 100000 in
theorem lk_L_164 : LkV "SevenEightsLaw" 164 m_M_sheet 3 11 := ⟨gi 1360 rfl rfl, gi 1361 rfl rfl, gi 1362 rfl rfl, gi 12 rfl rfl, cw_M_sheet, by decide, ⟨by decide, by decide, by decide +kernel⟩, _, rfl, rfl⟩
set_option maxRecDepth 100000 in
theorem cw_S_put : Cond.code m_S_put.1 m_S_put.2.1 m_S_put.2.2.1 m_S_put.2.2.2 ∈ gtb := gi 783 rfl rfl
set_option maxRecDepth 100000 in
theorem lk_L_165 : LkV "SevenEightsLaw" 165 m_S_put 3 10 := ⟨gi 780 rfl rfl, gi 781 rfl rfl, gi 782 rfl rfl, gi 1 rfl rfl, cw_S_put, by decide, ⟨by decide, by decide, by decide +kernel⟩, _, rfl, rfl⟩
set_option maxRecDepth 100000 in
theorem cw_M_put : Cond.code m_M_put.1 m_M_put.2.1 m_M_put.2.2.1 m_M_put.2.2.2 ∈ gtb := gi 1367 rfl rfl
set_option maxRecDepth 100000 in
theorem lk_L_168 : LkV "SevenEightsLaw" 168 m_M_put 3 11 := ⟨gi 1364 rfl rfl, gi 1365 rfl rfl, gi 1366 rfl rfl, gi 12 rfl rfl, cw_M_put, by decide, ⟨by decide, by decide, by decide +kernel⟩, _, rfl, rfl⟩
set_option maxRecDepth 100000 in
theorem cw_S_number : Cond.code m_S_number.1 m_S_number.2.1 m_S_number.2.2.1 m_S_number.2.2.2 ∈ gtb := gi 791 rfl rfl
set_option maxRecDepth 100000 in
theorem lk_L_169 : LkV "SevenEightsLaw" 169 m_S_number 3 10 := ⟨gi 788 rfl rfl, gi 789 rfl rfl, gi 790 rfl rfl, gi 1 rfl rfl, cw_S_number, by decide, ⟨by decide, by decide, by decide +kernel⟩, _, rfl, rfl⟩
set_option maxRecDepth 100000 in
theorem cw_M_number : Cond.code m_M_number.1 m_M_number.2.1 m_M_number.2.2.1 m_M_number.2.2.2 ∈ gtb := gi 1371 rfl rfl
set_option maxRecDepth 100000 in
theorem lk_L_172 : LkV "SevenEightsLaw" 172 m_M_number 3 11 := ⟨gi 1368 rfl rfl, gi 1369 rfl rfl, gi 1370 rfl rfl, gi 12 rfl rfl, cw_M_number, by decide, ⟨by decide, by decide, by decide +kernel⟩, _, rfl, rfl⟩
set_option maxRecDepth 100000 in
theorem cw_S_shelf : Cond.code m_S_shelf.1 m_S_shelf.2.1 m_S_shelf.2.2.1 m_S_shelf.2.2.2 ∈ gtb := gi 795 rfl rfl
set_option maxRecDepth 100000 in
theorem lk_L_173 : LkV "SevenEightsLaw" 173 m_S_shelf 3 10 := ⟨gi 792 rfl rfl, gi 793 rfl rfl, gi 794 rfl rfl, gi 1 rfl rfl, cw_S_shelf, by decide, ⟨by decide, by decide, by decide +kernel⟩, _, rfl, rfl⟩
set_option maxRecDepth 100000 in
theorem cw_M_shelf : Cond.code m_M_shelf.1 m_M_shelf.2.1 m_M_shelf.2.2.1 m_M_shelf.2.2.2 ∈ gtb := gi 1375 rfl rfl
set_option maxRecDepth 100000 in
theorem lk_L_176 : LkV "SevenEightsLaw" 176 m_M_shelf 3 11 := ⟨gi 1372 rfl rfl, gi 1373 rfl rfl, gi 1374 rfl rfl, gi 12 rfl rfl, cw_M_shelf, by decide, ⟨by decide, by decide, by decide +kernel⟩, _, rfl, rfl⟩
set_option maxRecDepth 100000 in
theorem cw_S_taken : Cond.code m_S_taken.1 m_S_taken.2.1 m_S_taken.2.2.1 m_S_taken.2.2.2 ∈ gtb := gi 815 rfl rfl
set_option maxRecDepth 100000 in
theorem lk_L_177 : LkV "SevenEightsLaw" 177 m_S_taken 2 10 := ⟨gi 812 rfl rfl, gi 813 rfl rfl, gi 814 rfl rfl, gi 1 rfl rfl, cw_S_taken, by decide, ⟨by decide, by decide, by decide +kernel⟩, _, rfl, rfl⟩
set_option maxRecDepth 100000 in
theorem cw_M_taken : Cond.code m_M_taken.1 m_M_taken.2.1 m_M_taken.2.2.1 m_M_taken.2.2.2 ∈ gtb := gi 1383 rfl rfl
set_option maxRecDepth 100000 in
theorem lk_L_180 : LkV "SevenEightsLaw" 180 m_M_taken 2 11 := ⟨gi 1380 rfl rfl, gi 1381 rfl rfl, gi 1382 rfl rfl, gi 12 rfl rfl, cw_M_taken, by decide, ⟨by decide, by decide, by decide +kernel⟩, _, rfl, rfl⟩
set_option maxRecDepth 100000 in
theorem cw_S_act : Cond.code m_S_act.1 m_S_act.2.1 m_S_act.2.2.1 m_S_act.2.2.2 ∈ gtb := gi 828 rfl rfl
set_option maxRecDepth 100000 in
theorem lk_L_181 : LkV "SevenEightsLaw" 181 m_S_act 3 10 := ⟨gi 825 rfl rfl, gi 826 rfl rfl, gi 827 rfl rfl, gi 1 rfl rfl, cw_S_act, by decide, ⟨by decide, by decide, by decide +kernel⟩, _, rfl, rfl⟩
set_option maxRecDepth 100000 in
theorem cw_M_act : Cond.code m_M_act.1 m_M_act.2.1 m_M_act.2.2.1 m_M_act.2.2.2 ∈ gtb := gi 1394 rfl rfl
set_option maxRecDepth 100000 in
theorem lk_L_184 : LkV "SevenEightsLaw" 184 m_M_act 3 11 := ⟨gi 1391 rfl rfl, gi 1392 rfl rfl, gi 1393 rfl rfl, gi 12 rfl rfl, cw_M_act, by decide, ⟨by decide, by decide, by decide +kernel⟩, _, rfl, rfl⟩
set_option maxRecDepth 100000 in
theorem cw_S_trace : Cond.code m_S_trace.1 m_S_trace.2.1 m_S_trace.2.2.1 m_S_trace.2.2.2 ∈ gtb := gi 863 rfl rfl
set_option maxRecDepth 100000 in
theorem lk_L_185 : LkV "SevenEightsLaw" 185 m_S_trace 1 10 := ⟨gi 860 rfl rfl, gi 861 rfl rfl, gi 862 rfl rfl, gi 1 rfl rfl, cw_S_trace, by decide, ⟨by decide, by decide, by decide +kernel⟩, _, rfl, rfl⟩
set_option maxRecDepth 100000 in
theorem cw_M_trace : Cond.code m_M_trace.1 m_M_trace.2.1 m_M_trace.2.2.1 m_M_trace.2.2.2 ∈ gtb := gi 1438 rfl rfl
set_option maxRecDepth 100000 in
theorem lk_L_188 : LkV "SevenEightsLaw" 188 m_M_trace 1 11 := ⟨gi 1435 rfl rfl, gi 1436 rfl rfl, gi 1437 rfl rfl, gi 12 rfl rfl, cw_M_trace, by decide, ⟨by decide, by decide, by decide +kernel⟩, _, rfl, rfl⟩
set_option maxRecDepth 100000 in
theorem cw_S_many : Cond.code m_S_many.1 m_S_many.2.1 m_S_many.2.2.1 m_S_many.2.2.2 ∈ gtb := gi 867 rfl rfl
set_option maxRecDepth 100000 in
theorem lk_L_189 : LkV "SevenEightsLaw" 189 m_S_many 1 10 := ⟨gi 864 rfl rfl, gi 865 rfl rfl, gi 866 rfl rfl, gi 1 rfl rfl, cw_S_many, by decide, ⟨by decide, by decide, by decide +kernel⟩, _, rfl, rfl⟩
set_option maxRecDepth 100000 in
theorem cw_M_many : Cond.code m_M_many.1 m_M_many.2.1 m_M_many.2.2.1 m_M_many.2.2.2 ∈ gtb := gi 1442 rfl rfl
set_option maxRecDepth 100000 in
theorem lk_L_192 : LkV "SevenEightsLaw" 192 m_M_many 1 11 := ⟨gi 1439 rfl rfl, gi 1440 rfl rfl, gi 1441 rfl rfl, gi 12 rfl rfl, cw_M_many, by decide, ⟨by decide, by decide, by decide +kernel⟩, _, rfl, rfl⟩
set_option maxRecDepth 100000 in
theorem cw_S_keep : Cond.code m_S_keep.1 m_S_keep.2.1 m_S_keep.2.2.1 m_S_keep.2.2.2 ∈ gtb := gi 871 rfl rfl
set_option maxRecDepth 100000 in
theorem lk_L_193 : LkV "SevenEightsLaw" 193 m_S_keep 0 10 := ⟨gi 868 rfl rfl, gi 869 rfl rfl, gi 870 rfl rfl, gi 1 rfl rfl, cw_S_keep, by decide, ⟨by decide, by decide, by decide +kernel⟩, _, rfl, rfl⟩
set_option maxRecDepth 100000 in
theorem cw_M_keep : Cond.code m_M_keep.1 m_M_keep.2.1 m_M_keep.2.2.1 m_M_keep.2.2.2 ∈ gtb := gi 1446 rfl rfl
set_option maxRecDepth 100000 in
theorem lk_L_196 : LkV "SevenEightsLaw" 196 m_M_keep 0 11 := ⟨gi 1443 rfl rfl, gi 1444 rfl rfl, gi 1445 rfl rfl, gi 12 rfl rfl, cw_M_keep, by decide, ⟨by decide, by decide, by decide +kernel⟩, _, rfl, rfl⟩
set_option maxRecDepth 100000 in
theorem cw_S_again : Cond.code m_S_again.1 m_S_again.2.1 m_S_again.2.2.1 m_S_again.2.2.2 ∈ gtb := gi 882 rfl rfl
set_option maxRecDepth 100000 in
theorem lk_L_197 : LkV "SevenEightsLaw" 197 m_S_again 0 10 := ⟨gi 879 rfl rfl, gi 880 rfl rfl, gi 881 rfl rfl, gi 1 rfl rfl, cw_S_again, by decide, ⟨by decide, by decide, by decide +kernel⟩, _, rfl, rfl⟩
set_option maxRecDepth 100000 in
theorem cw_M_again : Cond.code m_M_again.1 m_M_again.2.1 m_M_again.2.2.1 m_M_again.2.2.2 ∈ gtb := gi 1458 rfl rfl
set_option maxRecDepth 100000 in
theorem lk_L_200 : LkV "SevenEightsLaw" 200 m_M_again 0 11 := ⟨gi 1455 rfl rfl, gi 1456 rfl rfl, gi 1457 rfl rfl, gi 12 rfl rfl, cw_M_again, by decide, ⟨by decide, by decide, by decide +kernel⟩, _, rfl, rfl⟩
set_option maxRecDepth 100000 in
theorem fl_M_7 : FL "SevenEightsModel" 7 11 0 := ⟨R_M, F_M, 41, rfl, by decide, gi 889 rfl rfl, uw_M⟩
set_option maxRecDepth 100000 in
theorem fl_M_13 : FL "SevenEightsModel" 13 11 2 := ⟨R_M, F_M, 41, rfl, by decide, gi 891 rfl rfl, uw_M⟩
set_option maxRecDepth 100000 in
theorem fl_M_16 : FL "SevenEightsModel" 16 11 3 := ⟨R_M, F_M, 41, rfl, by decide, gi 892 rfl rfl, uw_M⟩
set_option maxRecDepth 100000 in
theorem fl_M_19 : FL "SevenEightsModel" 19 11 4 := ⟨R_M, F_M, 41, rfl, by decide, gi 893 rfl rfl, uw_M⟩
set_option maxRecDepth 100000 in
theorem fp_M_19 : FP "SevenEightsModel" 19 11 4 .int := ⟨R_M, F_M, 41, t_M, rfl, by decide, gi 893 rfl rfl, uw_M, t_M_ok, n_M, rfl, by decide +kernel⟩
set_option maxRecDepth 100000 in
theorem fl_M_23 : FL "SevenEightsModel" 23 11 8 := ⟨R_M, F_M, 41, rfl, by decide, gi 897 rfl rfl, uw_M⟩
set_option maxRecDepth 100000 in
theorem fl_M_26 : FL "SevenEightsModel" 26 11 9 := ⟨R_M, F_M, 41, rfl, by decide, gi 898 rfl rfl, uw_M⟩
set_option maxRecDepth 100000 in
theorem fl_M_29 : FL "SevenEightsModel" 29 11 10 := ⟨R_M, F_M, 41, rfl, by decide, gi 899 rfl rfl, uw_M⟩
set_option maxRecDepth 100000 in
theorem fl_M_32 : FL "SevenEightsModel" 32 11 19 := ⟨R_M, F_M, 41, rfl, by decide, gi 908 rfl rfl, uw_M⟩
set_option maxRecDepth 100000 in
theorem fl_M_35 : FL "SevenEightsModel" 35 11 20 := ⟨R_M, F_M, 41, rfl, by decide, gi 909 rfl rfl, uw_M⟩
set_option maxRecDepth 100000 in
theorem fl_M_38 : FL "SevenEightsModel" 38 11 21 := ⟨R_M, F_M, 41, rfl, by decide, gi 910 rfl rfl, uw_M⟩
set_option maxRecDepth 100000 in
theorem fl_M_41 : FL "SevenEightsModel" 41 11 22 := ⟨R_M, F_M, 41, rfl, by decide, gi 911 rfl rfl, uw_M⟩
set_option maxRecDepth 100000 in
theorem fl_M_44 : FL "SevenEightsModel" 44 11 25 := ⟨R_M, F_M, 41, rfl, by decide, gi 914 rfl rfl, uw_M⟩
set_option maxRecDepth 100000 in
theorem fl_M_47 : FL "SevenEightsModel" 47 11 26 := ⟨R_M, F_M, 41, rfl, by decide, gi 915 rfl rfl, uw_M⟩
set_option maxRecDepth 100000 in
theorem fl_M_50 : FL "SevenEightsModel" 50 11 27 := ⟨R_M, F_M, 41, rfl, by decide, gi 916 rfl rfl, uw_M⟩
set_option maxRecDepth 100000 in
theorem fl_M_54 : FL "SevenEightsModel" 54 11 28 := ⟨R_M, F_M, 41, rfl, by decide, gi 917 rfl rfl, uw_M⟩
set_option maxRecDepth 100000 in
theorem fl_M_57 : FL "SevenEightsModel" 57 11 29 := ⟨R_M, F_M, 41, rfl, by decide, gi 918 rfl rfl, uw_M⟩
set_option maxRecDepth 100000 in
theorem fl_M_60 : FL "SevenEightsModel" 60 11 30 := ⟨R_M, F_M, 41, rfl, by decide, gi 919 rfl rfl, uw_M⟩
set_option maxRecDepth 100000 in
theorem fl_M_63 : FL "SevenEightsModel" 63 11 34 := ⟨R_M, F_M, 41, rfl, by decide, gi 923 rfl rfl, uw_M⟩
set_option maxRecDepth 100000 in
theorem fl_M_66 : FL "SevenEightsModel" 66 11 38 := ⟨R_M, F_M, 41, rfl, by decide, gi 927 rfl rfl, uw_M⟩
set_option maxRecDepth 100000 in
theorem fl_M_69 : FL "SevenEightsModel" 69 11 40 := ⟨R_M, F_M, 41, rfl, by decide, gi 929 rfl rfl, uw_M⟩
set_option maxRecDepth 100000 in
theorem cw_M_in : Cond.code m_M_in.1 m_M_in.2.1 m_M_in.2.2.1 m_M_in.2.2.2 ∈ gtb := gi 1022 rfl rfl
set_option maxRecDepth 100000 in
theorem lk_M_72 : LkS "SevenEightsModel" 72 m_M_in 3 := ⟨gi 1020 rfl rfl, gi 1021 rfl rfl, gi 12 rfl rfl, cw_M_in, by decide, ⟨by decide, by decide, by decide +kernel⟩⟩
set_option maxRecDepth 100000 in
theorem cw_M_lesser : Cond.code m_M_lesser.1 m_M_lesser.2.1 m_M_lesser.2.2.1 m_M_lesser.2.2.2 ∈ gtb := gi 1032 rfl rfl
set_option maxRecDepth 100000 in
theorem lk_M_76 : LkS "SevenEightsModel" 76 m_M_lesser 1 := ⟨gi 1030 rfl rfl, gi 1031 rfl rfl, gi 12 rfl rfl, cw_M_lesser, by decide, ⟨by decide, by decide, by decide +kernel⟩⟩
set_option maxRecDepth 100000 in
theorem cw_M_greater : Cond.code m_M_greater.1 m_M_greater.2.1 m_M_greater.2.2.1 m_M_greater.2.2.2 ∈ gtb := gi 1035 rfl rfl
set_option maxRecDepth 100000 in
theorem lk_M_80 : LkS "SevenEightsModel" 80 m_M_greater 1 := ⟨gi 1033 rfl rfl, gi 1034 rfl rfl, gi 12 rfl rfl, cw_M_greater, by decide, ⟨by decide, by decide, by decide +kernel⟩⟩
set_option maxRecDepth 100000 in
theorem cw_M_pairBy : Cond.code m_M_pairBy.1 m_M_pairBy.2.1 m_M_pairBy.2.2.1 m_M_pairBy.2.2.2 ∈ gtb := gi 1019 rfl rfl
set_option maxRecDepth 100000 in
theorem lk_M_83 : LkS "SevenEightsModel" 83 m_M_pairBy 2 := ⟨gi 1017 rfl rfl, gi 1018 rfl rfl, gi 12 rfl rfl, cw_M_pairBy, by decide, ⟨by decide, by decide, by decide +kernel⟩⟩
set_option maxRecDepth 100000 in
theorem cw_M_bitOf : Cond.code m_M_bitOf.1 m_M_bitOf.2.1 m_M_bitOf.2.2.1 m_M_bitOf.2.2.2 ∈ gtb := gi 1051 rfl rfl
set_option maxRecDepth 100000 in
theorem lk_M_87 : LkS "SevenEightsModel" 87 m_M_bitOf 1 := ⟨gi 1049 rfl rfl, gi 1050 rfl rfl, gi 12 rfl rfl, cw_M_bitOf, by decide, ⟨by decide, by decide, by decide +kernel⟩⟩
set_option maxRecDepth 100000 in
theorem cw_M_isPair : Cond.code m_M_isPair.1 m_M_isPair.2.1 m_M_isPair.2.2.1 m_M_isPair.2.2.2 ∈ gtb := gi 1029 rfl rfl
set_option maxRecDepth 100000 in
theorem lk_M_91 : LkS "SevenEightsModel" 91 m_M_isPair 1 := ⟨gi 1027 rfl rfl, gi 1028 rfl rfl, gi 12 rfl rfl, cw_M_isPair, by decide, ⟨by decide, by decide, by decide +kernel⟩⟩
set_option maxRecDepth 100000 in
theorem cw_M_product : Cond.code m_M_product.1 m_M_product.2.1 m_M_product.2.2.1 m_M_product.2.2.2 ∈ gtb := gi 1038 rfl rfl
set_option maxRecDepth 100000 in
theorem lk_M_95 : LkS "SevenEightsModel" 95 m_M_product 1 := ⟨gi 1036 rfl rfl, gi 1037 rfl rfl, gi 12 rfl rfl, cw_M_product, by decide, ⟨by decide, by decide, by decide +kernel⟩⟩
set_option maxRecDepth 100000 in
theorem cw_M_firmAtFirst : Cond.code m_M_firmAtFirst.1 m_M_firmAtFirst.2.1 m_M_firmAtFirst.2.2.1 m_M_firmAtFirst.2.2.2 ∈ gtb := gi 1041 rfl rfl
set_option maxRecDepth 100000 in
theorem lk_M_98 : LkS "SevenEightsModel" 98 m_M_firmAtFirst 1 := ⟨gi 1039 rfl rfl, gi 1040 rfl rfl, gi 12 rfl rfl, cw_M_firmAtFirst, by decide, ⟨by decide, by decide, by decide +kernel⟩⟩
set_option maxRecDepth 100000 in
theorem cw_M_tiedTo : Cond.code m_M_tiedTo.1 m_M_tiedTo.2.1 m_M_tiedTo.2.2.1 m_M_tiedTo.2.2.2 ∈ gtb := gi 1048 rfl rfl
set_option maxRecDepth 100000 in
theorem lk_M_101 : LkS "SevenEightsModel" 101 m_M_tiedTo 1 := ⟨gi 1046 rfl rfl, gi 1047 rfl rfl, gi 12 rfl rfl, cw_M_tiedTo, by decide, ⟨by decide, by decide, by decide +kernel⟩⟩
set_option maxRecDepth 100000 in
theorem kc_M_104 : Cond.constantLong "SevenEightsModel" 104 (-1) ∈ gtb := gi 1052 rfl rfl
set_option maxRecDepth 100000 in
theorem fl_M_106 : FL "SevenEightsModel" 106 11 1 := ⟨R_M, F_M, 41, rfl, by decide, gi 890 rfl rfl, uw_M⟩
set_option maxRecDepth 100000 in
theorem fp_M_106 : FP "SevenEightsModel" 106 11 1 .int := ⟨R_M, F_M, 41, t_M, rfl, by decide, gi 890 rfl rfl, uw_M, t_M_ok, n_M, rfl, by decide +kernel⟩
set_option maxRecDepth 100000 in
theorem cw_M_place : Cond.code m_M_place.1 m_M_place.2.1 m_M_place.2.2.1 m_M_place.2.2.2 ∈ gtb := gi 1060 rfl rfl
set_option maxRecDepth 100000 in
theorem lk_M_109 : LkV "SevenEightsModel" 109 m_M_place 2 11 := ⟨gi 1057 rfl rfl, gi 1059 rfl rfl, gs (q := (⟨"SevenEightsModel", "place", "(II)I"⟩, 41)) 16 rfl rfl, gi 12 rfl rfl, cw_M_place, by decide, ⟨by decide, by decide, by decide +kernel⟩, _, rfl, rfl⟩
set_option maxRecDepth 100000 in
theorem cw_M_firmOf : Cond.code m_M_firmOf.1 m_M_firmOf.2.1 m_M_firmOf.2.2.1 m_M_firmOf.2.2.2 ∈ gtb := gi 1084 rfl rfl
set_option maxRecDepth 100000 in
theorem lk_M_112 : LkV "SevenEightsModel" 112 m_M_firmOf 2 11 := ⟨gi 1081 rfl rfl, gi 1083 rfl rfl, gs (q := (⟨"SevenEightsModel", "firmOf", "(II)I"⟩, 41)) 21 rfl rfl, gi 12 rfl rfl, cw_M_firmOf, by decide, ⟨by decide, by decide, by decide +kernel⟩, _, rfl, rfl⟩
set_option maxRecDepth 100000 in
theorem cw_M_isLearner : Cond.code m_M_isLearner.1 m_M_isLearner.2.1 m_M_isLearner.2.2.1 m_M_isLearner.2.2.2 ∈ gtb := gi 1068 rfl rfl
set_option maxRecDepth 100000 in
theorem lk_M_115 : LkV "SevenEightsModel" 115 m_M_isLearner 1 11 := ⟨gi 1065 rfl rfl, gi 1067 rfl rfl, gs (q := (⟨"SevenEightsModel", "isLearner", "(I)Z"⟩, 41)) 17 rfl rfl, gi 12 rfl rfl, cw_M_isLearner, by decide, ⟨by decide, by decide, by decide +kernel⟩, _, rfl, rfl⟩
set_option maxRecDepth 100000 in
theorem cw_M_kindOf : Cond.code m_M_kindOf.1 m_M_kindOf.2.1 m_M_kindOf.2.2.1 m_M_kindOf.2.2.2 ∈ gtb := gi 1072 rfl rfl
set_option maxRecDepth 100000 in
theorem lk_M_118 : LkV "SevenEightsModel" 118 m_M_kindOf 1 11 := ⟨gi 1069 rfl rfl, gi 1071 rfl rfl, gs (q := (⟨"SevenEightsModel", "kindOf", "(I)I"⟩, 41)) 18 rfl rfl, gi 12 rfl rfl, cw_M_kindOf, by decide, ⟨by decide, by decide, by decide +kernel⟩, _, rfl, rfl⟩
set_option maxRecDepth 100000 in
theorem cw_M_aOf : Cond.code m_M_aOf.1 m_M_aOf.2.1 m_M_aOf.2.2.1 m_M_aOf.2.2.2 ∈ gtb := gi 1076 rfl rfl
set_option maxRecDepth 100000 in
theorem lk_M_121 : LkV "SevenEightsModel" 121 m_M_aOf 1 11 := ⟨gi 1073 rfl rfl, gi 1075 rfl rfl, gs (q := (⟨"SevenEightsModel", "aOf", "(I)I"⟩, 41)) 19 rfl rfl, gi 12 rfl rfl, cw_M_aOf, by decide, ⟨by decide, by decide, by decide +kernel⟩, _, rfl, rfl⟩
set_option maxRecDepth 100000 in
theorem cw_M_firmInAll : Cond.code m_M_firmInAll.1 m_M_firmInAll.2.1 m_M_firmInAll.2.2.1 m_M_firmInAll.2.2.2 ∈ gtb := gi 1080 rfl rfl
set_option maxRecDepth 100000 in
theorem lk_M_124 : LkV "SevenEightsModel" 124 m_M_firmInAll 1 11 := ⟨gi 1077 rfl rfl, gi 1079 rfl rfl, gs (q := (⟨"SevenEightsModel", "firmInAll", "(I)I"⟩, 41)) 20 rfl rfl, gi 12 rfl rfl, cw_M_firmInAll, by decide, ⟨by decide, by decide, by decide +kernel⟩, _, rfl, rfl⟩
set_option maxRecDepth 100000 in
theorem cw_M_rightsOf : Cond.code m_M_rightsOf.1 m_M_rightsOf.2.1 m_M_rightsOf.2.2.1 m_M_rightsOf.2.2.2 ∈ gtb := gi 1096 rfl rfl
set_option maxRecDepth 100000 in
theorem lk_M_127 : LkV "SevenEightsModel" 127 m_M_rightsOf 2 11 := ⟨gi 1093 rfl rfl, gi 1095 rfl rfl, gs (q := (⟨"SevenEightsModel", "rightsOf", "(II)I"⟩, 41)) 23 rfl rfl, gi 12 rfl rfl, cw_M_rightsOf, by decide, ⟨by decide, by decide, by decide +kernel⟩, _, rfl, rfl⟩
set_option maxRecDepth 100000 in
theorem cw_M_latestOf : Cond.code m_M_latestOf.1 m_M_latestOf.2.1 m_M_latestOf.2.2.1 m_M_latestOf.2.2.2 ∈ gtb := gi 1104 rfl rfl
set_option maxRecDepth 100000 in
theorem lk_M_130 : LkV "SevenEightsModel" 130 m_M_latestOf 2 11 := ⟨gi 1101 rfl rfl, gi 1103 rfl rfl, gs (q := (⟨"SevenEightsModel", "latestOf", "(II)I"⟩, 41)) 25 rfl rfl, gi 12 rfl rfl, cw_M_latestOf, by decide, ⟨by decide, by decide, by decide +kernel⟩, _, rfl, rfl⟩
set_option maxRecDepth 100000 in
theorem cw_M_boxOf : Cond.code m_M_boxOf.1 m_M_boxOf.2.1 m_M_boxOf.2.2.1 m_M_boxOf.2.2.2 ∈ gtb := gi 1092 rfl rfl
set_option maxRecDepth 100000 in
theorem lk_M_133 : LkV "SevenEightsModel" 133 m_M_boxOf 2 11 := ⟨gi 1089 rfl rfl, gi 1091 rfl rfl, gs (q := (⟨"SevenEightsModel", "boxOf", "(II)I"⟩, 41)) 22 rfl rfl, gi 12 rfl rfl, cw_M_boxOf, by decide, ⟨by decide, by decide, by decide +kernel⟩, _, rfl, rfl⟩
set_option maxRecDepth 100000 in
theorem cw_M_dueOf : Cond.code m_M_dueOf.1 m_M_dueOf.2.1 m_M_dueOf.2.2.1 m_M_dueOf.2.2.2 ∈ gtb := gi 1100 rfl rfl
set_option maxRecDepth 100000 in
theorem lk_M_136 : LkV "SevenEightsModel" 136 m_M_dueOf 2 11 := ⟨gi 1097 rfl rfl, gi 1099 rfl rfl, gs (q := (⟨"SevenEightsModel", "dueOf", "(II)I"⟩, 41)) 24 rfl rfl, gi 12 rfl rfl, cw_M_dueOf, by decide, ⟨by decide, by decide, by decide +kernel⟩, _, rfl, rfl⟩
set_option maxRecDepth 100000 in
theorem cw_M_kept : Cond.code m_M_kept.1 m_M_kept.2.1 m_M_kept.2.2.1 m_M_kept.2.2.2 ∈ gtb := gi 1134 rfl rfl
set_option maxRecDepth 100000 in
theorem lk_M_139 : LkS "SevenEightsModel" 139 m_M_kept 1 := ⟨gi 1132 rfl rfl, gi 1133 rfl rfl, gi 12 rfl rfl, cw_M_kept, by decide, ⟨by decide, by decide, by decide +kernel⟩⟩
set_option maxRecDepth 100000 in
theorem cw_M_isTime : Cond.code m_M_isTime.1 m_M_isTime.2.1 m_M_isTime.2.2.1 m_M_isTime.2.2.2 ∈ gtb := gi 1127 rfl rfl
set_option maxRecDepth 100000 in
theorem lk_M_142 : LkS "SevenEightsModel" 142 m_M_isTime 1 := ⟨gi 1125 rfl rfl, gi 1126 rfl rfl, gi 12 rfl rfl, cw_M_isTime, by decide, ⟨by decide, by decide, by decide +kernel⟩⟩
set_option maxRecDepth 100000 in
theorem cw_M_feelOf : Cond.code m_M_feelOf.1 m_M_feelOf.2.1 m_M_feelOf.2.2.1 m_M_feelOf.2.2.2 ∈ gtb := gi 1131 rfl rfl
set_option maxRecDepth 100000 in
theorem lk_M_145 : LkV "SevenEightsModel" 145 m_M_feelOf 3 11 := ⟨gi 1128 rfl rfl, gi 1130 rfl rfl, gs (q := (⟨"SevenEightsModel", "feelOf", "(III)I"⟩, 41)) 26 rfl rfl, gi 12 rfl rfl, cw_M_feelOf, by decide, ⟨by decide, by decide, by decide +kernel⟩, _, rfl, rfl⟩
set_option maxRecDepth 100000 in
theorem cw_M_takesBy : Cond.code m_M_takesBy.1 m_M_takesBy.2.1 m_M_takesBy.2.2.1 m_M_takesBy.2.2.2 ∈ gtb := gi 1149 rfl rfl
set_option maxRecDepth 100000 in
theorem lk_M_149 : LkS "SevenEightsModel" 149 m_M_takesBy 1 := ⟨gi 1147 rfl rfl, gi 1148 rfl rfl, gi 12 rfl rfl, cw_M_takesBy, by decide, ⟨by decide, by decide, by decide +kernel⟩⟩
set_option maxRecDepth 100000 in
theorem cw_M_stepOf : Cond.code m_M_stepOf.1 m_M_stepOf.2.1 m_M_stepOf.2.2.1 m_M_stepOf.2.2.2 ∈ gtb := gi 1157 rfl rfl
set_option maxRecDepth 100000 in
theorem lk_M_152 : LkV "SevenEightsModel" 152 m_M_stepOf 1 11 := ⟨gi 1154 rfl rfl, gi 1156 rfl rfl, gs (q := (⟨"SevenEightsModel", "stepOf", "(I)I"⟩, 41)) 30 rfl rfl, gi 12 rfl rfl, cw_M_stepOf, by decide, ⟨by decide, by decide, by decide +kernel⟩, _, rfl, rfl⟩
set_option maxRecDepth 100000 in
theorem cw_M_isAtOnce : Cond.code m_M_isAtOnce.1 m_M_isAtOnce.2.1 m_M_isAtOnce.2.2.1 m_M_isAtOnce.2.2.2 ∈ gtb := gi 1146 rfl rfl
set_option maxRecDepth 100000 in
theorem lk_M_155 : LkV "SevenEightsModel" 155 m_M_isAtOnce 3 11 := ⟨gi 1143 rfl rfl, gi 1145 rfl rfl, gs (q := (⟨"SevenEightsModel", "isAtOnce", "(III)Z"⟩, 41)) 28 rfl rfl, gi 12 rfl rfl, cw_M_isAtOnce, by decide, ⟨by decide, by decide, by decide +kernel⟩, _, rfl, rfl⟩
set_option maxRecDepth 100000 in
theorem fl_M_158 : FL "SevenEightsModel" 158 11 6 := ⟨R_M, F_M, 41, rfl, by decide, gi 895 rfl rfl, uw_M⟩
set_option maxRecDepth 100000 in
theorem fp_M_158 : FP "SevenEightsModel" 158 11 6 .int := ⟨R_M, F_M, 41, t_M, rfl, by decide, gi 895 rfl rfl, uw_M, t_M_ok, n_M, rfl, by decide +kernel⟩
set_option maxRecDepth 100000 in
theorem fl_M_161 : FL "SevenEightsModel" 161 11 5 := ⟨R_M, F_M, 41, rfl, by decide, gi 894 rfl rfl, uw_M⟩
set_option maxRecDepth 100000 in
theorem fp_M_161 : FP "SevenEightsModel" 161 11 5 .int := ⟨R_M, F_M, 41, t_M, rfl, by decide, gi 894 rfl rfl, uw_M, t_M_ok, n_M, rfl, by decide +kernel⟩
set_option maxRecDepth 100000 in
theorem fl_M_164 : FL "SevenEightsModel" 164 11 7 := ⟨R_M, F_M, 41, rfl, by decide, gi 896 rfl rfl, uw_M⟩
set_option maxRecDepth 100000 in
theorem fp_M_164 : FP "SevenEightsModel" 164 11 7 .int := ⟨R_M, F_M, 41, t_M, rfl, by decide, gi 896 rfl rfl, uw_M, t_M_ok, n_M, rfl, by decide +kernel⟩
set_option maxRecDepth 100000 in
theorem cw_M_wayFrom : Cond.code m_M_wayFrom.1 m_M_wayFrom.2.1 m_M_wayFrom.2.2.1 m_M_wayFrom.2.2.2 ∈ gtb := gi 1153 rfl rfl
set_option maxRecDepth 100000 in
theorem lk_M_167 : LkV "SevenEightsModel" 167 m_M_wayFrom 3 11 := ⟨gi 1150 rfl rfl, gi 1152 rfl rfl, gs (q := (⟨"SevenEightsModel", "wayFrom", "(III)I"⟩, 41)) 29 rfl rfl, gi 12 rfl rfl, cw_M_wayFrom, by decide, ⟨by decide, by decide, by decide +kernel⟩, _, rfl, rfl⟩
set_option maxRecDepth 100000 in
theorem cw_M_slipTo : Cond.code m_M_slipTo.1 m_M_slipTo.2.1 m_M_slipTo.2.2.1 m_M_slipTo.2.2.2 ∈ gtb := gi 1161 rfl rfl
set_option maxRecDepth 100000 in
theorem lk_M_170 : LkV "SevenEightsModel" 170 m_M_slipTo 3 11 := ⟨gi 1158 rfl rfl, gi 1160 rfl rfl, gs (q := (⟨"SevenEightsModel", "slipTo", "(III)I"⟩, 41)) 31 rfl rfl, gi 12 rfl rfl, cw_M_slipTo, by decide, ⟨by decide, by decide, by decide +kernel⟩, _, rfl, rfl⟩
set_option maxRecDepth 100000 in
theorem cw_M_says : Cond.code m_M_says.1 m_M_says.2.1 m_M_says.2.2.1 m_M_says.2.2.2 ∈ gtb := gi 1142 rfl rfl
set_option maxRecDepth 100000 in
theorem lk_M_173 : LkV "SevenEightsModel" 173 m_M_says 3 11 := ⟨gi 1139 rfl rfl, gi 1141 rfl rfl, gs (q := (⟨"SevenEightsModel", "says", "(III)V"⟩, 41)) 27 rfl rfl, gi 12 rfl rfl, cw_M_says, by decide, ⟨by decide, by decide, by decide +kernel⟩, _, rfl, rfl⟩
set_option maxRecDepth 100000 in
theorem cw_M_said : Cond.code m_M_said.1 m_M_said.2.1 m_M_said.2.2.1 m_M_said.2.2.2 ∈ gtb := gi 1165 rfl rfl
set_option maxRecDepth 100000 in
theorem lk_M_177 : LkV "SevenEightsModel" 177 m_M_said 1 11 := ⟨gi 1162 rfl rfl, gi 1164 rfl rfl, gs (q := (⟨"SevenEightsModel", "said", "(I)I"⟩, 41)) 32 rfl rfl, gi 12 rfl rfl, cw_M_said, by decide, ⟨by decide, by decide, by decide +kernel⟩, _, rfl, rfl⟩
set_option maxRecDepth 100000 in
theorem cw_M_firmBecomes : Cond.code m_M_firmBecomes.1 m_M_firmBecomes.2.1 m_M_firmBecomes.2.2.1 m_M_firmBecomes.2.2.2 ∈ gtb := gi 1177 rfl rfl
set_option maxRecDepth 100000 in
theorem lk_M_180 : LkV "SevenEightsModel" 180 m_M_firmBecomes 3 11 := ⟨gi 1174 rfl rfl, gi 1176 rfl rfl, gs (q := (⟨"SevenEightsModel", "firmBecomes", "(III)V"⟩, 41)) 34 rfl rfl, gi 12 rfl rfl, cw_M_firmBecomes, by decide, ⟨by decide, by decide, by decide +kernel⟩, _, rfl, rfl⟩
set_option maxRecDepth 100000 in
theorem cw_M_asked : Cond.code m_M_asked.1 m_M_asked.2.1 m_M_asked.2.2.1 m_M_asked.2.2.2 ∈ gtb := gi 1173 rfl rfl
set_option maxRecDepth 100000 in
theorem lk_M_183 : LkV "SevenEightsModel" 183 m_M_asked 3 11 := ⟨gi 1170 rfl rfl, gi 1172 rfl rfl, gs (q := (⟨"SevenEightsModel", "asked", "(III)I"⟩, 41)) 33 rfl rfl, gi 12 rfl rfl, cw_M_asked, by decide, ⟨by decide, by decide, by decide +kernel⟩, _, rfl, rfl⟩
set_option maxRecDepth 100000 in
theorem cw_M_isTold : Cond.code m_M_isTold.1 m_M_isTold.2.1 m_M_isTold.2.2.1 m_M_isTold.2.2.2 ∈ gtb := gi 1185 rfl rfl
set_option maxRecDepth 100000 in
theorem lk_M_186 : LkV "SevenEightsModel" 186 m_M_isTold 2 11 := ⟨gi 1182 rfl rfl, gi 1184 rfl rfl, gs (q := (⟨"SevenEightsModel", "isTold", "(II)V"⟩, 41)) 35 rfl rfl, gi 12 rfl rfl, cw_M_isTold, by decide, ⟨by decide, by decide, by decide +kernel⟩, _, rfl, rfl⟩
set_option maxRecDepth 100000 in
theorem cw_M_nightGoes : Cond.code m_M_nightGoes.1 m_M_nightGoes.2.1 m_M_nightGoes.2.2.1 m_M_nightGoes.2.2.2 ∈ gtb := gi 1193 rfl rfl
set_option maxRecDepth 100000 in
theorem lk_M_190 : LkV "SevenEightsModel" 190 m_M_nightGoes 0 11 := ⟨gi 1190 rfl rfl, gi 1192 rfl rfl, gs (q := (⟨"SevenEightsModel", "nightGoes", "()V"⟩, 41)) 36 rfl rfl, gi 12 rfl rfl, cw_M_nightGoes, by decide, ⟨by decide, by decide, by decide +kernel⟩, _, rfl, rfl⟩
set_option maxRecDepth 100000 in
theorem cw_M_isKnown : Cond.code m_M_isKnown.1 m_M_isKnown.2.1 m_M_isKnown.2.2.1 m_M_isKnown.2.2.2 ∈ gtb := gi 1209 rfl rfl
set_option maxRecDepth 100000 in
theorem lk_M_193 : LkV "SevenEightsModel" 193 m_M_isKnown 3 11 := ⟨gi 1206 rfl rfl, gi 1208 rfl rfl, gs (q := (⟨"SevenEightsModel", "isKnown", "(III)Z"⟩, 41)) 38 rfl rfl, gi 12 rfl rfl, cw_M_isKnown, by decide, ⟨by decide, by decide, by decide +kernel⟩, _, rfl, rfl⟩
set_option maxRecDepth 100000 in
theorem cw_M_knownSet : Cond.code m_M_knownSet.1 m_M_knownSet.2.1 m_M_knownSet.2.2.1 m_M_knownSet.2.2.2 ∈ gtb := gi 1205 rfl rfl
set_option maxRecDepth 100000 in
theorem lk_M_196 : LkV "SevenEightsModel" 196 m_M_knownSet 2 11 := ⟨gi 1202 rfl rfl, gi 1204 rfl rfl, gs (q := (⟨"SevenEightsModel", "knownSet", "(II)J"⟩, 41)) 37 rfl rfl, gi 12 rfl rfl, cw_M_knownSet, by decide, ⟨by decide, by decide, by decide +kernel⟩, _, rfl, rfl⟩
set_option maxRecDepth 100000 in
theorem kc_M_200 : Cond.constantLong "SevenEightsModel" 200 (68719476735) ∈ gtb := gi 1221 rfl rfl
set_option maxRecDepth 100000 in
theorem cw_M_lends : Cond.code m_M_lends.1 m_M_lends.2.1 m_M_lends.2.2.1 m_M_lends.2.2.2 ∈ gtb := gi 1217 rfl rfl
set_option maxRecDepth 100000 in
theorem lk_M_202 : LkV "SevenEightsModel" 202 m_M_lends 0 11 := ⟨gi 1214 rfl rfl, gi 1216 rfl rfl, gs (q := (⟨"SevenEightsModel", "lends", "()V"⟩, 41)) 39 rfl rfl, gi 12 rfl rfl, cw_M_lends, by decide, ⟨by decide, by decide, by decide +kernel⟩, _, rfl, rfl⟩
set_option maxRecDepth 100000 in
theorem cw_M_all : Cond.code m_M_all.1 m_M_all.2.1 m_M_all.2.2.1 m_M_all.2.2.2 ∈ gtb := gi 1220 rfl rfl
set_option maxRecDepth 100000 in
theorem lk_M_205 : LkS "SevenEightsModel" 205 m_M_all 0 := ⟨gi 1218 rfl rfl, gi 1219 rfl rfl, gi 12 rfl rfl, cw_M_all, by decide, ⟨by decide, by decide, by decide +kernel⟩⟩
set_option maxRecDepth 100000 in
theorem cw_M_isSide : Cond.code m_M_isSide.1 m_M_isSide.2.1 m_M_isSide.2.2.1 m_M_isSide.2.2.2 ∈ gtb := gi 1228 rfl rfl
set_option maxRecDepth 100000 in
theorem lk_M_209 : LkS "SevenEightsModel" 209 m_M_isSide 1 := ⟨gi 1226 rfl rfl, gi 1227 rfl rfl, gi 12 rfl rfl, cw_M_isSide, by decide, ⟨by decide, by decide, by decide +kernel⟩⟩
set_option maxRecDepth 100000 in
theorem cw_M_ones : Cond.code m_M_ones.1 m_M_ones.2.1 m_M_ones.2.2.1 m_M_ones.2.2.2 ∈ gtb := gi 1231 rfl rfl
set_option maxRecDepth 100000 in
theorem lk_M_212 : LkS "SevenEightsModel" 212 m_M_ones 1 := ⟨gi 1229 rfl rfl, gi 1230 rfl rfl, gi 12 rfl rfl, cw_M_ones, by decide, ⟨by decide, by decide, by decide +kernel⟩⟩
set_option maxRecDepth 100000 in
theorem cw_M_partOf : Cond.code m_M_partOf.1 m_M_partOf.2.1 m_M_partOf.2.2.1 m_M_partOf.2.2.2 ∈ gtb := gi 1234 rfl rfl
set_option maxRecDepth 100000 in
theorem lk_M_216 : LkS "SevenEightsModel" 216 m_M_partOf 3 := ⟨gi 1232 rfl rfl, gi 1233 rfl rfl, gi 12 rfl rfl, cw_M_partOf, by decide, ⟨by decide, by decide, by decide +kernel⟩⟩
set_option maxRecDepth 100000 in
theorem cw_M_firmBehind : Cond.code m_M_firmBehind.1 m_M_firmBehind.2.1 m_M_firmBehind.2.2.1 m_M_firmBehind.2.2.2 ∈ gtb := gi 1246 rfl rfl
set_option maxRecDepth 100000 in
theorem lk_M_219 : LkV "SevenEightsModel" 219 m_M_firmBehind 3 11 := ⟨gi 1243 rfl rfl, gi 1245 rfl rfl, gs (q := (⟨"SevenEightsModel", "firmBehind", "(III)I"⟩, 41)) 41 rfl rfl, gi 12 rfl rfl, cw_M_firmBehind, by decide, ⟨by decide, by decide, by decide +kernel⟩, _, rfl, rfl⟩
set_option maxRecDepth 100000 in
theorem cw_M_findBehind : Cond.code m_M_findBehind.1 m_M_findBehind.2.1 m_M_findBehind.2.2.1 m_M_findBehind.2.2.2 ∈ gtb := gi 1242 rfl rfl
set_option maxRecDepth 100000 in
theorem lk_M_222 : LkV "SevenEightsModel" 222 m_M_findBehind 2 11 := ⟨gi 1239 rfl rfl, gi 1241 rfl rfl, gs (q := (⟨"SevenEightsModel", "findBehind", "(II)V"⟩, 41)) 40 rfl rfl, gi 12 rfl rfl, cw_M_findBehind, by decide, ⟨by decide, by decide, by decide +kernel⟩, _, rfl, rfl⟩
set_option maxRecDepth 100000 in
theorem fl_M_225 : FL "SevenEightsModel" 225 11 11 := ⟨R_M, F_M, 41, rfl, by decide, gi 900 rfl rfl, uw_M⟩
set_option maxRecDepth 100000 in
theorem fp_M_225 : FP "SevenEightsModel" 225 11 11 .int := ⟨R_M, F_M, 41, t_M, rfl, by decide, gi 900 rfl rfl, uw_M, t_M_ok, n_M, rfl, by decide +kernel⟩
set_option maxRecDepth 100000 in
theorem kc_M_228 : Cond.constantLong "SevenEightsModel" 228 (255) ∈ gtb := gi 1263 rfl rfl
set_option maxRecDepth 100000 in
theorem fl_M_230 : FL "SevenEightsModel" 230 11 14 := ⟨R_M, F_M, 41, rfl, by decide, gi 903 rfl rfl, uw_M⟩
set_option maxRecDepth 100000 in
theorem fp_M_230 : FP "SevenEightsModel" 230 11 14 .int := ⟨R_M, F_M, 41, t_M, rfl, by decide, gi 903 rfl rfl, uw_M, t_M_ok, n_M, rfl, by decide +kernel⟩
set_option maxRecDepth 100000 in
theorem fl_M_233 : FL "SevenEightsModel" 233 11 13 := ⟨R_M, F_M, 41, rfl, by decide, gi 902 rfl rfl, uw_M⟩
set_option maxRecDepth 100000 in
theorem fp_M_233 : FP "SevenEightsModel" 233 11 13 .int := ⟨R_M, F_M, 41, t_M, rfl, by decide, gi 902 rfl rfl, uw_M, t_M_ok, n_M, rfl, by decide +kernel⟩
set_option maxRecDepth 100000 in
theorem cw_M_byteAt : Cond.code m_M_byteAt.1 m_M_byteAt.2.1 m_M_byteAt.2.2.1 m_M_byteAt.2.2.2 ∈ gtb := gi 1275 rfl rfl
set_option maxRecDepth 100000 in
theorem lk_M_236 : LkV "SevenEightsModel" 236 m_M_byteAt 1 11 := ⟨gi 1272 rfl rfl, gi 1274 rfl rfl, gs (q := (⟨"SevenEightsModel", "byteAt", "(I)I"⟩, 41)) 43 rfl rfl, gi 12 rfl rfl, cw_M_byteAt, by decide, ⟨by decide, by decide, by decide +kernel⟩, _, rfl, rfl⟩
set_option maxRecDepth 100000 in
theorem cw_M_isLetter : Cond.code m_M_isLetter.1 m_M_isLetter.2.1 m_M_isLetter.2.2.1 m_M_isLetter.2.2.2 ∈ gtb := gi 1278 rfl rfl
set_option maxRecDepth 100000 in
theorem lk_M_239 : LkS "SevenEightsModel" 239 m_M_isLetter 1 := ⟨gi 1276 rfl rfl, gi 1277 rfl rfl, gi 12 rfl rfl, cw_M_isLetter, by decide, ⟨by decide, by decide, by decide +kernel⟩⟩
set_option maxRecDepth 100000 in
theorem cw_M_isDigit : Cond.code m_M_isDigit.1 m_M_isDigit.2.1 m_M_isDigit.2.2.1 m_M_isDigit.2.2.2 ∈ gtb := gi 1281 rfl rfl
set_option maxRecDepth 100000 in
theorem lk_M_242 : LkS "SevenEightsModel" 242 m_M_isDigit 1 := ⟨gi 1279 rfl rfl, gi 1280 rfl rfl, gi 12 rfl rfl, cw_M_isDigit, by decide, ⟨by decide, by decide, by decide +kernel⟩⟩
set_option maxRecDepth 100000 in
theorem fl_M_245 : FL "SevenEightsModel" 245 11 12 := ⟨R_M, F_M, 41, rfl, by decide, gi 901 rfl rfl, uw_M⟩
set_option maxRecDepth 100000 in
theorem fp_M_245 : FP "SevenEightsModel" 245 11 12 .int := ⟨R_M, F_M, 41, t_M, rfl, by decide, gi 901 rfl rfl, uw_M, t_M_ok, n_M, rfl, by decide +kernel⟩
set_option maxRecDepth 100000 in
theorem fl_M_248 : FL "SevenEightsModel" 248 11 15 := ⟨R_M, F_M, 41, rfl, by decide, gi 904 rfl rfl, uw_M⟩
set_option maxRecDepth 100000 in
theorem fp_M_248 : FP "SevenEightsModel" 248 11 15 .long := ⟨R_M, F_M, 41, t_M, rfl, by decide, gi 904 rfl rfl, uw_M, t_M_ok, n_M, rfl, by decide +kernel⟩
set_option maxRecDepth 100000 in
theorem fl_M_252 : FL "SevenEightsModel" 252 11 16 := ⟨R_M, F_M, 41, rfl, by decide, gi 905 rfl rfl, uw_M⟩
set_option maxRecDepth 100000 in
theorem fp_M_252 : FP "SevenEightsModel" 252 11 16 .int := ⟨R_M, F_M, 41, t_M, rfl, by decide, gi 905 rfl rfl, uw_M, t_M_ok, n_M, rfl, by decide +kernel⟩
set_option maxRecDepth 100000 in
theorem kc_M_255 : Cond.constantLong "SevenEightsModel" 255 (27) ∈ gtb := gi 1282 rfl rfl
set_option maxRecDepth 100000 in
theorem kc_M_257 : Cond.constantLong "SevenEightsModel" 257 (96) ∈ gtb := gi 1283 rfl rfl
set_option maxRecDepth 100000 in
theorem fl_M_259 : FL "SevenEightsModel" 259 11 17 := ⟨R_M, F_M, 41, rfl, by decide, gi 906 rfl rfl, uw_M⟩
set_option maxRecDepth 100000 in
theorem fp_M_259 : FP "SevenEightsModel" 259 11 17 .boolean := ⟨R_M, F_M, 41, t_M, rfl, by decide, gi 906 rfl rfl, uw_M, t_M_ok, n_M, rfl, by decide +kernel⟩
set_option maxRecDepth 100000 in
theorem cw_M_advance : Cond.code m_M_advance.1 m_M_advance.2.1 m_M_advance.2.2.1 m_M_advance.2.2.2 ∈ gtb := gi 1271 rfl rfl
set_option maxRecDepth 100000 in
theorem lk_M_263 : LkV "SevenEightsModel" 263 m_M_advance 0 11 := ⟨gi 1268 rfl rfl, gi 1270 rfl rfl, gs (q := (⟨"SevenEightsModel", "advance", "()V"⟩, 41)) 42 rfl rfl, gi 12 rfl rfl, cw_M_advance, by decide, ⟨by decide, by decide, by decide +kernel⟩, _, rfl, rfl⟩
set_option maxRecDepth 100000 in
theorem kc_M_266 : Cond.constantLong "SevenEightsModel" 266 (1253) ∈ gtb := gi 1288 rfl rfl
set_option maxRecDepth 100000 in
theorem cw_M_isWord : Cond.code m_M_isWord.1 m_M_isWord.2.1 m_M_isWord.2.2.1 m_M_isWord.2.2.2 ∈ gtb := gi 1292 rfl rfl
set_option maxRecDepth 100000 in
theorem lk_M_268 : LkV "SevenEightsModel" 268 m_M_isWord 1 11 := ⟨gi 1289 rfl rfl, gi 1291 rfl rfl, gs (q := (⟨"SevenEightsModel", "isWord", "(J)Z"⟩, 41)) 45 rfl rfl, gi 12 rfl rfl, cw_M_isWord, by decide, ⟨by decide, by decide, by decide +kernel⟩, _, rfl, rfl⟩
set_option maxRecDepth 100000 in
theorem kc_M_272 : Cond.constantLong "SevenEightsModel" 272 (397641) ∈ gtb := gi 1293 rfl rfl
set_option maxRecDepth 100000 in
theorem kc_M_274 : Cond.constantLong "SevenEightsModel" 274 (358472) ∈ gtb := gi 1294 rfl rfl
set_option maxRecDepth 100000 in
theorem cw_M_wantNumber : Cond.code m_M_wantNumber.1 m_M_wantNumber.2.1 m_M_wantNumber.2.2.1 m_M_wantNumber.2.2.2 ∈ gtb := gi 1298 rfl rfl
set_option maxRecDepth 100000 in
theorem lk_M_276 : LkV "SevenEightsModel" 276 m_M_wantNumber 2 11 := ⟨gi 1295 rfl rfl, gi 1297 rfl rfl, gs (q := (⟨"SevenEightsModel", "wantNumber", "(II)I"⟩, 41)) 46 rfl rfl, gi 12 rfl rfl, cw_M_wantNumber, by decide, ⟨by decide, by decide, by decide +kernel⟩, _, rfl, rfl⟩
set_option maxRecDepth 100000 in
theorem kc_M_279 : Cond.constantLong "SevenEightsModel" 279 (257) ∈ gtb := gi 1299 rfl rfl
set_option maxRecDepth 100000 in
theorem cw_M_isMark : Cond.code m_M_isMark.1 m_M_isMark.2.1 m_M_isMark.2.2.1 m_M_isMark.2.2.2 ∈ gtb := gi 1303 rfl rfl
set_option maxRecDepth 100000 in
theorem lk_M_281 : LkV "SevenEightsModel" 281 m_M_isMark 1 11 := ⟨gi 1300 rfl rfl, gi 1302 rfl rfl, gs (q := (⟨"SevenEightsModel", "isMark", "(I)Z"⟩, 41)) 47 rfl rfl, gi 12 rfl rfl, cw_M_isMark, by decide, ⟨by decide, by decide, by decide +kernel⟩, _, rfl, rfl⟩
set_option maxRecDepth 100000 in
theorem cw_M_wantItem : Cond.code m_M_wantItem.1 m_M_wantItem.2.1 m_M_wantItem.2.2.1 m_M_wantItem.2.2.2 ∈ gtb := gi 1287 rfl rfl
set_option maxRecDepth 100000 in
theorem lk_M_284 : LkV "SevenEightsModel" 284 m_M_wantItem 1 11 := ⟨gi 1284 rfl rfl, gi 1286 rfl rfl, gs (q := (⟨"SevenEightsModel", "wantItem", "(I)V"⟩, 41)) 44 rfl rfl, gi 12 rfl rfl, cw_M_wantItem, by decide, ⟨by decide, by decide, by decide +kernel⟩, _, rfl, rfl⟩
set_option maxRecDepth 100000 in
theorem fl_M_288 : FL "SevenEightsModel" 288 11 18 := ⟨R_M, F_M, 41, rfl, by decide, gi 907 rfl rfl, uw_M⟩
set_option maxRecDepth 100000 in
theorem fp_M_288 : FP "SevenEightsModel" 288 11 18 .int := ⟨R_M, F_M, 41, t_M, rfl, by decide, gi 907 rfl rfl, uw_M, t_M_ok, n_M, rfl, by decide +kernel⟩
set_option maxRecDepth 100000 in
theorem cw_M_does : Cond.code m_M_does.1 m_M_does.2.1 m_M_does.2.2.1 m_M_does.2.2.2 ∈ gtb := gi 1311 rfl rfl
set_option maxRecDepth 100000 in
theorem lk_M_291 : LkV "SevenEightsModel" 291 m_M_does 2 11 := ⟨gi 1308 rfl rfl, gi 1310 rfl rfl, gs (q := (⟨"SevenEightsModel", "does", "(II)I"⟩, 41)) 48 rfl rfl, gi 12 rfl rfl, cw_M_does, by decide, ⟨by decide, by decide, by decide +kernel⟩, _, rfl, rfl⟩
set_option maxRecDepth 100000 in
theorem kc_M_294 : Cond.constant "SevenEightsModel" 294 (1103515245) ∈ gtb := gi 1324 rfl rfl
set_option maxRecDepth 100000 in
theorem fl_M_295 : FL "SevenEightsModel" 295 11 24 := ⟨R_M, F_M, 41, rfl, by decide, gi 913 rfl rfl, uw_M⟩
set_option maxRecDepth 100000 in
theorem fp_M_295 : FP "SevenEightsModel" 295 11 24 .int := ⟨R_M, F_M, 41, t_M, rfl, by decide, gi 913 rfl rfl, uw_M, t_M_ok, n_M, rfl, by decide +kernel⟩
set_option maxRecDepth 100000 in
theorem cw_M_findRows : Cond.code m_M_findRows.1 m_M_findRows.2.1 m_M_findRows.2.2.1 m_M_findRows.2.2.2 ∈ gtb := gi 1332 rfl rfl
set_option maxRecDepth 100000 in
theorem lk_M_298 : LkV "SevenEightsModel" 298 m_M_findRows 1 11 := ⟨gi 1329 rfl rfl, gi 1331 rfl rfl, gs (q := (⟨"SevenEightsModel", "findRows", "(I)V"⟩, 41)) 49 rfl rfl, gi 12 rfl rfl, cw_M_findRows, by decide, ⟨by decide, by decide, by decide +kernel⟩, _, rfl, rfl⟩
set_option maxRecDepth 100000 in
theorem fl_M_301 : FL "SevenEightsModel" 301 11 23 := ⟨R_M, F_M, 41, rfl, by decide, gi 912 rfl rfl, uw_M⟩
set_option maxRecDepth 100000 in
theorem fp_M_301 : FP "SevenEightsModel" 301 11 23 .int := ⟨R_M, F_M, 41, t_M, rfl, by decide, gi 912 rfl rfl, uw_M, t_M_ok, n_M, rfl, by decide +kernel⟩
set_option maxRecDepth 100000 in
theorem cw_M_isRow : Cond.code m_M_isRow.1 m_M_isRow.2.1 m_M_isRow.2.2.1 m_M_isRow.2.2.2 ∈ gtb := gi 1340 rfl rfl
set_option maxRecDepth 100000 in
theorem lk_M_304 : LkV "SevenEightsModel" 304 m_M_isRow 2 11 := ⟨gi 1337 rfl rfl, gi 1339 rfl rfl, gs (q := (⟨"SevenEightsModel", "isRow", "(II)Z"⟩, 41)) 50 rfl rfl, gi 12 rfl rfl, cw_M_isRow, by decide, ⟨by decide, by decide, by decide +kernel⟩, _, rfl, rfl⟩
set_option maxRecDepth 100000 in
theorem cw_M_isShelf : Cond.code m_M_isShelf.1 m_M_isShelf.2.1 m_M_isShelf.2.2.1 m_M_isShelf.2.2.2 ∈ gtb := gi 1355 rfl rfl
set_option maxRecDepth 100000 in
theorem lk_M_308 : LkS "SevenEightsModel" 308 m_M_isShelf 1 := ⟨gi 1353 rfl rfl, gi 1354 rfl rfl, gi 12 rfl rfl, cw_M_isShelf, by decide, ⟨by decide, by decide, by decide +kernel⟩⟩
set_option maxRecDepth 100000 in
theorem cw_M_lacksSort : Cond.code m_M_lacksSort.1 m_M_lacksSort.2.1 m_M_lacksSort.2.2.1 m_M_lacksSort.2.2.2 ∈ gtb := gi 1359 rfl rfl
set_option maxRecDepth 100000 in
theorem lk_M_311 : LkV "SevenEightsModel" 311 m_M_lacksSort 2 11 := ⟨gi 1356 rfl rfl, gi 1358 rfl rfl, gs (q := (⟨"SevenEightsModel", "lacksSort", "(II)I"⟩, 41)) 51 rfl rfl, gi 12 rfl rfl, cw_M_lacksSort, by decide, ⟨by decide, by decide, by decide +kernel⟩, _, rfl, rfl⟩
set_option maxRecDepth 100000 in
theorem cw_M_isHeld : Cond.code m_M_isHeld.1 m_M_isHeld.2.1 m_M_isHeld.2.2.1 m_M_isHeld.2.2.2 ∈ gtb := gi 1379 rfl rfl
set_option maxRecDepth 100000 in
theorem lk_M_314 : LkV "SevenEightsModel" 314 m_M_isHeld 2 11 := ⟨gi 1376 rfl rfl, gi 1378 rfl rfl, gs (q := (⟨"SevenEightsModel", "isHeld", "(II)Z"⟩, 41)) 52 rfl rfl, gi 12 rfl rfl, cw_M_isHeld, by decide, ⟨by decide, by decide, by decide +kernel⟩, _, rfl, rfl⟩
set_option maxRecDepth 100000 in
theorem cw_M_kindOn : Cond.code m_M_kindOn.1 m_M_kindOn.2.1 m_M_kindOn.2.2.1 m_M_kindOn.2.2.2 ∈ gtb := gi 1387 rfl rfl
set_option maxRecDepth 100000 in
theorem lk_M_317 : LkV "SevenEightsModel" 317 m_M_kindOn 1 11 := ⟨gi 1384 rfl rfl, gi 1386 rfl rfl, gs (q := (⟨"SevenEightsModel", "kindOn", "(I)I"⟩, 41)) 53 rfl rfl, gi 12 rfl rfl, cw_M_kindOn, by decide, ⟨by decide, by decide, by decide +kernel⟩, _, rfl, rfl⟩
set_option maxRecDepth 100000 in
theorem cw_M_isUnder : Cond.code m_M_isUnder.1 m_M_isUnder.2.1 m_M_isUnder.2.2.1 m_M_isUnder.2.2.2 ∈ gtb := gi 1390 rfl rfl
set_option maxRecDepth 100000 in
theorem lk_M_320 : LkS "SevenEightsModel" 320 m_M_isUnder 2 := ⟨gi 1388 rfl rfl, gi 1389 rfl rfl, gi 12 rfl rfl, cw_M_isUnder, by decide, ⟨by decide, by decide, by decide +kernel⟩⟩
set_option maxRecDepth 100000 in
theorem fl_M_323 : FL "SevenEightsModel" 323 11 35 := ⟨R_M, F_M, 41, rfl, by decide, gi 924 rfl rfl, uw_M⟩
set_option maxRecDepth 100000 in
theorem fp_M_323 : FP "SevenEightsModel" 323 11 35 .int := ⟨R_M, F_M, 41, t_M, rfl, by decide, gi 924 rfl rfl, uw_M, t_M_ok, n_M, rfl, by decide +kernel⟩
set_option maxRecDepth 100000 in
theorem cw_M_ran : Cond.code m_M_ran.1 m_M_ran.2.1 m_M_ran.2.2.1 m_M_ran.2.2.2 ∈ gtb := gi 1406 rfl rfl
set_option maxRecDepth 100000 in
theorem lk_M_326 : LkV "SevenEightsModel" 326 m_M_ran 1 11 := ⟨gi 1403 rfl rfl, gi 1405 rfl rfl, gs (q := (⟨"SevenEightsModel", "ran", "(I)V"⟩, 41)) 56 rfl rfl, gi 12 rfl rfl, cw_M_ran, by decide, ⟨by decide, by decide, by decide +kernel⟩, _, rfl, rfl⟩
set_option maxRecDepth 100000 in
theorem fl_M_329 : FL "SevenEightsModel" 329 11 32 := ⟨R_M, F_M, 41, rfl, by decide, gi 921 rfl rfl, uw_M⟩
set_option maxRecDepth 100000 in
theorem fp_M_329 : FP "SevenEightsModel" 329 11 32 .int := ⟨R_M, F_M, 41, t_M, rfl, by decide, gi 921 rfl rfl, uw_M, t_M_ok, n_M, rfl, by decide +kernel⟩
set_option maxRecDepth 100000 in
theorem cw_M_plainSays : Cond.code m_M_plainSays.1 m_M_plainSays.2.1 m_M_plainSays.2.2.1 m_M_plainSays.2.2.2 ∈ gtb := gi 1410 rfl rfl
set_option maxRecDepth 100000 in
theorem lk_M_332 : LkV "SevenEightsModel" 332 m_M_plainSays 1 11 := ⟨gi 1407 rfl rfl, gi 1409 rfl rfl, gs (q := (⟨"SevenEightsModel", "plainSays", "(I)I"⟩, 41)) 57 rfl rfl, gi 12 rfl rfl, cw_M_plainSays, by decide, ⟨by decide, by decide, by decide +kernel⟩, _, rfl, rfl⟩
set_option maxRecDepth 100000 in
theorem fl_M_335 : FL "SevenEightsModel" 335 11 31 := ⟨R_M, F_M, 41, rfl, by decide, gi 920 rfl rfl, uw_M⟩
set_option maxRecDepth 100000 in
theorem fp_M_335 : FP "SevenEightsModel" 335 11 31 .int := ⟨R_M, F_M, 41, t_M, rfl, by decide, gi 920 rfl rfl, uw_M, t_M_ok, n_M, rfl, by decide +kernel⟩
set_option maxRecDepth 100000 in
theorem cw_M_parrotSays : Cond.code m_M_parrotSays.1 m_M_parrotSays.2.1 m_M_parrotSays.2.2.1 m_M_parrotSays.2.2.2 ∈ gtb := gi 1402 rfl rfl
set_option maxRecDepth 100000 in
theorem lk_M_338 : LkV "SevenEightsModel" 338 m_M_parrotSays 1 11 := ⟨gi 1399 rfl rfl, gi 1401 rfl rfl, gs (q := (⟨"SevenEightsModel", "parrotSays", "(I)I"⟩, 41)) 55 rfl rfl, gi 12 rfl rfl, cw_M_parrotSays, by decide, ⟨by decide, by decide, by decide +kernel⟩, _, rfl, rfl⟩
set_option maxRecDepth 100000 in
theorem cw_M_saysIt : Cond.code m_M_saysIt.1 m_M_saysIt.2.1 m_M_saysIt.2.2.1 m_M_saysIt.2.2.2 ∈ gtb := gi 1398 rfl rfl
set_option maxRecDepth 100000 in
theorem lk_M_341 : LkV "SevenEightsModel" 341 m_M_saysIt 1 11 := ⟨gi 1395 rfl rfl, gi 1397 rfl rfl, gs (q := (⟨"SevenEightsModel", "saysIt", "(I)I"⟩, 41)) 54 rfl rfl, gi 12 rfl rfl, cw_M_saysIt, by decide, ⟨by decide, by decide, by decide +kernel⟩, _, rfl, rfl⟩
set_option maxRecDepth 100000 in
theorem cw_M_plainLearns : Cond.code m_M_plainLearns.1 m_M_plainLearns.2.1 m_M_plainLearns.2.2.1 m_M_plainLearns.2.2.2 ∈ gtb := gi 1418 rfl rfl
set_option maxRecDepth 100000 in
theorem lk_M_344 : LkV "SevenEightsModel" 344 m_M_plainLearns 1 11 := ⟨gi 1415 rfl rfl, gi 1417 rfl rfl, gs (q := (⟨"SevenEightsModel", "plainLearns", "(I)I"⟩, 41)) 59 rfl rfl, gi 12 rfl rfl, cw_M_plainLearns, by decide, ⟨by decide, by decide, by decide +kernel⟩, _, rfl, rfl⟩
set_option maxRecDepth 100000 in
theorem fl_M_347 : FL "SevenEightsModel" 347 11 33 := ⟨R_M, F_M, 41, rfl, by decide, gi 922 rfl rfl, uw_M⟩
set_option maxRecDepth 100000 in
theorem fp_M_347 : FP "SevenEightsModel" 347 11 33 .int := ⟨R_M, F_M, 41, t_M, rfl, by decide, gi 922 rfl rfl, uw_M, t_M_ok, n_M, rfl, by decide +kernel⟩
set_option maxRecDepth 100000 in
theorem fl_M_350 : FL "SevenEightsModel" 350 11 36 := ⟨R_M, F_M, 41, rfl, by decide, gi 925 rfl rfl, uw_M⟩
set_option maxRecDepth 100000 in
theorem fp_M_350 : FP "SevenEightsModel" 350 11 36 .boolean := ⟨R_M, F_M, 41, t_M, rfl, by decide, gi 925 rfl rfl, uw_M, t_M_ok, n_M, rfl, by decide +kernel⟩
set_option maxRecDepth 100000 in
theorem cw_M_plainShares : Cond.code m_M_plainShares.1 m_M_plainShares.2.1 m_M_plainShares.2.2.1 m_M_plainShares.2.2.2 ∈ gtb := gi 1426 rfl rfl
set_option maxRecDepth 100000 in
theorem lk_M_353 : LkV "SevenEightsModel" 353 m_M_plainShares 1 11 := ⟨gi 1423 rfl rfl, gi 1425 rfl rfl, gs (q := (⟨"SevenEightsModel", "plainShares", "(I)I"⟩, 41)) 61 rfl rfl, gi 12 rfl rfl, cw_M_plainShares, by decide, ⟨by decide, by decide, by decide +kernel⟩, _, rfl, rfl⟩
set_option maxRecDepth 100000 in
theorem cw_M_learnsIt : Cond.code m_M_learnsIt.1 m_M_learnsIt.2.1 m_M_learnsIt.2.2.1 m_M_learnsIt.2.2.2 ∈ gtb := gi 1414 rfl rfl
set_option maxRecDepth 100000 in
theorem lk_M_356 : LkV "SevenEightsModel" 356 m_M_learnsIt 1 11 := ⟨gi 1411 rfl rfl, gi 1413 rfl rfl, gs (q := (⟨"SevenEightsModel", "learnsIt", "(I)I"⟩, 41)) 58 rfl rfl, gi 12 rfl rfl, cw_M_learnsIt, by decide, ⟨by decide, by decide, by decide +kernel⟩, _, rfl, rfl⟩
set_option maxRecDepth 100000 in
theorem cw_M_plainTells : Cond.code m_M_plainTells.1 m_M_plainTells.2.1 m_M_plainTells.2.2.1 m_M_plainTells.2.2.2 ∈ gtb := gi 1434 rfl rfl
set_option maxRecDepth 100000 in
theorem lk_M_359 : LkV "SevenEightsModel" 359 m_M_plainTells 1 11 := ⟨gi 1431 rfl rfl, gi 1433 rfl rfl, gs (q := (⟨"SevenEightsModel", "plainTells", "(I)I"⟩, 41)) 63 rfl rfl, gi 12 rfl rfl, cw_M_plainTells, by decide, ⟨by decide, by decide, by decide +kernel⟩, _, rfl, rfl⟩
set_option maxRecDepth 100000 in
theorem cw_M_sharesIt : Cond.code m_M_sharesIt.1 m_M_sharesIt.2.1 m_M_sharesIt.2.2.1 m_M_sharesIt.2.2.2 ∈ gtb := gi 1422 rfl rfl
set_option maxRecDepth 100000 in
theorem lk_M_362 : LkV "SevenEightsModel" 362 m_M_sharesIt 1 11 := ⟨gi 1419 rfl rfl, gi 1421 rfl rfl, gs (q := (⟨"SevenEightsModel", "sharesIt", "(I)I"⟩, 41)) 60 rfl rfl, gi 12 rfl rfl, cw_M_sharesIt, by decide, ⟨by decide, by decide, by decide +kernel⟩, _, rfl, rfl⟩
set_option maxRecDepth 100000 in
theorem cw_M_tellsIt : Cond.code m_M_tellsIt.1 m_M_tellsIt.2.1 m_M_tellsIt.2.2.1 m_M_tellsIt.2.2.2 ∈ gtb := gi 1430 rfl rfl
set_option maxRecDepth 100000 in
theorem lk_M_365 : LkV "SevenEightsModel" 365 m_M_tellsIt 1 11 := ⟨gi 1427 rfl rfl, gi 1429 rfl rfl, gs (q := (⟨"SevenEightsModel", "tellsIt", "(I)I"⟩, 41)) 62 rfl rfl, gi 12 rfl rfl, cw_M_tellsIt, by decide, ⟨by decide, by decide, by decide +kernel⟩, _, rfl, rfl⟩
set_option maxRecDepth 100000 in
theorem fl_M_368 : FL "SevenEightsModel" 368 11 39 := ⟨R_M, F_M, 41, rfl, by decide, gi 928 rfl rfl, uw_M⟩
set_option maxRecDepth 100000 in
theorem fp_M_368 : FP "SevenEightsModel" 368 11 39 .int := ⟨R_M, F_M, 41, t_M, rfl, by decide, gi 928 rfl rfl, uw_M, t_M_ok, n_M, rfl, by decide +kernel⟩
set_option maxRecDepth 100000 in
theorem cw_M_moveRow : Cond.code m_M_moveRow.1 m_M_moveRow.2.1 m_M_moveRow.2.2.1 m_M_moveRow.2.2.2 ∈ gtb := gi 1454 rfl rfl
set_option maxRecDepth 100000 in
theorem lk_M_371 : LkV "SevenEightsModel" 371 m_M_moveRow 3 11 := ⟨gi 1451 rfl rfl, gi 1453 rfl rfl, gs (q := (⟨"SevenEightsModel", "moveRow", "([IIZ)V"⟩, 41)) 65 rfl rfl, gi 12 rfl rfl, cw_M_moveRow, by decide, ⟨by decide, by decide, by decide +kernel⟩, _, rfl, rfl⟩
set_option maxRecDepth 100000 in
theorem cw_M_moveAll : Cond.code m_M_moveAll.1 m_M_moveAll.2.1 m_M_moveAll.2.2.1 m_M_moveAll.2.2.2 ∈ gtb := gi 1450 rfl rfl
set_option maxRecDepth 100000 in
theorem lk_M_375 : LkV "SevenEightsModel" 375 m_M_moveAll 1 11 := ⟨gi 1447 rfl rfl, gi 1449 rfl rfl, gs (q := (⟨"SevenEightsModel", "moveAll", "(Z)V"⟩, 41)) 64 rfl rfl, gi 12 rfl rfl, cw_M_moveAll, by decide, ⟨by decide, by decide, by decide +kernel⟩, _, rfl, rfl⟩
set_option maxRecDepth 100000 in
theorem fl_M_379 : FL "SevenEightsModel" 379 11 37 := ⟨R_M, F_M, 41, rfl, by decide, gi 926 rfl rfl, uw_M⟩
set_option maxRecDepth 100000 in
theorem fp_M_379 : FP "SevenEightsModel" 379 11 37 .boolean := ⟨R_M, F_M, 41, t_M, rfl, by decide, gi 926 rfl rfl, uw_M, t_M_ok, n_M, rfl, by decide +kernel⟩
end
section
set_option maxRecDepth 100000 in
theorem d_Answer_init_0 : Dc m_Answer_init 0 (.aload_n 0) 1 1 := ⟨by decide +kernel, rfl⟩
set_option maxRecDepth 100000 in
theorem d_Answer_init_1 : Dc m_Answer_init 1 (.invokespecial 3) 3 4 := ⟨by decide +kernel, rfl⟩
set_option maxRecDepth 100000 in
theorem d_Answer_init_4 : Dc m_Answer_init 4 (.aload_n 0) 1 5 := ⟨by decide +kernel, rfl⟩
set_option maxRecDepth 100000 in
theorem d_Answer_init_5 : Dc m_Answer_init 5 (.bipush (-9)) 2 7 := ⟨by decide +kernel, rfl⟩
set_option maxRecDepth 100000 in
theorem d_Answer_init_7 : Dc m_Answer_init 7 (.putfield 9) 3 10 := ⟨by decide +kernel, rfl⟩
set_option maxRecDepth 100000 in
theorem d_Answer_init_10 : Dc m_Answer_init 10 (.aload_n 0) 1 11 := ⟨by decide +kernel, rfl⟩
set_option maxRecDepth 100000 in
theorem d_Answer_init_11 : Dc m_Answer_init 11 (.iconst 3) 1 12 := ⟨by decide +kernel, rfl⟩
set_option maxRecDepth 100000 in
theorem d_Answer_init_12 : Dc m_Answer_init 12 (.putfield 15) 3 15 := ⟨by decide +kernel, rfl⟩
set_option maxRecDepth 100000 in
theorem d_Answer_init_15 : Dc m_Answer_init 15 (.aload_n 0) 1 16 := ⟨by decide +kernel, rfl⟩
set_option maxRecDepth 100000 in
theorem d_Answer_init_16 : Dc m_Answer_init 16 (.iconst 0) 1 17 := ⟨by decide +kernel, rfl⟩
set_option maxRecDepth 100000 in
theorem d_Answer_init_17 : Dc m_Answer_init 17 (.putfield 18) 3 20 := ⟨by decide +kernel, rfl⟩
set_option maxRecDepth 100000 in
theorem d_Answer_init_20 : Dc m_Answer_init 20 (.aload_n 0) 1 21 := ⟨by decide +kernel, rfl⟩
set_option maxRecDepth 100000 in
theorem d_Answer_init_21 : Dc m_Answer_init 21 (.bipush (-9)) 2 23 := ⟨by decide +kernel, rfl⟩
set_option maxRecDepth 100000 in
theorem d_Answer_init_23 : Dc m_Answer_init 23 (.putfield 21) 3 26 := ⟨by decide +kernel, rfl⟩
set_option maxRecDepth 100000 in
theorem d_Answer_init_26 : Dc m_Answer_init 26 .return_ 1 27 := ⟨by decide +kernel, rfl⟩
set_option maxRecDepth 100000 in
theorem d_Answer_find_0 : Dc m_Answer_find 0 (.aload_n 1) 1 1 := ⟨by decide +kernel, rfl⟩
set_option maxRecDepth 100000 in
theorem d_Answer_find_1 : Dc m_Answer_find 1 (.iload_n 2) 1 2 := ⟨by decide +kernel, rfl⟩
set_option maxRecDepth 100000 in
theorem d_Answer_find_2 : Dc m_Answer_find 2 (.iload_n 3) 1 3 := ⟨by decide +kernel, rfl⟩
set_option maxRecDepth 100000 in
theorem d_Answer_find_3 : Dc m_Answer_find 3 (.aload 4) 2 5 := ⟨by decide +kernel, rfl⟩
set_option maxRecDepth 100000 in
theorem d_Answer_find_5 : Dc m_Answer_find 5 (.iconst 1) 1 6 := ⟨by decide +kernel, rfl⟩
set_option maxRecDepth 100000 in
theorem d_Answer_find_6 : Dc m_Answer_find 6 .iaload 1 7 := ⟨by decide +kernel, rfl⟩
set_option maxRecDepth 100000 in
theorem d_Answer_find_7 : Dc m_Answer_find 7 (.invokevirtual 24) 3 10 := ⟨by decide +kernel, rfl⟩
set_option maxRecDepth 100000 in
theorem d_Answer_find_10 : Dj m_Answer_find 10 (.ifCond .eq) 13 31 := ⟨21, by decide +kernel, rfl, by decide⟩
set_option maxRecDepth 100000 in
theorem d_Answer_find_13 : Dc m_Answer_find 13 (.aload_n 0) 1 14 := ⟨by decide +kernel, rfl⟩
set_option maxRecDepth 100000 in
theorem d_Answer_find_14 : Dc m_Answer_find 14 (.iload_n 2) 1 15 := ⟨by decide +kernel, rfl⟩
set_option maxRecDepth 100000 in
theorem d_Answer_find_15 : Dc m_Answer_find 15 (.invokestatic 30) 3 18 := ⟨by decide +kernel, rfl⟩
set_option maxRecDepth 100000 in
theorem d_Answer_find_18 : Dc m_Answer_find 18 (.iconst 0) 1 19 := ⟨by decide +kernel, rfl⟩
set_option maxRecDepth 100000 in
theorem d_Answer_find_19 : Dc m_Answer_find 19 (.aload_n 1) 1 20 := ⟨by decide +kernel, rfl⟩
set_option maxRecDepth 100000 in
theorem d_Answer_find_20 : Dc m_Answer_find 20 (.iload_n 2) 1 21 := ⟨by decide +kernel, rfl⟩
set_option maxRecDepth 100000 in
theorem d_Answer_find_21 : Dc m_Answer_find 21 (.iload_n 3) 1 22 := ⟨by decide +kernel, rfl⟩
set_option maxRecDepth 100000 in
theorem d_Answer_find_22 : Dc m_Answer_find 22 (.invokevirtual 34) 3 25 := ⟨by decide +kernel, rfl⟩
set_option maxRecDepth 100000 in
theorem d_Answer_find_25 : Dc m_Answer_find 25 (.bipush (-9)) 2 27 := ⟨by decide +kernel, rfl⟩
set_option maxRecDepth 100000 in
theorem d_Answer_find_27 : Dc m_Answer_find 27 (.invokevirtual 38) 3 30 := ⟨by decide +kernel, rfl⟩
set_option maxRecDepth 100000 in
theorem d_Answer_find_30 : Dc m_Answer_find 30 .return_ 1 31 := ⟨by decide +kernel, rfl⟩
set_option maxRecDepth 100000 in
theorem d_Answer_find_31 : Dc m_Answer_find 31 (.aload_n 1) 1 32 := ⟨by decide +kernel, rfl⟩
set_option maxRecDepth 100000 in
theorem d_Answer_find_32 : Dc m_Answer_find 32 (.iload_n 2) 1 33 := ⟨by decide +kernel, rfl⟩
set_option maxRecDepth 100000 in
theorem d_Answer_find_33 : Dc m_Answer_find 33 (.iload_n 3) 1 34 := ⟨by decide +kernel, rfl⟩
set_option maxRecDepth 100000 in
theorem d_Answer_find_34 : Dc m_Answer_find 34 (.aload 4) 2 36 := ⟨by decide +kernel, rfl⟩
set_option maxRecDepth 100000 in
theorem d_Answer_find_36 : Dc m_Answer_find 36 (.iconst 1) 1 37 := ⟨by decide +kernel, rfl⟩
set_option maxRecDepth 100000 in
theorem d_Answer_find_37 : Dc m_Answer_find 37 .iaload 1 38 := ⟨by decide +kernel, rfl⟩
set_option maxRecDepth 100000 in
theorem d_Answer_find_38 : Dc m_Answer_find 38 (.invokestatic 42) 3 41 := ⟨by decide +kernel, rfl⟩
set_option maxRecDepth 100000 in
theorem d_Answer_find_41 : Dc m_Answer_find 41 (.istore 5) 2 43 := ⟨by decide +kernel, rfl⟩
set_option maxRecDepth 100000 in
theorem d_Answer_find_43 : Dc m_Answer_find 43 (.iload 5) 2 45 := ⟨by decide +kernel, rfl⟩
set_option maxRecDepth 100000 in
theorem d_Answer_find_45 : Dj m_Answer_find 45 (.ifCond .lt) 48 81 := ⟨36, by decide +kernel, rfl, by decide⟩
set_option maxRecDepth 100000 in
theorem d_Answer_find_48 : Dc m_Answer_find 48 (.iload_n 3) 1 49 := ⟨by decide +kernel, rfl⟩
set_option maxRecDepth 100000 in
theorem d_Answer_find_49 : Dc m_Answer_find 49 (.aload_n 1) 1 50 := ⟨by decide +kernel, rfl⟩
set_option maxRecDepth 100000 in
theorem d_Answer_find_50 : Dc m_Answer_find 50 (.invokevirtual 46) 3 53 := ⟨by decide +kernel, rfl⟩
set_option maxRecDepth 100000 in
theorem d_Answer_find_53 : Dc m_Answer_find 53 .isub 1 54 := ⟨by decide +kernel, rfl⟩
set_option maxRecDepth 100000 in
theorem d_Answer_find_54 : Dc m_Answer_find 54 (.istore 6) 2 56 := ⟨by decide +kernel, rfl⟩
set_option maxRecDepth 100000 in
theorem d_Answer_find_56 : Dc m_Answer_find 56 (.aload_n 0) 1 57 := ⟨by decide +kernel, rfl⟩
set_option maxRecDepth 100000 in
theorem d_Answer_find_57 : Dc m_Answer_find 57 (.iload_n 2) 1 58 := ⟨by decide +kernel, rfl⟩
set_option maxRecDepth 100000 in
theorem d_Answer_find_58 : Dc m_Answer_find 58 (.invokestatic 30) 3 61 := ⟨by decide +kernel, rfl⟩
set_option maxRecDepth 100000 in
theorem d_Answer_find_61 : Dc m_Answer_find 61 (.iconst 1) 1 62 := ⟨by decide +kernel, rfl⟩
set_option maxRecDepth 100000 in
theorem d_Answer_find_62 : Dc m_Answer_find 62 (.aload_n 1) 1 63 := ⟨by decide +kernel, rfl⟩
set_option maxRecDepth 100000 in
theorem d_Answer_find_63 : Dc m_Answer_find 63 (.iload 5) 2 65 := ⟨by decide +kernel, rfl⟩
set_option maxRecDepth 100000 in
theorem d_Answer_find_65 : Dc m_Answer_find 65 (.iload 6) 2 67 := ⟨by decide +kernel, rfl⟩
set_option maxRecDepth 100000 in
theorem d_Answer_find_67 : Dc m_Answer_find 67 (.invokevirtual 34) 3 70 := ⟨by decide +kernel, rfl⟩
set_option maxRecDepth 100000 in
theorem d_Answer_find_70 : Dc m_Answer_find 70 (.aload_n 1) 1 71 := ⟨by decide +kernel, rfl⟩
set_option maxRecDepth 100000 in
theorem d_Answer_find_71 : Dc m_Answer_find 71 (.invokevirtual 46) 3 74 := ⟨by decide +kernel, rfl⟩
set_option maxRecDepth 100000 in
theorem d_Answer_find_74 : Dc m_Answer_find 74 .iadd 1 75 := ⟨by decide +kernel, rfl⟩
set_option maxRecDepth 100000 in
theorem d_Answer_find_75 : Dc m_Answer_find 75 (.iload 5) 2 77 := ⟨by decide +kernel, rfl⟩
set_option maxRecDepth 100000 in
theorem d_Answer_find_77 : Dc m_Answer_find 77 (.invokevirtual 38) 3 80 := ⟨by decide +kernel, rfl⟩
set_option maxRecDepth 100000 in
theorem d_Answer_find_80 : Dc m_Answer_find 80 .return_ 1 81 := ⟨by decide +kernel, rfl⟩
set_option maxRecDepth 100000 in
theorem d_Answer_find_81 : Dc m_Answer_find 81 (.aload_n 1) 1 82 := ⟨by decide +kernel, rfl⟩
set_option maxRecDepth 100000 in
theorem d_Answer_find_82 : Dc m_Answer_find 82 (.iload_n 2) 1 83 := ⟨by decide +kernel, rfl⟩
set_option maxRecDepth 100000 in
theorem d_Answer_find_83 : Dc m_Answer_find 83 (.iload_n 3) 1 84 := ⟨by decide +kernel, rfl⟩
set_option maxRecDepth 100000 in
theorem d_Answer_find_84 : Dc m_Answer_find 84 (.invokestatic 50) 3 87 := ⟨by decide +kernel, rfl⟩
set_option maxRecDepth 100000 in
theorem d_Answer_find_87 : Dc m_Answer_find 87 (.istore 6) 2 89 := ⟨by decide +kernel, rfl⟩
set_option maxRecDepth 100000 in
theorem d_Answer_find_89 : Dc m_Answer_find 89 (.iload 6) 2 91 := ⟨by decide +kernel, rfl⟩
set_option maxRecDepth 100000 in
theorem d_Answer_find_91 : Dj m_Answer_find 91 (.ifCond .lt) 94 120 := ⟨29, by decide +kernel, rfl, by decide⟩
set_option maxRecDepth 100000 in
theorem d_Answer_find_94 : Dc m_Answer_find 94 (.aload_n 1) 1 95 := ⟨by decide +kernel, rfl⟩
set_option maxRecDepth 100000 in
theorem d_Answer_find_95 : Dc m_Answer_find 95 (.getfield 54) 3 98 := ⟨by decide +kernel, rfl⟩
set_option maxRecDepth 100000 in
theorem d_Answer_find_98 : Dc m_Answer_find 98 (.iconst 5) 1 99 := ⟨by decide +kernel, rfl⟩
set_option maxRecDepth 100000 in
theorem d_Answer_find_99 : Dj m_Answer_find 99 (.if_icmp .eq) 102 116 := ⟨17, by decide +kernel, rfl, by decide⟩
set_option maxRecDepth 100000 in
theorem d_Answer_find_102 : Dc m_Answer_find 102 (.aload_n 1) 1 103 := ⟨by decide +kernel, rfl⟩
set_option maxRecDepth 100000 in
theorem d_Answer_find_103 : Dc m_Answer_find 103 (.iload 6) 2 105 := ⟨by decide +kernel, rfl⟩
set_option maxRecDepth 100000 in
theorem d_Answer_find_105 : Dc m_Answer_find 105 (.iload_n 3) 1 106 := ⟨by decide +kernel, rfl⟩
set_option maxRecDepth 100000 in
theorem d_Answer_find_106 : Dc m_Answer_find 106 (.invokevirtual 57) 3 109 := ⟨by decide +kernel, rfl⟩
set_option maxRecDepth 100000 in
theorem d_Answer_find_109 : Dc m_Answer_find 109 (.aload 4) 2 111 := ⟨by decide +kernel, rfl⟩
set_option maxRecDepth 100000 in
theorem d_Answer_find_111 : Dc m_Answer_find 111 (.iconst 2) 1 112 := ⟨by decide +kernel, rfl⟩
set_option maxRecDepth 100000 in
theorem d_Answer_find_112 : Dc m_Answer_find 112 .iaload 1 113 := ⟨by decide +kernel, rfl⟩
set_option maxRecDepth 100000 in
theorem d_Answer_find_113 : Dj m_Answer_find 113 (.if_icmp .lt) 116 120 := ⟨7, by decide +kernel, rfl, by decide⟩
set_option maxRecDepth 100000 in
theorem d_Answer_find_116 : Dc m_Answer_find 116 (.iconst 1) 1 117 := ⟨by decide +kernel, rfl⟩
set_option maxRecDepth 100000 in
theorem d_Answer_find_117 : Dj m_Answer_find 117 .goto 120 121 := ⟨4, by decide +kernel, rfl, by decide⟩
set_option maxRecDepth 100000 in
theorem d_Answer_find_120 : Dc m_Answer_find 120 (.iconst 0) 1 121 := ⟨by decide +kernel, rfl⟩
set_option maxRecDepth 100000 in
theorem d_Answer_find_121 : Dc m_Answer_find 121 (.istore 7) 2 123 := ⟨by decide +kernel, rfl⟩
set_option maxRecDepth 100000 in
theorem d_Answer_find_123 : Dc m_Answer_find 123 (.iload 7) 2 125 := ⟨by decide +kernel, rfl⟩
set_option maxRecDepth 100000 in
theorem d_Answer_find_125 : Dj m_Answer_find 125 (.ifCond .eq) 128 144 := ⟨19, by decide +kernel, rfl, by decide⟩
set_option maxRecDepth 100000 in
theorem d_Answer_find_128 : Dc m_Answer_find 128 (.aload_n 0) 1 129 := ⟨by decide +kernel, rfl⟩
set_option maxRecDepth 100000 in
theorem d_Answer_find_129 : Dc m_Answer_find 129 (.iload 6) 2 131 := ⟨by decide +kernel, rfl⟩
set_option maxRecDepth 100000 in
theorem d_Answer_find_131 : Dc m_Answer_find 131 (.invokestatic 30) 3 134 := ⟨by decide +kernel, rfl⟩
set_option maxRecDepth 100000 in
theorem d_Answer_find_134 : Dc m_Answer_find 134 (.iconst 2) 1 135 := ⟨by decide +kernel, rfl⟩
set_option maxRecDepth 100000 in
theorem d_Answer_find_135 : Dc m_Answer_find 135 (.iload_n 3) 1 136 := ⟨by decide +kernel, rfl⟩
set_option maxRecDepth 100000 in
theorem d_Answer_find_136 : Dc m_Answer_find 136 (.iload 6) 2 138 := ⟨by decide +kernel, rfl⟩
set_option maxRecDepth 100000 in
theorem d_Answer_find_138 : Dc m_Answer_find 138 (.invokevirtual 38) 3 141 := ⟨by decide +kernel, rfl⟩
set_option maxRecDepth 100000 in
theorem d_Answer_find_141 : Dj m_Answer_find 141 .goto 144 154 := ⟨13, by decide +kernel, rfl, by decide⟩
set_option maxRecDepth 100000 in
theorem d_Answer_find_144 : Dc m_Answer_find 144 (.aload_n 0) 1 145 := ⟨by decide +kernel, rfl⟩
set_option maxRecDepth 100000 in
theorem d_Answer_find_145 : Dc m_Answer_find 145 (.bipush (-9)) 2 147 := ⟨by decide +kernel, rfl⟩
set_option maxRecDepth 100000 in
theorem d_Answer_find_147 : Dc m_Answer_find 147 (.iconst 3) 1 148 := ⟨by decide +kernel, rfl⟩
set_option maxRecDepth 100000 in
theorem d_Answer_find_148 : Dc m_Answer_find 148 (.iload_n 3) 1 149 := ⟨by decide +kernel, rfl⟩
set_option maxRecDepth 100000 in
theorem d_Answer_find_149 : Dc m_Answer_find 149 (.bipush (-9)) 2 151 := ⟨by decide +kernel, rfl⟩
set_option maxRecDepth 100000 in
theorem d_Answer_find_151 : Dc m_Answer_find 151 (.invokevirtual 38) 3 154 := ⟨by decide +kernel, rfl⟩
set_option maxRecDepth 100000 in
theorem d_Answer_find_154 : Dc m_Answer_find 154 .return_ 1 155 := ⟨by decide +kernel, rfl⟩
set_option maxRecDepth 100000 in
theorem d_Answer_isProduct_0 : Dc m_Answer_isProduct 0 (.aload_n 0) 1 1 := ⟨by decide +kernel, rfl⟩
set_option maxRecDepth 100000 in
theorem d_Answer_isProduct_1 : Dc m_Answer_isProduct 1 (.getfield 15) 3 4 := ⟨by decide +kernel, rfl⟩
set_option maxRecDepth 100000 in
theorem d_Answer_isProduct_4 : Dj m_Answer_isProduct 4 (.ifCond .eq) 7 15 := ⟨11, by decide +kernel, rfl, by decide⟩
set_option maxRecDepth 100000 in
theorem d_Answer_isProduct_7 : Dc m_Answer_isProduct 7 (.aload_n 0) 1 8 := ⟨by decide +kernel, rfl⟩
set_option maxRecDepth 100000 in
theorem d_Answer_isProduct_8 : Dc m_Answer_isProduct 8 (.getfield 15) 3 11 := ⟨by decide +kernel, rfl⟩
set_option maxRecDepth 100000 in
theorem d_Answer_isProduct_11 : Dc m_Answer_isProduct 11 (.iconst 1) 1 12 := ⟨by decide +kernel, rfl⟩
set_option maxRecDepth 100000 in
theorem d_Answer_isProduct_12 : Dj m_Answer_isProduct 12 (.if_icmp .ne) 15 19 := ⟨7, by decide +kernel, rfl, by decide⟩
set_option maxRecDepth 100000 in
theorem d_Answer_isProduct_15 : Dc m_Answer_isProduct 15 (.iconst 1) 1 16 := ⟨by decide +kernel, rfl⟩
set_option maxRecDepth 100000 in
theorem d_Answer_isProduct_16 : Dj m_Answer_isProduct 16 .goto 19 20 := ⟨4, by decide +kernel, rfl, by decide⟩
set_option maxRecDepth 100000 in
theorem d_Answer_isProduct_19 : Dc m_Answer_isProduct 19 (.iconst 0) 1 20 := ⟨by decide +kernel, rfl⟩
set_option maxRecDepth 100000 in
theorem d_Answer_isProduct_20 : Dc m_Answer_isProduct 20 .ireturn 1 21 := ⟨by decide +kernel, rfl⟩
set_option maxRecDepth 100000 in
theorem d_Answer_become_0 : Dc m_Answer_become 0 (.aload_n 0) 1 1 := ⟨by decide +kernel, rfl⟩
set_option maxRecDepth 100000 in
theorem d_Answer_become_1 : Dc m_Answer_become 1 (.iload_n 1) 1 2 := ⟨by decide +kernel, rfl⟩
set_option maxRecDepth 100000 in
theorem d_Answer_become_2 : Dc m_Answer_become 2 (.putfield 9) 3 5 := ⟨by decide +kernel, rfl⟩
set_option maxRecDepth 100000 in
theorem d_Answer_become_5 : Dc m_Answer_become 5 (.aload_n 0) 1 6 := ⟨by decide +kernel, rfl⟩
set_option maxRecDepth 100000 in
theorem d_Answer_become_6 : Dc m_Answer_become 6 (.iload_n 2) 1 7 := ⟨by decide +kernel, rfl⟩
set_option maxRecDepth 100000 in
theorem d_Answer_become_7 : Dc m_Answer_become 7 (.putfield 15) 3 10 := ⟨by decide +kernel, rfl⟩
set_option maxRecDepth 100000 in
theorem d_Answer_become_10 : Dc m_Answer_become 10 (.aload_n 0) 1 11 := ⟨by decide +kernel, rfl⟩
set_option maxRecDepth 100000 in
theorem d_Answer_become_11 : Dc m_Answer_become 11 (.iload_n 3) 1 12 := ⟨by decide +kernel, rfl⟩
set_option maxRecDepth 100000 in
theorem d_Answer_become_12 : Dc m_Answer_become 12 (.putfield 18) 3 15 := ⟨by decide +kernel, rfl⟩
set_option maxRecDepth 100000 in
theorem d_Answer_become_15 : Dc m_Answer_become 15 (.aload_n 0) 1 16 := ⟨by decide +kernel, rfl⟩
set_option maxRecDepth 100000 in
theorem d_Answer_become_16 : Dc m_Answer_become 16 (.iload 4) 2 18 := ⟨by decide +kernel, rfl⟩
set_option maxRecDepth 100000 in
theorem d_Answer_become_18 : Dc m_Answer_become 18 (.putfield 21) 3 21 := ⟨by decide +kernel, rfl⟩
set_option maxRecDepth 100000 in
theorem d_Answer_become_21 : Dc m_Answer_become 21 .return_ 1 22 := ⟨by decide +kernel, rfl⟩
set_option maxRecDepth 100000 in
theorem d_Answer_wayRound_0 : Dc m_Answer_wayRound 0 (.aload_n 0) 1 1 := ⟨by decide +kernel, rfl⟩
set_option maxRecDepth 100000 in
theorem d_Answer_wayRound_1 : Dc m_Answer_wayRound 1 (.invokevirtual 46) 3 4 := ⟨by decide +kernel, rfl⟩
set_option maxRecDepth 100000 in
theorem d_Answer_wayRound_4 : Dc m_Answer_wayRound 4 (.istore 4) 2 6 := ⟨by decide +kernel, rfl⟩
set_option maxRecDepth 100000 in
theorem d_Answer_wayRound_6 : Dc m_Answer_wayRound 6 (.iload_n 2) 1 7 := ⟨by decide +kernel, rfl⟩
set_option maxRecDepth 100000 in
theorem d_Answer_wayRound_7 : Dc m_Answer_wayRound 7 (.iload 4) 2 9 := ⟨by decide +kernel, rfl⟩
set_option maxRecDepth 100000 in
theorem d_Answer_wayRound_9 : Dc m_Answer_wayRound 9 .isub 1 10 := ⟨by decide +kernel, rfl⟩
set_option maxRecDepth 100000 in
theorem d_Answer_wayRound_10 : Dc m_Answer_wayRound 10 (.istore 5) 2 12 := ⟨by decide +kernel, rfl⟩
set_option maxRecDepth 100000 in
theorem d_Answer_wayRound_12 : Dc m_Answer_wayRound 12 (.iload 4) 2 14 := ⟨by decide +kernel, rfl⟩
set_option maxRecDepth 100000 in
theorem d_Answer_wayRound_14 : Dc m_Answer_wayRound 14 (.bipush (-9)) 2 16 := ⟨by decide +kernel, rfl⟩
set_option maxRecDepth 100000 in
theorem d_Answer_wayRound_16 : Dj m_Answer_wayRound 16 (.if_icmp .eq) 19 25 := ⟨9, by decide +kernel, rfl, by decide⟩
set_option maxRecDepth 100000 in
theorem d_Answer_wayRound_19 : Dc m_Answer_wayRound 19 (.iload 5) 2 21 := ⟨by decide +kernel, rfl⟩
set_option maxRecDepth 100000 in
theorem d_Answer_wayRound_21 : Dc m_Answer_wayRound 21 (.iconst 1) 1 22 := ⟨by decide +kernel, rfl⟩
set_option maxRecDepth 100000 in
theorem d_Answer_wayRound_22 : Dj m_Answer_wayRound 22 (.if_icmp .ge) 25 28 := ⟨6, by decide +kernel, rfl, by decide⟩
set_option maxRecDepth 100000 in
theorem d_Answer_wayRound_25 : Dc m_Answer_wayRound 25 (.bipush (-9)) 2 27 := ⟨by decide +kernel, rfl⟩
set_option maxRecDepth 100000 in
theorem d_Answer_wayRound_27 : Dc m_Answer_wayRound 27 .ireturn 1 28 := ⟨by decide +kernel, rfl⟩
set_option maxRecDepth 100000 in
theorem d_Answer_wayRound_28 : Dc m_Answer_wayRound 28 (.iload_n 1) 1 29 := ⟨by decide +kernel, rfl⟩
set_option maxRecDepth 100000 in
theorem d_Answer_wayRound_29 : Dc m_Answer_wayRound 29 (.iconst 0) 1 30 := ⟨by decide +kernel, rfl⟩
set_option maxRecDepth 100000 in
theorem d_Answer_wayRound_30 : Dc m_Answer_wayRound 30 (.invokestatic 60) 3 33 := ⟨by decide +kernel, rfl⟩
set_option maxRecDepth 100000 in
theorem d_Answer_wayRound_33 : Dc m_Answer_wayRound 33 (.istore 6) 2 35 := ⟨by decide +kernel, rfl⟩
set_option maxRecDepth 100000 in
theorem d_Answer_wayRound_35 : Dc m_Answer_wayRound 35 (.iload 6) 2 37 := ⟨by decide +kernel, rfl⟩
set_option maxRecDepth 100000 in
theorem d_Answer_wayRound_37 : Dj m_Answer_wayRound 37 (.ifCond .lt) 40 55 := ⟨18, by decide +kernel, rfl, by decide⟩
set_option maxRecDepth 100000 in
theorem d_Answer_wayRound_40 : Dc m_Answer_wayRound 40 (.aload_n 0) 1 41 := ⟨by decide +kernel, rfl⟩
set_option maxRecDepth 100000 in
theorem d_Answer_wayRound_41 : Dc m_Answer_wayRound 41 (.iload 6) 2 43 := ⟨by decide +kernel, rfl⟩
set_option maxRecDepth 100000 in
theorem d_Answer_wayRound_43 : Dc m_Answer_wayRound 43 (.iload 5) 2 45 := ⟨by decide +kernel, rfl⟩
set_option maxRecDepth 100000 in
theorem d_Answer_wayRound_45 : Dc m_Answer_wayRound 45 (.iload_n 3) 1 46 := ⟨by decide +kernel, rfl⟩
set_option maxRecDepth 100000 in
theorem d_Answer_wayRound_46 : Dc m_Answer_wayRound 46 (.invokevirtual 24) 3 49 := ⟨by decide +kernel, rfl⟩
set_option maxRecDepth 100000 in
theorem d_Answer_wayRound_49 : Dj m_Answer_wayRound 49 (.ifCond .eq) 52 55 := ⟨6, by decide +kernel, rfl, by decide⟩
set_option maxRecDepth 100000 in
theorem d_Answer_wayRound_52 : Dc m_Answer_wayRound 52 (.iload 6) 2 54 := ⟨by decide +kernel, rfl⟩
set_option maxRecDepth 100000 in
theorem d_Answer_wayRound_54 : Dc m_Answer_wayRound 54 .ireturn 1 55 := ⟨by decide +kernel, rfl⟩
set_option maxRecDepth 100000 in
theorem d_Answer_wayRound_55 : Dc m_Answer_wayRound 55 (.iload_n 1) 1 56 := ⟨by decide +kernel, rfl⟩
set_option maxRecDepth 100000 in
theorem d_Answer_wayRound_56 : Dc m_Answer_wayRound 56 (.iconst 2) 1 57 := ⟨by decide +kernel, rfl⟩
set_option maxRecDepth 100000 in
theorem d_Answer_wayRound_57 : Dc m_Answer_wayRound 57 (.invokestatic 60) 3 60 := ⟨by decide +kernel, rfl⟩
set_option maxRecDepth 100000 in
theorem d_Answer_wayRound_60 : Dc m_Answer_wayRound 60 (.istore 7) 2 62 := ⟨by decide +kernel, rfl⟩
set_option maxRecDepth 100000 in
theorem d_Answer_wayRound_62 : Dc m_Answer_wayRound 62 (.iload 7) 2 64 := ⟨by decide +kernel, rfl⟩
set_option maxRecDepth 100000 in
theorem d_Answer_wayRound_64 : Dj m_Answer_wayRound 64 (.ifCond .lt) 67 82 := ⟨18, by decide +kernel, rfl, by decide⟩
set_option maxRecDepth 100000 in
theorem d_Answer_wayRound_67 : Dc m_Answer_wayRound 67 (.aload_n 0) 1 68 := ⟨by decide +kernel, rfl⟩
set_option maxRecDepth 100000 in
theorem d_Answer_wayRound_68 : Dc m_Answer_wayRound 68 (.iload 7) 2 70 := ⟨by decide +kernel, rfl⟩
set_option maxRecDepth 100000 in
theorem d_Answer_wayRound_70 : Dc m_Answer_wayRound 70 (.iload 5) 2 72 := ⟨by decide +kernel, rfl⟩
set_option maxRecDepth 100000 in
theorem d_Answer_wayRound_72 : Dc m_Answer_wayRound 72 (.iload_n 3) 1 73 := ⟨by decide +kernel, rfl⟩
set_option maxRecDepth 100000 in
theorem d_Answer_wayRound_73 : Dc m_Answer_wayRound 73 (.invokevirtual 24) 3 76 := ⟨by decide +kernel, rfl⟩
set_option maxRecDepth 100000 in
theorem d_Answer_wayRound_76 : Dj m_Answer_wayRound 76 (.ifCond .eq) 79 82 := ⟨6, by decide +kernel, rfl, by decide⟩
set_option maxRecDepth 100000 in
theorem d_Answer_wayRound_79 : Dc m_Answer_wayRound 79 (.iload 7) 2 81 := ⟨by decide +kernel, rfl⟩
set_option maxRecDepth 100000 in
theorem d_Answer_wayRound_81 : Dc m_Answer_wayRound 81 .ireturn 1 82 := ⟨by decide +kernel, rfl⟩
set_option maxRecDepth 100000 in
theorem d_Answer_wayRound_82 : Dc m_Answer_wayRound 82 (.bipush (-9)) 2 84 := ⟨by decide +kernel, rfl⟩
set_option maxRecDepth 100000 in
theorem d_Answer_wayRound_84 : Dc m_Answer_wayRound 84 .ireturn 1 85 := ⟨by decide +kernel, rfl⟩
set_option maxRecDepth 100000 in
theorem d_Answer_firmestTied_0 : Dc m_Answer_firmestTied 0 (.bipush (-9)) 2 2 := ⟨by decide +kernel, rfl⟩
set_option maxRecDepth 100000 in
theorem d_Answer_firmestTied_2 : Dc m_Answer_firmestTied 2 (.istore_n 3) 1 3 := ⟨by decide +kernel, rfl⟩
set_option maxRecDepth 100000 in
theorem d_Answer_firmestTied_3 : Dc m_Answer_firmestTied 3 (.iconst (-1)) 1 4 := ⟨by decide +kernel, rfl⟩
set_option maxRecDepth 100000 in
theorem d_Answer_firmestTied_4 : Dc m_Answer_firmestTied 4 (.istore 4) 2 6 := ⟨by decide +kernel, rfl⟩
set_option maxRecDepth 100000 in
theorem d_Answer_firmestTied_6 : Dc m_Answer_firmestTied 6 (.iconst 0) 1 7 := ⟨by decide +kernel, rfl⟩
set_option maxRecDepth 100000 in
theorem d_Answer_firmestTied_7 : Dc m_Answer_firmestTied 7 (.istore 5) 2 9 := ⟨by decide +kernel, rfl⟩
set_option maxRecDepth 100000 in
theorem d_Answer_firmestTied_9 : Dc m_Answer_firmestTied 9 (.iload 5) 2 11 := ⟨by decide +kernel, rfl⟩
set_option maxRecDepth 100000 in
theorem d_Answer_firmestTied_11 : Dc m_Answer_firmestTied 11 (.iconst 4) 1 12 := ⟨by decide +kernel, rfl⟩
set_option maxRecDepth 100000 in
theorem d_Answer_firmestTied_12 : Dj m_Answer_firmestTied 12 (.if_icmp .ge) 15 73 := ⟨61, by decide +kernel, rfl, by decide⟩
set_option maxRecDepth 100000 in
theorem d_Answer_firmestTied_15 : Dc m_Answer_firmestTied 15 (.iload_n 1) 1 16 := ⟨by decide +kernel, rfl⟩
set_option maxRecDepth 100000 in
theorem d_Answer_firmestTied_16 : Dc m_Answer_firmestTied 16 (.iload 5) 2 18 := ⟨by decide +kernel, rfl⟩
set_option maxRecDepth 100000 in
theorem d_Answer_firmestTied_18 : Dc m_Answer_firmestTied 18 (.invokestatic 60) 3 21 := ⟨by decide +kernel, rfl⟩
set_option maxRecDepth 100000 in
theorem d_Answer_firmestTied_21 : Dc m_Answer_firmestTied 21 (.istore 6) 2 23 := ⟨by decide +kernel, rfl⟩
set_option maxRecDepth 100000 in
theorem d_Answer_firmestTied_23 : Dc m_Answer_firmestTied 23 (.iload 6) 2 25 := ⟨by decide +kernel, rfl⟩
set_option maxRecDepth 100000 in
theorem d_Answer_firmestTied_25 : Dj m_Answer_firmestTied 25 (.ifCond .ge) 28 31 := ⟨6, by decide +kernel, rfl, by decide⟩
set_option maxRecDepth 100000 in
theorem d_Answer_firmestTied_28 : Dj m_Answer_firmestTied 28 .goto 31 67 := ⟨39, by decide +kernel, rfl, by decide⟩
set_option maxRecDepth 100000 in
theorem d_Answer_firmestTied_31 : Dc m_Answer_firmestTied 31 (.aload_n 0) 1 32 := ⟨by decide +kernel, rfl⟩
set_option maxRecDepth 100000 in
theorem d_Answer_firmestTied_32 : Dc m_Answer_firmestTied 32 (.iload 6) 2 34 := ⟨by decide +kernel, rfl⟩
set_option maxRecDepth 100000 in
theorem d_Answer_firmestTied_34 : Dc m_Answer_firmestTied 34 (.iload_n 2) 1 35 := ⟨by decide +kernel, rfl⟩
set_option maxRecDepth 100000 in
theorem d_Answer_firmestTied_35 : Dc m_Answer_firmestTied 35 (.invokevirtual 57) 3 38 := ⟨by decide +kernel, rfl⟩
set_option maxRecDepth 100000 in
theorem d_Answer_firmestTied_38 : Dc m_Answer_firmestTied 38 (.istore 7) 2 40 := ⟨by decide +kernel, rfl⟩
set_option maxRecDepth 100000 in
theorem d_Answer_firmestTied_40 : Dc m_Answer_firmestTied 40 (.iload 7) 2 42 := ⟨by decide +kernel, rfl⟩
set_option maxRecDepth 100000 in
theorem d_Answer_firmestTied_42 : Dc m_Answer_firmestTied 42 (.iload 4) 2 44 := ⟨by decide +kernel, rfl⟩
set_option maxRecDepth 100000 in
theorem d_Answer_firmestTied_44 : Dj m_Answer_firmestTied 44 (.if_icmp .gt) 47 60 := ⟨16, by decide +kernel, rfl, by decide⟩
set_option maxRecDepth 100000 in
theorem d_Answer_firmestTied_47 : Dc m_Answer_firmestTied 47 (.iload 7) 2 49 := ⟨by decide +kernel, rfl⟩
set_option maxRecDepth 100000 in
theorem d_Answer_firmestTied_49 : Dc m_Answer_firmestTied 49 (.iload 4) 2 51 := ⟨by decide +kernel, rfl⟩
set_option maxRecDepth 100000 in
theorem d_Answer_firmestTied_51 : Dj m_Answer_firmestTied 51 (.if_icmp .ne) 54 67 := ⟨16, by decide +kernel, rfl, by decide⟩
set_option maxRecDepth 100000 in
theorem d_Answer_firmestTied_54 : Dc m_Answer_firmestTied 54 (.iload 6) 2 56 := ⟨by decide +kernel, rfl⟩
set_option maxRecDepth 100000 in
theorem d_Answer_firmestTied_56 : Dc m_Answer_firmestTied 56 (.iload_n 3) 1 57 := ⟨by decide +kernel, rfl⟩
set_option maxRecDepth 100000 in
theorem d_Answer_firmestTied_57 : Dj m_Answer_firmestTied 57 (.if_icmp .ge) 60 67 := ⟨10, by decide +kernel, rfl, by decide⟩
set_option maxRecDepth 100000 in
theorem d_Answer_firmestTied_60 : Dc m_Answer_firmestTied 60 (.iload 6) 2 62 := ⟨by decide +kernel, rfl⟩
set_option maxRecDepth 100000 in
theorem d_Answer_firmestTied_62 : Dc m_Answer_firmestTied 62 (.istore_n 3) 1 63 := ⟨by decide +kernel, rfl⟩
set_option maxRecDepth 100000 in
theorem d_Answer_firmestTied_63 : Dc m_Answer_firmestTied 63 (.iload 7) 2 65 := ⟨by decide +kernel, rfl⟩
set_option maxRecDepth 100000 in
theorem d_Answer_firmestTied_65 : Dc m_Answer_firmestTied 65 (.istore 4) 2 67 := ⟨by decide +kernel, rfl⟩
set_option maxRecDepth 100000 in
theorem d_Answer_firmestTied_67 : Dc m_Answer_firmestTied 67 (.iinc 5 (1)) 3 70 := ⟨by decide +kernel, rfl⟩
set_option maxRecDepth 100000 in
theorem d_Answer_firmestTied_70 : Dj m_Answer_firmestTied 70 .goto 73 9 := ⟨-61, by decide +kernel, rfl, by decide⟩
set_option maxRecDepth 100000 in
theorem d_Answer_firmestTied_73 : Dc m_Answer_firmestTied 73 (.iload_n 3) 1 74 := ⟨by decide +kernel, rfl⟩
set_option maxRecDepth 100000 in
theorem d_Answer_firmestTied_74 : Dc m_Answer_firmestTied 74 .ireturn 1 75 := ⟨by decide +kernel, rfl⟩
set_option maxRecDepth 100000 in
theorem d_Doer_init_0 : Dc m_Doer_init 0 (.aload_n 0) 1 1 := ⟨by decide +kernel, rfl⟩
set_option maxRecDepth 100000 in
theorem d_Doer_init_1 : Dc m_Doer_init 1 (.invokespecial 3) 3 4 := ⟨by decide +kernel, rfl⟩
set_option maxRecDepth 100000 in
theorem d_Doer_init_4 : Dc m_Doer_init 4 (.aload_n 0) 1 5 := ⟨by decide +kernel, rfl⟩
set_option maxRecDepth 100000 in
theorem d_Doer_init_5 : Dc m_Doer_init 5 (.iconst 0) 1 6 := ⟨by decide +kernel, rfl⟩
set_option maxRecDepth 100000 in
theorem d_Doer_init_6 : Dc m_Doer_init 6 (.putfield 9) 3 9 := ⟨by decide +kernel, rfl⟩
set_option maxRecDepth 100000 in
theorem d_Doer_init_9 : Dc m_Doer_init 9 (.aload_n 0) 1 10 := ⟨by decide +kernel, rfl⟩
set_option maxRecDepth 100000 in
theorem d_Doer_init_10 : Dc m_Doer_init 10 (.iconst 0) 1 11 := ⟨by decide +kernel, rfl⟩
set_option maxRecDepth 100000 in
theorem d_Doer_init_11 : Dc m_Doer_init 11 (.putfield 15) 3 14 := ⟨by decide +kernel, rfl⟩
set_option maxRecDepth 100000 in
theorem d_Doer_init_14 : Dc m_Doer_init 14 (.aload_n 0) 1 15 := ⟨by decide +kernel, rfl⟩
set_option maxRecDepth 100000 in
theorem d_Doer_init_15 : Dc m_Doer_init 15 (.iconst 0) 1 16 := ⟨by decide +kernel, rfl⟩
set_option maxRecDepth 100000 in
theorem d_Doer_init_16 : Dc m_Doer_init 16 (.putfield 18) 3 19 := ⟨by decide +kernel, rfl⟩
set_option maxRecDepth 100000 in
theorem d_Doer_init_19 : Dc m_Doer_init 19 (.aload_n 0) 1 20 := ⟨by decide +kernel, rfl⟩
set_option maxRecDepth 100000 in
theorem d_Doer_init_20 : Dc m_Doer_init 20 (.iconst 0) 1 21 := ⟨by decide +kernel, rfl⟩
set_option maxRecDepth 100000 in
theorem d_Doer_init_21 : Dc m_Doer_init 21 (.putfield 21) 3 24 := ⟨by decide +kernel, rfl⟩
set_option maxRecDepth 100000 in
theorem d_Doer_init_24 : Dc m_Doer_init 24 (.aload_n 0) 1 25 := ⟨by decide +kernel, rfl⟩
set_option maxRecDepth 100000 in
theorem d_Doer_init_25 : Dc m_Doer_init 25 (.bipush (30)) 2 27 := ⟨by decide +kernel, rfl⟩
set_option maxRecDepth 100000 in
theorem d_Doer_init_27 : Dc m_Doer_init 27 (.newarray .int) 2 29 := ⟨by decide +kernel, rfl⟩
set_option maxRecDepth 100000 in
theorem d_Doer_init_29 : Dc m_Doer_init 29 (.putfield 25) 3 32 := ⟨by decide +kernel, rfl⟩
set_option maxRecDepth 100000 in
theorem d_Doer_init_32 : Dc m_Doer_init 32 (.aload_n 0) 1 33 := ⟨by decide +kernel, rfl⟩
set_option maxRecDepth 100000 in
theorem d_Doer_init_33 : Dc m_Doer_init 33 (.iconst 0) 1 34 := ⟨by decide +kernel, rfl⟩
set_option maxRecDepth 100000 in
theorem d_Doer_init_34 : Dc m_Doer_init 34 (.putfield 29) 3 37 := ⟨by decide +kernel, rfl⟩
set_option maxRecDepth 100000 in
theorem d_Doer_init_37 : Dc m_Doer_init 37 .return_ 1 38 := ⟨by decide +kernel, rfl⟩
set_option maxRecDepth 100000 in
theorem d_Doer_clear_0 : Dc m_Doer_clear 0 (.aload_n 0) 1 1 := ⟨by decide +kernel, rfl⟩
set_option maxRecDepth 100000 in
theorem d_Doer_clear_1 : Dc m_Doer_clear 1 (.iconst 0) 1 2 := ⟨by decide +kernel, rfl⟩
set_option maxRecDepth 100000 in
theorem d_Doer_clear_2 : Dc m_Doer_clear 2 (.putfield 29) 3 5 := ⟨by decide +kernel, rfl⟩
set_option maxRecDepth 100000 in
theorem d_Doer_clear_5 : Dc m_Doer_clear 5 (.aload_n 0) 1 6 := ⟨by decide +kernel, rfl⟩
set_option maxRecDepth 100000 in
theorem d_Doer_clear_6 : Dc m_Doer_clear 6 (.iconst 0) 1 7 := ⟨by decide +kernel, rfl⟩
set_option maxRecDepth 100000 in
theorem d_Doer_clear_7 : Dc m_Doer_clear 7 (.putfield 21) 3 10 := ⟨by decide +kernel, rfl⟩
set_option maxRecDepth 100000 in
theorem d_Doer_clear_10 : Dc m_Doer_clear 10 .return_ 1 11 := ⟨by decide +kernel, rfl⟩
set_option maxRecDepth 100000 in
theorem d_Doer_become_0 : Dc m_Doer_become 0 (.aload_n 0) 1 1 := ⟨by decide +kernel, rfl⟩
set_option maxRecDepth 100000 in
theorem d_Doer_become_1 : Dc m_Doer_become 1 (.iload_n 1) 1 2 := ⟨by decide +kernel, rfl⟩
set_option maxRecDepth 100000 in
theorem d_Doer_become_2 : Dc m_Doer_become 2 (.putfield 9) 3 5 := ⟨by decide +kernel, rfl⟩
set_option maxRecDepth 100000 in
theorem d_Doer_become_5 : Dc m_Doer_become 5 (.aload_n 0) 1 6 := ⟨by decide +kernel, rfl⟩
set_option maxRecDepth 100000 in
theorem d_Doer_become_6 : Dc m_Doer_become 6 (.iload_n 2) 1 7 := ⟨by decide +kernel, rfl⟩
set_option maxRecDepth 100000 in
theorem d_Doer_become_7 : Dc m_Doer_become 7 (.putfield 15) 3 10 := ⟨by decide +kernel, rfl⟩
set_option maxRecDepth 100000 in
theorem d_Doer_become_10 : Dc m_Doer_become 10 (.aload_n 0) 1 11 := ⟨by decide +kernel, rfl⟩
set_option maxRecDepth 100000 in
theorem d_Doer_become_11 : Dc m_Doer_become 11 (.iload_n 3) 1 12 := ⟨by decide +kernel, rfl⟩
set_option maxRecDepth 100000 in
theorem d_Doer_become_12 : Dc m_Doer_become 12 (.putfield 18) 3 15 := ⟨by decide +kernel, rfl⟩
set_option maxRecDepth 100000 in
theorem d_Doer_become_15 : Dc m_Doer_become 15 .return_ 1 16 := ⟨by decide +kernel, rfl⟩
set_option maxRecDepth 100000 in
theorem d_Doer_bodyOf_0 : Dc m_Doer_bodyOf 0 (.iload_n 1) 1 1 := ⟨by decide +kernel, rfl⟩
set_option maxRecDepth 100000 in
theorem d_Doer_bodyOf_1 : Ts m_Doer_bodyOf 1 [(0, 28), (1, 37), (2, 46)] 55 := ⟨54, 0, 2, [27, 36, 45], 27, by decide +kernel, by decide, by decide +kernel⟩
set_option maxRecDepth 100000 in
theorem d_Doer_bodyOf_28 : Dc m_Doer_bodyOf 28 (.getstatic 32) 3 31 := ⟨by decide +kernel, rfl⟩
set_option maxRecDepth 100000 in
theorem d_Doer_bodyOf_31 : Dc m_Doer_bodyOf 31 (.aload_n 0) 1 32 := ⟨by decide +kernel, rfl⟩
set_option maxRecDepth 100000 in
theorem d_Doer_bodyOf_32 : Dc m_Doer_bodyOf 32 (.getfield 9) 3 35 := ⟨by decide +kernel, rfl⟩
set_option maxRecDepth 100000 in
theorem d_Doer_bodyOf_35 : Dc m_Doer_bodyOf 35 .iaload 1 36 := ⟨by decide +kernel, rfl⟩
set_option maxRecDepth 100000 in
theorem d_Doer_bodyOf_36 : Dc m_Doer_bodyOf 36 .ireturn 1 37 := ⟨by decide +kernel, rfl⟩
set_option maxRecDepth 100000 in
theorem d_Doer_bodyOf_37 : Dc m_Doer_bodyOf 37 (.getstatic 35) 3 40 := ⟨by decide +kernel, rfl⟩
set_option maxRecDepth 100000 in
theorem d_Doer_bodyOf_40 : Dc m_Doer_bodyOf 40 (.aload_n 0) 1 41 := ⟨by decide +kernel, rfl⟩
set_option maxRecDepth 100000 in
theorem d_Doer_bodyOf_41 : Dc m_Doer_bodyOf 41 (.getfield 9) 3 44 := ⟨by decide +kernel, rfl⟩
set_option maxRecDepth 100000 in
theorem d_Doer_bodyOf_44 : Dc m_Doer_bodyOf 44 .iaload 1 45 := ⟨by decide +kernel, rfl⟩
set_option maxRecDepth 100000 in
theorem d_Doer_bodyOf_45 : Dc m_Doer_bodyOf 45 .ireturn 1 46 := ⟨by decide +kernel, rfl⟩
set_option maxRecDepth 100000 in
theorem d_Doer_bodyOf_46 : Dc m_Doer_bodyOf 46 (.getstatic 38) 3 49 := ⟨by decide +kernel, rfl⟩
set_option maxRecDepth 100000 in
theorem d_Doer_bodyOf_49 : Dc m_Doer_bodyOf 49 (.aload_n 0) 1 50 := ⟨by decide +kernel, rfl⟩
set_option maxRecDepth 100000 in
theorem d_Doer_bodyOf_50 : Dc m_Doer_bodyOf 50 (.getfield 9) 3 53 := ⟨by decide +kernel, rfl⟩
set_option maxRecDepth 100000 in
theorem d_Doer_bodyOf_53 : Dc m_Doer_bodyOf 53 .iaload 1 54 := ⟨by decide +kernel, rfl⟩
set_option maxRecDepth 100000 in
theorem d_Doer_bodyOf_54 : Dc m_Doer_bodyOf 54 .ireturn 1 55 := ⟨by decide +kernel, rfl⟩
set_option maxRecDepth 100000 in
theorem d_Doer_bodyOf_55 : Dc m_Doer_bodyOf 55 (.getstatic 41) 3 58 := ⟨by decide +kernel, rfl⟩
set_option maxRecDepth 100000 in
theorem d_Doer_bodyOf_58 : Dc m_Doer_bodyOf 58 (.aload_n 0) 1 59 := ⟨by decide +kernel, rfl⟩
set_option maxRecDepth 100000 in
theorem d_Doer_bodyOf_59 : Dc m_Doer_bodyOf 59 (.getfield 9) 3 62 := ⟨by decide +kernel, rfl⟩
set_option maxRecDepth 100000 in
theorem d_Doer_bodyOf_62 : Dc m_Doer_bodyOf 62 .iaload 1 63 := ⟨by decide +kernel, rfl⟩
set_option maxRecDepth 100000 in
theorem d_Doer_bodyOf_63 : Dc m_Doer_bodyOf 63 .ireturn 1 64 := ⟨by decide +kernel, rfl⟩
set_option maxRecDepth 100000 in
theorem d_Doer_begin_0 : Dc m_Doer_begin 0 (.aload_n 0) 1 1 := ⟨by decide +kernel, rfl⟩
set_option maxRecDepth 100000 in
theorem d_Doer_begin_1 : Dc m_Doer_begin 1 (.getfield 21) 3 4 := ⟨by decide +kernel, rfl⟩
set_option maxRecDepth 100000 in
theorem d_Doer_begin_4 : Dj m_Doer_begin 4 (.ifCond .eq) 7 9 := ⟨5, by decide +kernel, rfl, by decide⟩
set_option maxRecDepth 100000 in
theorem d_Doer_begin_7 : Dc m_Doer_begin 7 (.iconst 0) 1 8 := ⟨by decide +kernel, rfl⟩
set_option maxRecDepth 100000 in
theorem d_Doer_begin_8 : Dc m_Doer_begin 8 .ireturn 1 9 := ⟨by decide +kernel, rfl⟩
set_option maxRecDepth 100000 in
theorem d_Doer_begin_9 : Dc m_Doer_begin 9 (.aload_n 0) 1 10 := ⟨by decide +kernel, rfl⟩
set_option maxRecDepth 100000 in
theorem d_Doer_begin_10 : Dc m_Doer_begin 10 (.getfield 29) 3 13 := ⟨by decide +kernel, rfl⟩
set_option maxRecDepth 100000 in
theorem d_Doer_begin_13 : Dc m_Doer_begin 13 (.bipush (30)) 2 15 := ⟨by decide +kernel, rfl⟩
set_option maxRecDepth 100000 in
theorem d_Doer_begin_15 : Dj m_Doer_begin 15 (.if_icmp .ge) 18 38 := ⟨23, by decide +kernel, rfl, by decide⟩
set_option maxRecDepth 100000 in
theorem d_Doer_begin_18 : Dc m_Doer_begin 18 (.aload_n 0) 1 19 := ⟨by decide +kernel, rfl⟩
set_option maxRecDepth 100000 in
theorem d_Doer_begin_19 : Dc m_Doer_begin 19 (.getfield 25) 3 22 := ⟨by decide +kernel, rfl⟩
set_option maxRecDepth 100000 in
theorem d_Doer_begin_22 : Dc m_Doer_begin 22 (.aload_n 0) 1 23 := ⟨by decide +kernel, rfl⟩
set_option maxRecDepth 100000 in
theorem d_Doer_begin_23 : Dc m_Doer_begin 23 (.getfield 29) 3 26 := ⟨by decide +kernel, rfl⟩
set_option maxRecDepth 100000 in
theorem d_Doer_begin_26 : Dc m_Doer_begin 26 (.iload_n 1) 1 27 := ⟨by decide +kernel, rfl⟩
set_option maxRecDepth 100000 in
theorem d_Doer_begin_27 : Dc m_Doer_begin 27 .iastore 1 28 := ⟨by decide +kernel, rfl⟩
set_option maxRecDepth 100000 in
theorem d_Doer_begin_28 : Dc m_Doer_begin 28 (.aload_n 0) 1 29 := ⟨by decide +kernel, rfl⟩
set_option maxRecDepth 100000 in
theorem d_Doer_begin_29 : Dc m_Doer_begin 29 .dup 1 30 := ⟨by decide +kernel, rfl⟩
set_option maxRecDepth 100000 in
theorem d_Doer_begin_30 : Dc m_Doer_begin 30 (.getfield 29) 3 33 := ⟨by decide +kernel, rfl⟩
set_option maxRecDepth 100000 in
theorem d_Doer_begin_33 : Dc m_Doer_begin 33 (.iconst 1) 1 34 := ⟨by decide +kernel, rfl⟩
set_option maxRecDepth 100000 in
theorem d_Doer_begin_34 : Dc m_Doer_begin 34 .iadd 1 35 := ⟨by decide +kernel, rfl⟩
set_option maxRecDepth 100000 in
theorem d_Doer_begin_35 : Dc m_Doer_begin 35 (.putfield 29) 3 38 := ⟨by decide +kernel, rfl⟩
set_option maxRecDepth 100000 in
theorem d_Doer_begin_38 : Dc m_Doer_begin 38 (.iconst 1) 1 39 := ⟨by decide +kernel, rfl⟩
set_option maxRecDepth 100000 in
theorem d_Doer_begin_39 : Dc m_Doer_begin 39 .ireturn 1 40 := ⟨by decide +kernel, rfl⟩
set_option maxRecDepth 100000 in
theorem d_Doer_partEvenly_0 : Dc m_Doer_partEvenly 0 (.aload_n 0) 1 1 := ⟨by decide +kernel, rfl⟩
set_option maxRecDepth 100000 in
theorem d_Doer_partEvenly_1 : Dc m_Doer_partEvenly 1 (.getfield 18) 3 4 := ⟨by decide +kernel, rfl⟩
set_option maxRecDepth 100000 in
theorem d_Doer_partEvenly_4 : Dc m_Doer_partEvenly 4 (.aload_n 0) 1 5 := ⟨by decide +kernel, rfl⟩
set_option maxRecDepth 100000 in
theorem d_Doer_partEvenly_5 : Dc m_Doer_partEvenly 5 (.getfield 15) 3 8 := ⟨by decide +kernel, rfl⟩
set_option maxRecDepth 100000 in
theorem d_Doer_partEvenly_8 : Dc m_Doer_partEvenly 8 .isub 1 9 := ⟨by decide +kernel, rfl⟩
set_option maxRecDepth 100000 in
theorem d_Doer_partEvenly_9 : Dc m_Doer_partEvenly 9 (.istore_n 2) 1 10 := ⟨by decide +kernel, rfl⟩
set_option maxRecDepth 100000 in
theorem d_Doer_partEvenly_10 : Dc m_Doer_partEvenly 10 (.aload_n 0) 1 11 := ⟨by decide +kernel, rfl⟩
set_option maxRecDepth 100000 in
theorem d_Doer_partEvenly_11 : Dc m_Doer_partEvenly 11 (.iload_n 2) 1 12 := ⟨by decide +kernel, rfl⟩
set_option maxRecDepth 100000 in
theorem d_Doer_partEvenly_12 : Dj m_Doer_partEvenly 12 (.ifCond .ne) 15 19 := ⟨7, by decide +kernel, rfl, by decide⟩
set_option maxRecDepth 100000 in
theorem d_Doer_partEvenly_15 : Dc m_Doer_partEvenly 15 (.iconst 1) 1 16 := ⟨by decide +kernel, rfl⟩
set_option maxRecDepth 100000 in
theorem d_Doer_partEvenly_16 : Dj m_Doer_partEvenly 16 .goto 19 20 := ⟨4, by decide +kernel, rfl, by decide⟩
set_option maxRecDepth 100000 in
theorem d_Doer_partEvenly_19 : Dc m_Doer_partEvenly 19 (.iconst 0) 1 20 := ⟨by decide +kernel, rfl⟩
set_option maxRecDepth 100000 in
theorem d_Doer_partEvenly_20 : Dc m_Doer_partEvenly 20 (.putfield 21) 3 23 := ⟨by decide +kernel, rfl⟩
set_option maxRecDepth 100000 in
theorem d_Doer_partEvenly_23 : Dc m_Doer_partEvenly 23 (.iload_n 2) 1 24 := ⟨by decide +kernel, rfl⟩
set_option maxRecDepth 100000 in
theorem d_Doer_partEvenly_24 : Dj m_Doer_partEvenly 24 (.ifCond .ne) 27 31 := ⟨7, by decide +kernel, rfl, by decide⟩
set_option maxRecDepth 100000 in
theorem d_Doer_partEvenly_27 : Dc m_Doer_partEvenly 27 (.iconst 0) 1 28 := ⟨by decide +kernel, rfl⟩
set_option maxRecDepth 100000 in
theorem d_Doer_partEvenly_28 : Dj m_Doer_partEvenly 28 .goto 31 34 := ⟨6, by decide +kernel, rfl, by decide⟩
set_option maxRecDepth 100000 in
theorem d_Doer_partEvenly_31 : Dc m_Doer_partEvenly 31 (.iload_n 1) 1 32 := ⟨by decide +kernel, rfl⟩
set_option maxRecDepth 100000 in
theorem d_Doer_partEvenly_32 : Dc m_Doer_partEvenly 32 (.iload_n 2) 1 33 := ⟨by decide +kernel, rfl⟩
set_option maxRecDepth 100000 in
theorem d_Doer_partEvenly_33 : Dc m_Doer_partEvenly 33 .idiv 1 34 := ⟨by decide +kernel, rfl⟩
set_option maxRecDepth 100000 in
theorem d_Doer_partEvenly_34 : Dc m_Doer_partEvenly 34 .ireturn 1 35 := ⟨by decide +kernel, rfl⟩
set_option maxRecDepth 100000 in
theorem d_Learner_init_0 : Dc m_Learner_init 0 (.aload_n 0) 1 1 := ⟨by decide +kernel, rfl⟩
set_option maxRecDepth 100000 in
theorem d_Learner_init_1 : Dc m_Learner_init 1 (.invokespecial 3) 3 4 := ⟨by decide +kernel, rfl⟩
set_option maxRecDepth 100000 in
theorem d_Learner_init_4 : Dc m_Learner_init 4 (.aload_n 0) 1 5 := ⟨by decide +kernel, rfl⟩
set_option maxRecDepth 100000 in
theorem d_Learner_init_5 : Dc m_Learner_init 5 (.iconst 0) 1 6 := ⟨by decide +kernel, rfl⟩
set_option maxRecDepth 100000 in
theorem d_Learner_init_6 : Dc m_Learner_init 6 (.putfield 9) 3 9 := ⟨by decide +kernel, rfl⟩
set_option maxRecDepth 100000 in
theorem d_Learner_init_9 : Dc m_Learner_init 9 (.aload_n 0) 1 10 := ⟨by decide +kernel, rfl⟩
set_option maxRecDepth 100000 in
theorem d_Learner_init_10 : Dc m_Learner_init 10 (.iconst 0) 1 11 := ⟨by decide +kernel, rfl⟩
set_option maxRecDepth 100000 in
theorem d_Learner_init_11 : Dc m_Learner_init 11 (.putfield 15) 3 14 := ⟨by decide +kernel, rfl⟩
set_option maxRecDepth 100000 in
theorem d_Learner_init_14 : Dc m_Learner_init 14 (.aload_n 0) 1 15 := ⟨by decide +kernel, rfl⟩
set_option maxRecDepth 100000 in
theorem d_Learner_init_15 : Dc m_Learner_init 15 (.bipush (36)) 2 17 := ⟨by decide +kernel, rfl⟩
set_option maxRecDepth 100000 in
theorem d_Learner_init_17 : Dc m_Learner_init 17 (.newarray .int) 2 19 := ⟨by decide +kernel, rfl⟩
set_option maxRecDepth 100000 in
theorem d_Learner_init_19 : Dc m_Learner_init 19 (.putfield 18) 3 22 := ⟨by decide +kernel, rfl⟩
set_option maxRecDepth 100000 in
theorem d_Learner_init_22 : Dc m_Learner_init 22 (.aload_n 0) 1 23 := ⟨by decide +kernel, rfl⟩
set_option maxRecDepth 100000 in
theorem d_Learner_init_23 : Dc m_Learner_init 23 (.bipush (36)) 2 25 := ⟨by decide +kernel, rfl⟩
set_option maxRecDepth 100000 in
theorem d_Learner_init_25 : Dc m_Learner_init 25 (.newarray .int) 2 27 := ⟨by decide +kernel, rfl⟩
set_option maxRecDepth 100000 in
theorem d_Learner_init_27 : Dc m_Learner_init 27 (.putfield 22) 3 30 := ⟨by decide +kernel, rfl⟩
set_option maxRecDepth 100000 in
theorem d_Learner_init_30 : Dc m_Learner_init 30 (.aload_n 0) 1 31 := ⟨by decide +kernel, rfl⟩
set_option maxRecDepth 100000 in
theorem d_Learner_init_31 : Dc m_Learner_init 31 (.bipush (36)) 2 33 := ⟨by decide +kernel, rfl⟩
set_option maxRecDepth 100000 in
theorem d_Learner_init_33 : Dc m_Learner_init 33 (.newarray .int) 2 35 := ⟨by decide +kernel, rfl⟩
set_option maxRecDepth 100000 in
theorem d_Learner_init_35 : Dc m_Learner_init 35 (.putfield 25) 3 38 := ⟨by decide +kernel, rfl⟩
set_option maxRecDepth 100000 in
theorem d_Learner_init_38 : Dc m_Learner_init 38 .return_ 1 39 := ⟨by decide +kernel, rfl⟩
set_option maxRecDepth 100000 in
theorem d_Learner_start_0 : Dc m_Learner_start 0 (.aload_n 0) 1 1 := ⟨by decide +kernel, rfl⟩
set_option maxRecDepth 100000 in
theorem d_Learner_start_1 : Dc m_Learner_start 1 (.iload_n 1) 1 2 := ⟨by decide +kernel, rfl⟩
set_option maxRecDepth 100000 in
theorem d_Learner_start_2 : Dc m_Learner_start 2 (.putfield 9) 3 5 := ⟨by decide +kernel, rfl⟩
set_option maxRecDepth 100000 in
theorem d_Learner_start_5 : Dc m_Learner_start 5 (.aload_n 0) 1 6 := ⟨by decide +kernel, rfl⟩
set_option maxRecDepth 100000 in
theorem d_Learner_start_6 : Dc m_Learner_start 6 (.iload_n 2) 1 7 := ⟨by decide +kernel, rfl⟩
set_option maxRecDepth 100000 in
theorem d_Learner_start_7 : Dc m_Learner_start 7 (.putfield 15) 3 10 := ⟨by decide +kernel, rfl⟩
set_option maxRecDepth 100000 in
theorem d_Learner_start_10 : Dc m_Learner_start 10 (.iconst 0) 1 11 := ⟨by decide +kernel, rfl⟩
set_option maxRecDepth 100000 in
theorem d_Learner_start_11 : Dc m_Learner_start 11 (.istore_n 3) 1 12 := ⟨by decide +kernel, rfl⟩
set_option maxRecDepth 100000 in
theorem d_Learner_start_12 : Dc m_Learner_start 12 (.iload_n 3) 1 13 := ⟨by decide +kernel, rfl⟩
set_option maxRecDepth 100000 in
theorem d_Learner_start_13 : Dc m_Learner_start 13 (.bipush (36)) 2 15 := ⟨by decide +kernel, rfl⟩
set_option maxRecDepth 100000 in
theorem d_Learner_start_15 : Dj m_Learner_start 15 (.if_icmp .ge) 18 49 := ⟨34, by decide +kernel, rfl, by decide⟩
set_option maxRecDepth 100000 in
theorem d_Learner_start_18 : Dc m_Learner_start 18 (.aload_n 0) 1 19 := ⟨by decide +kernel, rfl⟩
set_option maxRecDepth 100000 in
theorem d_Learner_start_19 : Dc m_Learner_start 19 (.getfield 18) 3 22 := ⟨by decide +kernel, rfl⟩
set_option maxRecDepth 100000 in
theorem d_Learner_start_22 : Dc m_Learner_start 22 (.iload_n 3) 1 23 := ⟨by decide +kernel, rfl⟩
set_option maxRecDepth 100000 in
theorem d_Learner_start_23 : Dc m_Learner_start 23 (.iload_n 3) 1 24 := ⟨by decide +kernel, rfl⟩
set_option maxRecDepth 100000 in
theorem d_Learner_start_24 : Dc m_Learner_start 24 (.invokestatic 28) 3 27 := ⟨by decide +kernel, rfl⟩
set_option maxRecDepth 100000 in
theorem d_Learner_start_27 : Dc m_Learner_start 27 .iastore 1 28 := ⟨by decide +kernel, rfl⟩
set_option maxRecDepth 100000 in
theorem d_Learner_start_28 : Dc m_Learner_start 28 (.aload_n 0) 1 29 := ⟨by decide +kernel, rfl⟩
set_option maxRecDepth 100000 in
theorem d_Learner_start_29 : Dc m_Learner_start 29 (.getfield 22) 3 32 := ⟨by decide +kernel, rfl⟩
set_option maxRecDepth 100000 in
theorem d_Learner_start_32 : Dc m_Learner_start 32 (.iload_n 3) 1 33 := ⟨by decide +kernel, rfl⟩
set_option maxRecDepth 100000 in
theorem d_Learner_start_33 : Dc m_Learner_start 33 (.iconst 0) 1 34 := ⟨by decide +kernel, rfl⟩
set_option maxRecDepth 100000 in
theorem d_Learner_start_34 : Dc m_Learner_start 34 .iastore 1 35 := ⟨by decide +kernel, rfl⟩
set_option maxRecDepth 100000 in
theorem d_Learner_start_35 : Dc m_Learner_start 35 (.aload_n 0) 1 36 := ⟨by decide +kernel, rfl⟩
set_option maxRecDepth 100000 in
theorem d_Learner_start_36 : Dc m_Learner_start 36 (.getfield 25) 3 39 := ⟨by decide +kernel, rfl⟩
set_option maxRecDepth 100000 in
theorem d_Learner_start_39 : Dc m_Learner_start 39 (.iload_n 3) 1 40 := ⟨by decide +kernel, rfl⟩
set_option maxRecDepth 100000 in
theorem d_Learner_start_40 : Dc m_Learner_start 40 (.bipush (-9)) 2 42 := ⟨by decide +kernel, rfl⟩
set_option maxRecDepth 100000 in
theorem d_Learner_start_42 : Dc m_Learner_start 42 .iastore 1 43 := ⟨by decide +kernel, rfl⟩
set_option maxRecDepth 100000 in
theorem d_Learner_start_43 : Dc m_Learner_start 43 (.iinc 3 (1)) 3 46 := ⟨by decide +kernel, rfl⟩
set_option maxRecDepth 100000 in
theorem d_Learner_start_46 : Dj m_Learner_start 46 .goto 49 12 := ⟨-34, by decide +kernel, rfl, by decide⟩
set_option maxRecDepth 100000 in
theorem d_Learner_start_49 : Dc m_Learner_start 49 .return_ 1 50 := ⟨by decide +kernel, rfl⟩
set_option maxRecDepth 100000 in
theorem d_Learner_copyFrom_0 : Dc m_Learner_copyFrom 0 (.aload_n 0) 1 1 := ⟨by decide +kernel, rfl⟩
set_option maxRecDepth 100000 in
theorem d_Learner_copyFrom_1 : Dc m_Learner_copyFrom 1 (.aload_n 1) 1 2 := ⟨by decide +kernel, rfl⟩
set_option maxRecDepth 100000 in
theorem d_Learner_copyFrom_2 : Dc m_Learner_copyFrom 2 (.getfield 9) 3 5 := ⟨by decide +kernel, rfl⟩
set_option maxRecDepth 100000 in
theorem d_Learner_copyFrom_5 : Dc m_Learner_copyFrom 5 (.putfield 9) 3 8 := ⟨by decide +kernel, rfl⟩
set_option maxRecDepth 100000 in
theorem d_Learner_copyFrom_8 : Dc m_Learner_copyFrom 8 (.aload_n 0) 1 9 := ⟨by decide +kernel, rfl⟩
set_option maxRecDepth 100000 in
theorem d_Learner_copyFrom_9 : Dc m_Learner_copyFrom 9 (.aload_n 1) 1 10 := ⟨by decide +kernel, rfl⟩
set_option maxRecDepth 100000 in
theorem d_Learner_copyFrom_10 : Dc m_Learner_copyFrom 10 (.getfield 15) 3 13 := ⟨by decide +kernel, rfl⟩
set_option maxRecDepth 100000 in
theorem d_Learner_copyFrom_13 : Dc m_Learner_copyFrom 13 (.putfield 15) 3 16 := ⟨by decide +kernel, rfl⟩
set_option maxRecDepth 100000 in
theorem d_Learner_copyFrom_16 : Dc m_Learner_copyFrom 16 (.aload_n 1) 1 17 := ⟨by decide +kernel, rfl⟩
set_option maxRecDepth 100000 in
theorem d_Learner_copyFrom_17 : Dc m_Learner_copyFrom 17 (.getfield 18) 3 20 := ⟨by decide +kernel, rfl⟩
set_option maxRecDepth 100000 in
theorem d_Learner_copyFrom_20 : Dc m_Learner_copyFrom 20 (.iconst 0) 1 21 := ⟨by decide +kernel, rfl⟩
set_option maxRecDepth 100000 in
theorem d_Learner_copyFrom_21 : Dc m_Learner_copyFrom 21 (.aload_n 0) 1 22 := ⟨by decide +kernel, rfl⟩
set_option maxRecDepth 100000 in
theorem d_Learner_copyFrom_22 : Dc m_Learner_copyFrom 22 (.getfield 18) 3 25 := ⟨by decide +kernel, rfl⟩
set_option maxRecDepth 100000 in
theorem d_Learner_copyFrom_25 : Dc m_Learner_copyFrom 25 (.iconst 0) 1 26 := ⟨by decide +kernel, rfl⟩
set_option maxRecDepth 100000 in
theorem d_Learner_copyFrom_26 : Dc m_Learner_copyFrom 26 (.bipush (36)) 2 28 := ⟨by decide +kernel, rfl⟩
set_option maxRecDepth 100000 in
theorem d_Learner_copyFrom_28 : Dc m_Learner_copyFrom 28 (.invokestatic 32) 3 31 := ⟨by decide +kernel, rfl⟩
set_option maxRecDepth 100000 in
theorem d_Learner_copyFrom_31 : Dc m_Learner_copyFrom 31 (.aload_n 1) 1 32 := ⟨by decide +kernel, rfl⟩
set_option maxRecDepth 100000 in
theorem d_Learner_copyFrom_32 : Dc m_Learner_copyFrom 32 (.getfield 22) 3 35 := ⟨by decide +kernel, rfl⟩
set_option maxRecDepth 100000 in
theorem d_Learner_copyFrom_35 : Dc m_Learner_copyFrom 35 (.iconst 0) 1 36 := ⟨by decide +kernel, rfl⟩
set_option maxRecDepth 100000 in
theorem d_Learner_copyFrom_36 : Dc m_Learner_copyFrom 36 (.aload_n 0) 1 37 := ⟨by decide +kernel, rfl⟩
set_option maxRecDepth 100000 in
theorem d_Learner_copyFrom_37 : Dc m_Learner_copyFrom 37 (.getfield 22) 3 40 := ⟨by decide +kernel, rfl⟩
set_option maxRecDepth 100000 in
theorem d_Learner_copyFrom_40 : Dc m_Learner_copyFrom 40 (.iconst 0) 1 41 := ⟨by decide +kernel, rfl⟩
set_option maxRecDepth 100000 in
theorem d_Learner_copyFrom_41 : Dc m_Learner_copyFrom 41 (.bipush (36)) 2 43 := ⟨by decide +kernel, rfl⟩
set_option maxRecDepth 100000 in
theorem d_Learner_copyFrom_43 : Dc m_Learner_copyFrom 43 (.invokestatic 32) 3 46 := ⟨by decide +kernel, rfl⟩
set_option maxRecDepth 100000 in
theorem d_Learner_copyFrom_46 : Dc m_Learner_copyFrom 46 (.aload_n 1) 1 47 := ⟨by decide +kernel, rfl⟩
set_option maxRecDepth 100000 in
theorem d_Learner_copyFrom_47 : Dc m_Learner_copyFrom 47 (.getfield 25) 3 50 := ⟨by decide +kernel, rfl⟩
set_option maxRecDepth 100000 in
theorem d_Learner_copyFrom_50 : Dc m_Learner_copyFrom 50 (.iconst 0) 1 51 := ⟨by decide +kernel, rfl⟩
set_option maxRecDepth 100000 in
theorem d_Learner_copyFrom_51 : Dc m_Learner_copyFrom 51 (.aload_n 0) 1 52 := ⟨by decide +kernel, rfl⟩
set_option maxRecDepth 100000 in
theorem d_Learner_copyFrom_52 : Dc m_Learner_copyFrom 52 (.getfield 25) 3 55 := ⟨by decide +kernel, rfl⟩
set_option maxRecDepth 100000 in
theorem d_Learner_copyFrom_55 : Dc m_Learner_copyFrom 55 (.iconst 0) 1 56 := ⟨by decide +kernel, rfl⟩
set_option maxRecDepth 100000 in
theorem d_Learner_copyFrom_56 : Dc m_Learner_copyFrom 56 (.bipush (36)) 2 58 := ⟨by decide +kernel, rfl⟩
set_option maxRecDepth 100000 in
theorem d_Learner_copyFrom_58 : Dc m_Learner_copyFrom 58 (.invokestatic 32) 3 61 := ⟨by decide +kernel, rfl⟩
set_option maxRecDepth 100000 in
theorem d_Learner_copyFrom_61 : Dc m_Learner_copyFrom 61 .return_ 1 62 := ⟨by decide +kernel, rfl⟩
set_option maxRecDepth 100000 in
theorem d_Learner_firmSum_0 : Dc m_Learner_firmSum 0 (.iconst 0) 1 1 := ⟨by decide +kernel, rfl⟩
set_option maxRecDepth 100000 in
theorem d_Learner_firmSum_1 : Dc m_Learner_firmSum 1 (.istore_n 1) 1 2 := ⟨by decide +kernel, rfl⟩
set_option maxRecDepth 100000 in
theorem d_Learner_firmSum_2 : Dc m_Learner_firmSum 2 (.iconst 0) 1 3 := ⟨by decide +kernel, rfl⟩
set_option maxRecDepth 100000 in
theorem d_Learner_firmSum_3 : Dc m_Learner_firmSum 3 (.istore_n 2) 1 4 := ⟨by decide +kernel, rfl⟩
set_option maxRecDepth 100000 in
theorem d_Learner_firmSum_4 : Dc m_Learner_firmSum 4 (.iload_n 2) 1 5 := ⟨by decide +kernel, rfl⟩
set_option maxRecDepth 100000 in
theorem d_Learner_firmSum_5 : Dc m_Learner_firmSum 5 (.bipush (36)) 2 7 := ⟨by decide +kernel, rfl⟩
set_option maxRecDepth 100000 in
theorem d_Learner_firmSum_7 : Dj m_Learner_firmSum 7 (.if_icmp .ge) 10 25 := ⟨18, by decide +kernel, rfl, by decide⟩
set_option maxRecDepth 100000 in
theorem d_Learner_firmSum_10 : Dc m_Learner_firmSum 10 (.iload_n 1) 1 11 := ⟨by decide +kernel, rfl⟩
set_option maxRecDepth 100000 in
theorem d_Learner_firmSum_11 : Dc m_Learner_firmSum 11 (.aload_n 0) 1 12 := ⟨by decide +kernel, rfl⟩
set_option maxRecDepth 100000 in
theorem d_Learner_firmSum_12 : Dc m_Learner_firmSum 12 (.getfield 18) 3 15 := ⟨by decide +kernel, rfl⟩
set_option maxRecDepth 100000 in
theorem d_Learner_firmSum_15 : Dc m_Learner_firmSum 15 (.iload_n 2) 1 16 := ⟨by decide +kernel, rfl⟩
set_option maxRecDepth 100000 in
theorem d_Learner_firmSum_16 : Dc m_Learner_firmSum 16 .iaload 1 17 := ⟨by decide +kernel, rfl⟩
set_option maxRecDepth 100000 in
theorem d_Learner_firmSum_17 : Dc m_Learner_firmSum 17 .iadd 1 18 := ⟨by decide +kernel, rfl⟩
set_option maxRecDepth 100000 in
theorem d_Learner_firmSum_18 : Dc m_Learner_firmSum 18 (.istore_n 1) 1 19 := ⟨by decide +kernel, rfl⟩
set_option maxRecDepth 100000 in
theorem d_Learner_firmSum_19 : Dc m_Learner_firmSum 19 (.iinc 2 (1)) 3 22 := ⟨by decide +kernel, rfl⟩
set_option maxRecDepth 100000 in
theorem d_Learner_firmSum_22 : Dj m_Learner_firmSum 22 .goto 25 4 := ⟨-18, by decide +kernel, rfl, by decide⟩
set_option maxRecDepth 100000 in
theorem d_Learner_firmSum_25 : Dc m_Learner_firmSum 25 (.iload_n 1) 1 26 := ⟨by decide +kernel, rfl⟩
set_option maxRecDepth 100000 in
theorem d_Learner_firmSum_26 : Dc m_Learner_firmSum 26 .ireturn 1 27 := ⟨by decide +kernel, rfl⟩
set_option maxRecDepth 100000 in
theorem d_Learner_feeling_0 : Dc m_Learner_feeling 0 (.aload_n 0) 1 1 := ⟨by decide +kernel, rfl⟩
set_option maxRecDepth 100000 in
theorem d_Learner_feeling_1 : Dc m_Learner_feeling 1 (.getfield 9) 3 4 := ⟨by decide +kernel, rfl⟩
set_option maxRecDepth 100000 in
theorem d_Learner_feeling_4 : Dc m_Learner_feeling 4 (.iconst 3) 1 5 := ⟨by decide +kernel, rfl⟩
set_option maxRecDepth 100000 in
theorem d_Learner_feeling_5 : Dj m_Learner_feeling 5 (.if_icmp .ne) 8 29 := ⟨24, by decide +kernel, rfl, by decide⟩
set_option maxRecDepth 100000 in
theorem d_Learner_feeling_8 : Dc m_Learner_feeling 8 (.iload_n 2) 1 9 := ⟨by decide +kernel, rfl⟩
set_option maxRecDepth 100000 in
theorem d_Learner_feeling_9 : Dc m_Learner_feeling 9 (.iconst 3) 1 10 := ⟨by decide +kernel, rfl⟩
set_option maxRecDepth 100000 in
theorem d_Learner_feeling_10 : Dj m_Learner_feeling 10 (.if_icmp .ge) 13 29 := ⟨19, by decide +kernel, rfl, by decide⟩
set_option maxRecDepth 100000 in
theorem d_Learner_feeling_13 : Dc m_Learner_feeling 13 (.iconst 0) 1 14 := ⟨by decide +kernel, rfl⟩
set_option maxRecDepth 100000 in
theorem d_Learner_feeling_14 : Dc m_Learner_feeling 14 (.aload_n 0) 1 15 := ⟨by decide +kernel, rfl⟩
set_option maxRecDepth 100000 in
theorem d_Learner_feeling_15 : Dc m_Learner_feeling 15 (.getfield 18) 3 18 := ⟨by decide +kernel, rfl⟩
set_option maxRecDepth 100000 in
theorem d_Learner_feeling_18 : Dc m_Learner_feeling 18 (.iload_n 1) 1 19 := ⟨by decide +kernel, rfl⟩
set_option maxRecDepth 100000 in
theorem d_Learner_feeling_19 : Dc m_Learner_feeling 19 .iaload 1 20 := ⟨by decide +kernel, rfl⟩
set_option maxRecDepth 100000 in
theorem d_Learner_feeling_20 : Dc m_Learner_feeling 20 (.aload_n 0) 1 21 := ⟨by decide +kernel, rfl⟩
set_option maxRecDepth 100000 in
theorem d_Learner_feeling_21 : Dc m_Learner_feeling 21 (.getfield 15) 3 24 := ⟨by decide +kernel, rfl⟩
set_option maxRecDepth 100000 in
theorem d_Learner_feeling_24 : Dc m_Learner_feeling 24 .isub 1 25 := ⟨by decide +kernel, rfl⟩
set_option maxRecDepth 100000 in
theorem d_Learner_feeling_25 : Dc m_Learner_feeling 25 (.invokestatic 38) 3 28 := ⟨by decide +kernel, rfl⟩
set_option maxRecDepth 100000 in
theorem d_Learner_feeling_28 : Dc m_Learner_feeling 28 .ireturn 1 29 := ⟨by decide +kernel, rfl⟩
set_option maxRecDepth 100000 in
theorem d_Learner_feeling_29 : Dc m_Learner_feeling 29 (.aload_n 0) 1 30 := ⟨by decide +kernel, rfl⟩
set_option maxRecDepth 100000 in
theorem d_Learner_feeling_30 : Dc m_Learner_feeling 30 (.getfield 9) 3 33 := ⟨by decide +kernel, rfl⟩
set_option maxRecDepth 100000 in
theorem d_Learner_feeling_33 : Dc m_Learner_feeling 33 (.iconst 4) 1 34 := ⟨by decide +kernel, rfl⟩
set_option maxRecDepth 100000 in
theorem d_Learner_feeling_34 : Dj m_Learner_feeling 34 (.if_icmp .ne) 37 54 := ⟨20, by decide +kernel, rfl, by decide⟩
set_option maxRecDepth 100000 in
theorem d_Learner_feeling_37 : Dc m_Learner_feeling 37 (.bipush (100)) 2 39 := ⟨by decide +kernel, rfl⟩
set_option maxRecDepth 100000 in
theorem d_Learner_feeling_39 : Dc m_Learner_feeling 39 (.aload_n 0) 1 40 := ⟨by decide +kernel, rfl⟩
set_option maxRecDepth 100000 in
theorem d_Learner_feeling_40 : Dc m_Learner_feeling 40 (.getfield 18) 3 43 := ⟨by decide +kernel, rfl⟩
set_option maxRecDepth 100000 in
theorem d_Learner_feeling_43 : Dc m_Learner_feeling 43 (.iload_n 1) 1 44 := ⟨by decide +kernel, rfl⟩
set_option maxRecDepth 100000 in
theorem d_Learner_feeling_44 : Dc m_Learner_feeling 44 .iaload 1 45 := ⟨by decide +kernel, rfl⟩
set_option maxRecDepth 100000 in
theorem d_Learner_feeling_45 : Dc m_Learner_feeling 45 (.aload_n 0) 1 46 := ⟨by decide +kernel, rfl⟩
set_option maxRecDepth 100000 in
theorem d_Learner_feeling_46 : Dc m_Learner_feeling 46 (.getfield 15) 3 49 := ⟨by decide +kernel, rfl⟩
set_option maxRecDepth 100000 in
theorem d_Learner_feeling_49 : Dc m_Learner_feeling 49 .iadd 1 50 := ⟨by decide +kernel, rfl⟩
set_option maxRecDepth 100000 in
theorem d_Learner_feeling_50 : Dc m_Learner_feeling 50 (.invokestatic 44) 3 53 := ⟨by decide +kernel, rfl⟩
set_option maxRecDepth 100000 in
theorem d_Learner_feeling_53 : Dc m_Learner_feeling 53 .ireturn 1 54 := ⟨by decide +kernel, rfl⟩
set_option maxRecDepth 100000 in
theorem d_Learner_feeling_54 : Dc m_Learner_feeling 54 (.aload_n 0) 1 55 := ⟨by decide +kernel, rfl⟩
set_option maxRecDepth 100000 in
theorem d_Learner_feeling_55 : Dc m_Learner_feeling 55 (.getfield 18) 3 58 := ⟨by decide +kernel, rfl⟩
set_option maxRecDepth 100000 in
theorem d_Learner_feeling_58 : Dc m_Learner_feeling 58 (.iload_n 1) 1 59 := ⟨by decide +kernel, rfl⟩
set_option maxRecDepth 100000 in
theorem d_Learner_feeling_59 : Dc m_Learner_feeling 59 .iaload 1 60 := ⟨by decide +kernel, rfl⟩
set_option maxRecDepth 100000 in
theorem d_Learner_feeling_60 : Dc m_Learner_feeling 60 .ireturn 1 61 := ⟨by decide +kernel, rfl⟩
set_option maxRecDepth 100000 in
theorem d_Learner_takes_0 : Dc m_Learner_takes 0 (.aload_n 0) 1 1 := ⟨by decide +kernel, rfl⟩
set_option maxRecDepth 100000 in
theorem d_Learner_takes_1 : Dc m_Learner_takes 1 (.iload_n 1) 1 2 := ⟨by decide +kernel, rfl⟩
set_option maxRecDepth 100000 in
theorem d_Learner_takes_2 : Dc m_Learner_takes 2 (.iload_n 2) 1 3 := ⟨by decide +kernel, rfl⟩
set_option maxRecDepth 100000 in
theorem d_Learner_takes_3 : Dc m_Learner_takes 3 (.invokevirtual 47) 3 6 := ⟨by decide +kernel, rfl⟩
set_option maxRecDepth 100000 in
theorem d_Learner_takes_6 : Dc m_Learner_takes 6 (.invokestatic 50) 3 9 := ⟨by decide +kernel, rfl⟩
set_option maxRecDepth 100000 in
theorem d_Learner_takes_9 : Dc m_Learner_takes 9 .ireturn 1 10 := ⟨by decide +kernel, rfl⟩
set_option maxRecDepth 100000 in
theorem d_Learner_isAtOnce_0 : Dc m_Learner_isAtOnce 0 (.aload_n 0) 1 1 := ⟨by decide +kernel, rfl⟩
set_option maxRecDepth 100000 in
theorem d_Learner_isAtOnce_1 : Dc m_Learner_isAtOnce 1 (.iload_n 1) 1 2 := ⟨by decide +kernel, rfl⟩
set_option maxRecDepth 100000 in
theorem d_Learner_isAtOnce_2 : Dc m_Learner_isAtOnce 2 (.iload_n 2) 1 3 := ⟨by decide +kernel, rfl⟩
set_option maxRecDepth 100000 in
theorem d_Learner_isAtOnce_3 : Dc m_Learner_isAtOnce 3 (.invokevirtual 47) 3 6 := ⟨by decide +kernel, rfl⟩
set_option maxRecDepth 100000 in
theorem d_Learner_isAtOnce_6 : Dc m_Learner_isAtOnce 6 (.istore 4) 2 8 := ⟨by decide +kernel, rfl⟩
set_option maxRecDepth 100000 in
theorem d_Learner_isAtOnce_8 : Dc m_Learner_isAtOnce 8 (.iload 4) 2 10 := ⟨by decide +kernel, rfl⟩
set_option maxRecDepth 100000 in
theorem d_Learner_isAtOnce_10 : Dc m_Learner_isAtOnce 10 (.iload_n 3) 1 11 := ⟨by decide +kernel, rfl⟩
set_option maxRecDepth 100000 in
theorem d_Learner_isAtOnce_11 : Dj m_Learner_isAtOnce 11 (.if_icmp .lt) 14 27 := ⟨16, by decide +kernel, rfl, by decide⟩
set_option maxRecDepth 100000 in
theorem d_Learner_isAtOnce_14 : Dc m_Learner_isAtOnce 14 (.iload 4) 2 16 := ⟨by decide +kernel, rfl⟩
set_option maxRecDepth 100000 in
theorem d_Learner_isAtOnce_16 : Dc m_Learner_isAtOnce 16 (.invokestatic 50) 3 19 := ⟨by decide +kernel, rfl⟩
set_option maxRecDepth 100000 in
theorem d_Learner_isAtOnce_19 : Dc m_Learner_isAtOnce 19 (.iload_n 2) 1 20 := ⟨by decide +kernel, rfl⟩
set_option maxRecDepth 100000 in
theorem d_Learner_isAtOnce_20 : Dj m_Learner_isAtOnce 20 (.if_icmp .gt) 23 27 := ⟨7, by decide +kernel, rfl, by decide⟩
set_option maxRecDepth 100000 in
theorem d_Learner_isAtOnce_23 : Dc m_Learner_isAtOnce 23 (.iconst 1) 1 24 := ⟨by decide +kernel, rfl⟩
set_option maxRecDepth 100000 in
theorem d_Learner_isAtOnce_24 : Dj m_Learner_isAtOnce 24 .goto 27 28 := ⟨4, by decide +kernel, rfl, by decide⟩
set_option maxRecDepth 100000 in
theorem d_Learner_isAtOnce_27 : Dc m_Learner_isAtOnce 27 (.iconst 0) 1 28 := ⟨by decide +kernel, rfl⟩
set_option maxRecDepth 100000 in
theorem d_Learner_isAtOnce_28 : Dc m_Learner_isAtOnce 28 .ireturn 1 29 := ⟨by decide +kernel, rfl⟩
set_option maxRecDepth 100000 in
theorem d_Learner_takesBy_0 : Dc m_Learner_takesBy 0 (.iconst 1) 1 1 := ⟨by decide +kernel, rfl⟩
set_option maxRecDepth 100000 in
theorem d_Learner_takesBy_1 : Dc m_Learner_takesBy 1 (.bipush (100)) 2 3 := ⟨by decide +kernel, rfl⟩
set_option maxRecDepth 100000 in
theorem d_Learner_takesBy_3 : Dc m_Learner_takesBy 3 (.iload_n 0) 1 4 := ⟨by decide +kernel, rfl⟩
set_option maxRecDepth 100000 in
theorem d_Learner_takesBy_4 : Dc m_Learner_takesBy 4 .isub 1 5 := ⟨by decide +kernel, rfl⟩
set_option maxRecDepth 100000 in
theorem d_Learner_takesBy_5 : Dc m_Learner_takesBy 5 (.bipush (15)) 2 7 := ⟨by decide +kernel, rfl⟩
set_option maxRecDepth 100000 in
theorem d_Learner_takesBy_7 : Dc m_Learner_takesBy 7 .idiv 1 8 := ⟨by decide +kernel, rfl⟩
set_option maxRecDepth 100000 in
theorem d_Learner_takesBy_8 : Dc m_Learner_takesBy 8 .iadd 1 9 := ⟨by decide +kernel, rfl⟩
set_option maxRecDepth 100000 in
theorem d_Learner_takesBy_9 : Dc m_Learner_takesBy 9 .ireturn 1 10 := ⟨by decide +kernel, rfl⟩
set_option maxRecDepth 100000 in
theorem d_Learner_step_0 : Dc m_Learner_step 0 (.aload_n 0) 1 1 := ⟨by decide +kernel, rfl⟩
set_option maxRecDepth 100000 in
theorem d_Learner_step_1 : Dc m_Learner_step 1 (.getfield 9) 3 4 := ⟨by decide +kernel, rfl⟩
set_option maxRecDepth 100000 in
theorem d_Learner_step_4 : Ts m_Learner_step 4 [(1, 39), (2, 36), (3, 36), (4, 39)] 41 := ⟨37, 1, 4, [35, 32, 32, 35], 32, by decide +kernel, by decide, by decide +kernel⟩
set_option maxRecDepth 100000 in
theorem d_Learner_step_36 : Dc m_Learner_step 36 (.bipush (-9)) 2 38 := ⟨by decide +kernel, rfl⟩
set_option maxRecDepth 100000 in
theorem d_Learner_step_38 : Dc m_Learner_step 38 .ireturn 1 39 := ⟨by decide +kernel, rfl⟩
set_option maxRecDepth 100000 in
theorem d_Learner_step_39 : Dc m_Learner_step 39 (.iconst 1) 1 40 := ⟨by decide +kernel, rfl⟩
set_option maxRecDepth 100000 in
theorem d_Learner_step_40 : Dc m_Learner_step 40 .ireturn 1 41 := ⟨by decide +kernel, rfl⟩
set_option maxRecDepth 100000 in
theorem d_Learner_step_41 : Dc m_Learner_step 41 (.iconst 2) 1 42 := ⟨by decide +kernel, rfl⟩
set_option maxRecDepth 100000 in
theorem d_Learner_step_42 : Dc m_Learner_step 42 .ireturn 1 43 := ⟨by decide +kernel, rfl⟩
set_option maxRecDepth 100000 in
theorem d_Learner_hear_0 : Dc m_Learner_hear 0 (.aload_n 0) 1 1 := ⟨by decide +kernel, rfl⟩
set_option maxRecDepth 100000 in
theorem d_Learner_hear_1 : Dc m_Learner_hear 1 (.getfield 18) 3 4 := ⟨by decide +kernel, rfl⟩
set_option maxRecDepth 100000 in
theorem d_Learner_hear_4 : Dc m_Learner_hear 4 (.iload_n 1) 1 5 := ⟨by decide +kernel, rfl⟩
set_option maxRecDepth 100000 in
theorem d_Learner_hear_5 : Dc m_Learner_hear 5 (.aload_n 0) 1 6 := ⟨by decide +kernel, rfl⟩
set_option maxRecDepth 100000 in
theorem d_Learner_hear_6 : Dc m_Learner_hear 6 (.getfield 18) 3 9 := ⟨by decide +kernel, rfl⟩
set_option maxRecDepth 100000 in
theorem d_Learner_hear_9 : Dc m_Learner_hear 9 (.iload_n 1) 1 10 := ⟨by decide +kernel, rfl⟩
set_option maxRecDepth 100000 in
theorem d_Learner_hear_10 : Dc m_Learner_hear 10 .iaload 1 11 := ⟨by decide +kernel, rfl⟩
set_option maxRecDepth 100000 in
theorem d_Learner_hear_11 : Dc m_Learner_hear 11 (.invokestatic 53) 3 14 := ⟨by decide +kernel, rfl⟩
set_option maxRecDepth 100000 in
theorem d_Learner_hear_14 : Dc m_Learner_hear 14 .iastore 1 15 := ⟨by decide +kernel, rfl⟩
set_option maxRecDepth 100000 in
theorem d_Learner_hear_15 : Dc m_Learner_hear 15 .return_ 1 16 := ⟨by decide +kernel, rfl⟩
set_option maxRecDepth 100000 in
theorem d_Learner_keepAnswer_0 : Dc m_Learner_keepAnswer 0 (.aload_n 1) 1 1 := ⟨by decide +kernel, rfl⟩
set_option maxRecDepth 100000 in
theorem d_Learner_keepAnswer_1 : Dc m_Learner_keepAnswer 1 (.invokevirtual 56) 3 4 := ⟨by decide +kernel, rfl⟩
set_option maxRecDepth 100000 in
theorem d_Learner_keepAnswer_4 : Dj m_Learner_keepAnswer 4 (.ifCond .eq) 7 70 := ⟨66, by decide +kernel, rfl, by decide⟩
set_option maxRecDepth 100000 in
theorem d_Learner_keepAnswer_7 : Dc m_Learner_keepAnswer 7 (.aload_n 0) 1 8 := ⟨by decide +kernel, rfl⟩
set_option maxRecDepth 100000 in
theorem d_Learner_keepAnswer_8 : Dc m_Learner_keepAnswer 8 (.getfield 18) 3 11 := ⟨by decide +kernel, rfl⟩
set_option maxRecDepth 100000 in
theorem d_Learner_keepAnswer_11 : Dc m_Learner_keepAnswer 11 (.iload_n 2) 1 12 := ⟨by decide +kernel, rfl⟩
set_option maxRecDepth 100000 in
theorem d_Learner_keepAnswer_12 : Dc m_Learner_keepAnswer 12 (.bipush (100)) 2 14 := ⟨by decide +kernel, rfl⟩
set_option maxRecDepth 100000 in
theorem d_Learner_keepAnswer_14 : Dc m_Learner_keepAnswer 14 (.aload_n 0) 1 15 := ⟨by decide +kernel, rfl⟩
set_option maxRecDepth 100000 in
theorem d_Learner_keepAnswer_15 : Dc m_Learner_keepAnswer 15 (.getfield 18) 3 18 := ⟨by decide +kernel, rfl⟩
set_option maxRecDepth 100000 in
theorem d_Learner_keepAnswer_18 : Dc m_Learner_keepAnswer 18 (.iload_n 2) 1 19 := ⟨by decide +kernel, rfl⟩
set_option maxRecDepth 100000 in
theorem d_Learner_keepAnswer_19 : Dc m_Learner_keepAnswer 19 .iaload 1 20 := ⟨by decide +kernel, rfl⟩
set_option maxRecDepth 100000 in
theorem d_Learner_keepAnswer_20 : Dc m_Learner_keepAnswer 20 (.bipush (100)) 2 22 := ⟨by decide +kernel, rfl⟩
set_option maxRecDepth 100000 in
theorem d_Learner_keepAnswer_22 : Dc m_Learner_keepAnswer 22 (.aload_n 0) 1 23 := ⟨by decide +kernel, rfl⟩
set_option maxRecDepth 100000 in
theorem d_Learner_keepAnswer_23 : Dc m_Learner_keepAnswer 23 (.getfield 18) 3 26 := ⟨by decide +kernel, rfl⟩
set_option maxRecDepth 100000 in
theorem d_Learner_keepAnswer_26 : Dc m_Learner_keepAnswer 26 (.iload_n 2) 1 27 := ⟨by decide +kernel, rfl⟩
set_option maxRecDepth 100000 in
theorem d_Learner_keepAnswer_27 : Dc m_Learner_keepAnswer 27 .iaload 1 28 := ⟨by decide +kernel, rfl⟩
set_option maxRecDepth 100000 in
theorem d_Learner_keepAnswer_28 : Dc m_Learner_keepAnswer 28 .isub 1 29 := ⟨by decide +kernel, rfl⟩
set_option maxRecDepth 100000 in
theorem d_Learner_keepAnswer_29 : Dc m_Learner_keepAnswer 29 (.iconst 4) 1 30 := ⟨by decide +kernel, rfl⟩
set_option maxRecDepth 100000 in
theorem d_Learner_keepAnswer_30 : Dc m_Learner_keepAnswer 30 .idiv 1 31 := ⟨by decide +kernel, rfl⟩
set_option maxRecDepth 100000 in
theorem d_Learner_keepAnswer_31 : Dc m_Learner_keepAnswer 31 .iadd 1 32 := ⟨by decide +kernel, rfl⟩
set_option maxRecDepth 100000 in
theorem d_Learner_keepAnswer_32 : Dc m_Learner_keepAnswer 32 (.iconst 1) 1 33 := ⟨by decide +kernel, rfl⟩
set_option maxRecDepth 100000 in
theorem d_Learner_keepAnswer_33 : Dc m_Learner_keepAnswer 33 .iadd 1 34 := ⟨by decide +kernel, rfl⟩
set_option maxRecDepth 100000 in
theorem d_Learner_keepAnswer_34 : Dc m_Learner_keepAnswer 34 (.invokestatic 44) 3 37 := ⟨by decide +kernel, rfl⟩
set_option maxRecDepth 100000 in
theorem d_Learner_keepAnswer_37 : Dc m_Learner_keepAnswer 37 .iastore 1 38 := ⟨by decide +kernel, rfl⟩
set_option maxRecDepth 100000 in
theorem d_Learner_keepAnswer_38 : Dc m_Learner_keepAnswer 38 (.iload_n 3) 1 39 := ⟨by decide +kernel, rfl⟩
set_option maxRecDepth 100000 in
theorem d_Learner_keepAnswer_39 : Dc m_Learner_keepAnswer 39 (.aload_n 0) 1 40 := ⟨by decide +kernel, rfl⟩
set_option maxRecDepth 100000 in
theorem d_Learner_keepAnswer_40 : Dc m_Learner_keepAnswer 40 (.getfield 25) 3 43 := ⟨by decide +kernel, rfl⟩
set_option maxRecDepth 100000 in
theorem d_Learner_keepAnswer_43 : Dc m_Learner_keepAnswer 43 (.iload_n 2) 1 44 := ⟨by decide +kernel, rfl⟩
set_option maxRecDepth 100000 in
theorem d_Learner_keepAnswer_44 : Dc m_Learner_keepAnswer 44 .iaload 1 45 := ⟨by decide +kernel, rfl⟩
set_option maxRecDepth 100000 in
theorem d_Learner_keepAnswer_45 : Dj m_Learner_keepAnswer 45 (.if_icmp .eq) 48 121 := ⟨76, by decide +kernel, rfl, by decide⟩
set_option maxRecDepth 100000 in
theorem d_Learner_keepAnswer_48 : Dc m_Learner_keepAnswer 48 (.aload_n 0) 1 49 := ⟨by decide +kernel, rfl⟩
set_option maxRecDepth 100000 in
theorem d_Learner_keepAnswer_49 : Dc m_Learner_keepAnswer 49 (.getfield 22) 3 52 := ⟨by decide +kernel, rfl⟩
set_option maxRecDepth 100000 in
theorem d_Learner_keepAnswer_52 : Dc m_Learner_keepAnswer 52 (.iload_n 2) 1 53 := ⟨by decide +kernel, rfl⟩
set_option maxRecDepth 100000 in
theorem d_Learner_keepAnswer_53 : Dc m_Learner_keepAnswer 53 (.bipush (9)) 2 55 := ⟨by decide +kernel, rfl⟩
set_option maxRecDepth 100000 in
theorem d_Learner_keepAnswer_55 : Dc m_Learner_keepAnswer 55 (.aload_n 0) 1 56 := ⟨by decide +kernel, rfl⟩
set_option maxRecDepth 100000 in
theorem d_Learner_keepAnswer_56 : Dc m_Learner_keepAnswer 56 (.getfield 22) 3 59 := ⟨by decide +kernel, rfl⟩
set_option maxRecDepth 100000 in
theorem d_Learner_keepAnswer_59 : Dc m_Learner_keepAnswer 59 (.iload_n 2) 1 60 := ⟨by decide +kernel, rfl⟩
set_option maxRecDepth 100000 in
theorem d_Learner_keepAnswer_60 : Dc m_Learner_keepAnswer 60 .iaload 1 61 := ⟨by decide +kernel, rfl⟩
set_option maxRecDepth 100000 in
theorem d_Learner_keepAnswer_61 : Dc m_Learner_keepAnswer 61 (.iconst 1) 1 62 := ⟨by decide +kernel, rfl⟩
set_option maxRecDepth 100000 in
theorem d_Learner_keepAnswer_62 : Dc m_Learner_keepAnswer 62 .iadd 1 63 := ⟨by decide +kernel, rfl⟩
set_option maxRecDepth 100000 in
theorem d_Learner_keepAnswer_63 : Dc m_Learner_keepAnswer 63 (.invokestatic 44) 3 66 := ⟨by decide +kernel, rfl⟩
set_option maxRecDepth 100000 in
theorem d_Learner_keepAnswer_66 : Dc m_Learner_keepAnswer 66 .iastore 1 67 := ⟨by decide +kernel, rfl⟩
set_option maxRecDepth 100000 in
theorem d_Learner_keepAnswer_67 : Dj m_Learner_keepAnswer 67 .goto 70 121 := ⟨54, by decide +kernel, rfl, by decide⟩
set_option maxRecDepth 100000 in
theorem d_Learner_keepAnswer_70 : Dc m_Learner_keepAnswer 70 (.aload_n 1) 1 71 := ⟨by decide +kernel, rfl⟩
set_option maxRecDepth 100000 in
theorem d_Learner_keepAnswer_71 : Dc m_Learner_keepAnswer 71 (.getfield 62) 3 74 := ⟨by decide +kernel, rfl⟩
set_option maxRecDepth 100000 in
theorem d_Learner_keepAnswer_74 : Dc m_Learner_keepAnswer 74 (.iconst 2) 1 75 := ⟨by decide +kernel, rfl⟩
set_option maxRecDepth 100000 in
theorem d_Learner_keepAnswer_75 : Dj m_Learner_keepAnswer 75 (.if_icmp .ne) 78 121 := ⟨46, by decide +kernel, rfl, by decide⟩
set_option maxRecDepth 100000 in
theorem d_Learner_keepAnswer_78 : Dc m_Learner_keepAnswer 78 (.aload_n 0) 1 79 := ⟨by decide +kernel, rfl⟩
set_option maxRecDepth 100000 in
theorem d_Learner_keepAnswer_79 : Dc m_Learner_keepAnswer 79 (.getfield 18) 3 82 := ⟨by decide +kernel, rfl⟩
set_option maxRecDepth 100000 in
theorem d_Learner_keepAnswer_82 : Dc m_Learner_keepAnswer 82 (.iload_n 2) 1 83 := ⟨by decide +kernel, rfl⟩
set_option maxRecDepth 100000 in
theorem d_Learner_keepAnswer_83 : Dc m_Learner_keepAnswer 83 (.iconst 0) 1 84 := ⟨by decide +kernel, rfl⟩
set_option maxRecDepth 100000 in
theorem d_Learner_keepAnswer_84 : Dc m_Learner_keepAnswer 84 (.aload_n 0) 1 85 := ⟨by decide +kernel, rfl⟩
set_option maxRecDepth 100000 in
theorem d_Learner_keepAnswer_85 : Dc m_Learner_keepAnswer 85 (.getfield 18) 3 88 := ⟨by decide +kernel, rfl⟩
set_option maxRecDepth 100000 in
theorem d_Learner_keepAnswer_88 : Dc m_Learner_keepAnswer 88 (.iload_n 2) 1 89 := ⟨by decide +kernel, rfl⟩
set_option maxRecDepth 100000 in
theorem d_Learner_keepAnswer_89 : Dc m_Learner_keepAnswer 89 .iaload 1 90 := ⟨by decide +kernel, rfl⟩
set_option maxRecDepth 100000 in
theorem d_Learner_keepAnswer_90 : Dc m_Learner_keepAnswer 90 (.iconst 1) 1 91 := ⟨by decide +kernel, rfl⟩
set_option maxRecDepth 100000 in
theorem d_Learner_keepAnswer_91 : Dc m_Learner_keepAnswer 91 .isub 1 92 := ⟨by decide +kernel, rfl⟩
set_option maxRecDepth 100000 in
theorem d_Learner_keepAnswer_92 : Dc m_Learner_keepAnswer 92 (.invokestatic 38) 3 95 := ⟨by decide +kernel, rfl⟩
set_option maxRecDepth 100000 in
theorem d_Learner_keepAnswer_95 : Dc m_Learner_keepAnswer 95 .iastore 1 96 := ⟨by decide +kernel, rfl⟩
set_option maxRecDepth 100000 in
theorem d_Learner_keepAnswer_96 : Dc m_Learner_keepAnswer 96 (.aload_n 0) 1 97 := ⟨by decide +kernel, rfl⟩
set_option maxRecDepth 100000 in
theorem d_Learner_keepAnswer_97 : Dc m_Learner_keepAnswer 97 (.getfield 18) 3 100 := ⟨by decide +kernel, rfl⟩
set_option maxRecDepth 100000 in
theorem d_Learner_keepAnswer_100 : Dc m_Learner_keepAnswer 100 (.aload_n 1) 1 101 := ⟨by decide +kernel, rfl⟩
set_option maxRecDepth 100000 in
theorem d_Learner_keepAnswer_101 : Dc m_Learner_keepAnswer 101 (.getfield 65) 3 104 := ⟨by decide +kernel, rfl⟩
set_option maxRecDepth 100000 in
theorem d_Learner_keepAnswer_104 : Dc m_Learner_keepAnswer 104 (.bipush (100)) 2 106 := ⟨by decide +kernel, rfl⟩
set_option maxRecDepth 100000 in
theorem d_Learner_keepAnswer_106 : Dc m_Learner_keepAnswer 106 (.aload_n 0) 1 107 := ⟨by decide +kernel, rfl⟩
set_option maxRecDepth 100000 in
theorem d_Learner_keepAnswer_107 : Dc m_Learner_keepAnswer 107 (.getfield 18) 3 110 := ⟨by decide +kernel, rfl⟩
set_option maxRecDepth 100000 in
theorem d_Learner_keepAnswer_110 : Dc m_Learner_keepAnswer 110 (.aload_n 1) 1 111 := ⟨by decide +kernel, rfl⟩
set_option maxRecDepth 100000 in
theorem d_Learner_keepAnswer_111 : Dc m_Learner_keepAnswer 111 (.getfield 65) 3 114 := ⟨by decide +kernel, rfl⟩
set_option maxRecDepth 100000 in
theorem d_Learner_keepAnswer_114 : Dc m_Learner_keepAnswer 114 .iaload 1 115 := ⟨by decide +kernel, rfl⟩
set_option maxRecDepth 100000 in
theorem d_Learner_keepAnswer_115 : Dc m_Learner_keepAnswer 115 (.iconst 1) 1 116 := ⟨by decide +kernel, rfl⟩
set_option maxRecDepth 100000 in
theorem d_Learner_keepAnswer_116 : Dc m_Learner_keepAnswer 116 .iadd 1 117 := ⟨by decide +kernel, rfl⟩
set_option maxRecDepth 100000 in
theorem d_Learner_keepAnswer_117 : Dc m_Learner_keepAnswer 117 (.invokestatic 44) 3 120 := ⟨by decide +kernel, rfl⟩
set_option maxRecDepth 100000 in
theorem d_Learner_keepAnswer_120 : Dc m_Learner_keepAnswer 120 .iastore 1 121 := ⟨by decide +kernel, rfl⟩
set_option maxRecDepth 100000 in
theorem d_Learner_keepAnswer_121 : Dc m_Learner_keepAnswer 121 (.aload_n 0) 1 122 := ⟨by decide +kernel, rfl⟩
set_option maxRecDepth 100000 in
theorem d_Learner_keepAnswer_122 : Dc m_Learner_keepAnswer 122 (.getfield 25) 3 125 := ⟨by decide +kernel, rfl⟩
set_option maxRecDepth 100000 in
theorem d_Learner_keepAnswer_125 : Dc m_Learner_keepAnswer 125 (.iload_n 2) 1 126 := ⟨by decide +kernel, rfl⟩
set_option maxRecDepth 100000 in
theorem d_Learner_keepAnswer_126 : Dc m_Learner_keepAnswer 126 (.iload_n 3) 1 127 := ⟨by decide +kernel, rfl⟩
set_option maxRecDepth 100000 in
theorem d_Learner_keepAnswer_127 : Dc m_Learner_keepAnswer 127 .iastore 1 128 := ⟨by decide +kernel, rfl⟩
set_option maxRecDepth 100000 in
theorem d_Learner_keepAnswer_128 : Dc m_Learner_keepAnswer 128 .return_ 1 129 := ⟨by decide +kernel, rfl⟩
set_option maxRecDepth 100000 in
theorem d_Learner_sleep_0 : Dc m_Learner_sleep 0 (.iconst 0) 1 1 := ⟨by decide +kernel, rfl⟩
set_option maxRecDepth 100000 in
theorem d_Learner_sleep_1 : Dc m_Learner_sleep 1 (.istore_n 3) 1 2 := ⟨by decide +kernel, rfl⟩
set_option maxRecDepth 100000 in
theorem d_Learner_sleep_2 : Dc m_Learner_sleep 2 (.iload_n 3) 1 3 := ⟨by decide +kernel, rfl⟩
set_option maxRecDepth 100000 in
theorem d_Learner_sleep_3 : Dc m_Learner_sleep 3 (.bipush (36)) 2 5 := ⟨by decide +kernel, rfl⟩
set_option maxRecDepth 100000 in
theorem d_Learner_sleep_5 : Dj m_Learner_sleep 5 (.if_icmp .ge) 8 37 := ⟨32, by decide +kernel, rfl, by decide⟩
set_option maxRecDepth 100000 in
theorem d_Learner_sleep_8 : Dc m_Learner_sleep 8 (.aload_n 0) 1 9 := ⟨by decide +kernel, rfl⟩
set_option maxRecDepth 100000 in
theorem d_Learner_sleep_9 : Dc m_Learner_sleep 9 (.getfield 18) 3 12 := ⟨by decide +kernel, rfl⟩
set_option maxRecDepth 100000 in
theorem d_Learner_sleep_12 : Dc m_Learner_sleep 12 (.iload_n 3) 1 13 := ⟨by decide +kernel, rfl⟩
set_option maxRecDepth 100000 in
theorem d_Learner_sleep_13 : Dc m_Learner_sleep 13 (.aload_n 0) 1 14 := ⟨by decide +kernel, rfl⟩
set_option maxRecDepth 100000 in
theorem d_Learner_sleep_14 : Dc m_Learner_sleep 14 (.getfield 18) 3 17 := ⟨by decide +kernel, rfl⟩
set_option maxRecDepth 100000 in
theorem d_Learner_sleep_17 : Dc m_Learner_sleep 17 (.iload_n 3) 1 18 := ⟨by decide +kernel, rfl⟩
set_option maxRecDepth 100000 in
theorem d_Learner_sleep_18 : Dc m_Learner_sleep 18 .iaload 1 19 := ⟨by decide +kernel, rfl⟩
set_option maxRecDepth 100000 in
theorem d_Learner_sleep_19 : Dc m_Learner_sleep 19 (.aload_n 0) 1 20 := ⟨by decide +kernel, rfl⟩
set_option maxRecDepth 100000 in
theorem d_Learner_sleep_20 : Dc m_Learner_sleep 20 (.getfield 22) 3 23 := ⟨by decide +kernel, rfl⟩
set_option maxRecDepth 100000 in
theorem d_Learner_sleep_23 : Dc m_Learner_sleep 23 (.iload_n 3) 1 24 := ⟨by decide +kernel, rfl⟩
set_option maxRecDepth 100000 in
theorem d_Learner_sleep_24 : Dc m_Learner_sleep 24 .iaload 1 25 := ⟨by decide +kernel, rfl⟩
set_option maxRecDepth 100000 in
theorem d_Learner_sleep_25 : Dc m_Learner_sleep 25 (.iload_n 1) 1 26 := ⟨by decide +kernel, rfl⟩
set_option maxRecDepth 100000 in
theorem d_Learner_sleep_26 : Dc m_Learner_sleep 26 (.iload_n 2) 1 27 := ⟨by decide +kernel, rfl⟩
set_option maxRecDepth 100000 in
theorem d_Learner_sleep_27 : Dc m_Learner_sleep 27 (.invokestatic 68) 3 30 := ⟨by decide +kernel, rfl⟩
set_option maxRecDepth 100000 in
theorem d_Learner_sleep_30 : Dc m_Learner_sleep 30 .iastore 1 31 := ⟨by decide +kernel, rfl⟩
set_option maxRecDepth 100000 in
theorem d_Learner_sleep_31 : Dc m_Learner_sleep 31 (.iinc 3 (1)) 3 34 := ⟨by decide +kernel, rfl⟩
set_option maxRecDepth 100000 in
theorem d_Learner_sleep_34 : Dj m_Learner_sleep 34 .goto 37 2 := ⟨-32, by decide +kernel, rfl, by decide⟩
set_option maxRecDepth 100000 in
theorem d_Learner_sleep_37 : Dc m_Learner_sleep 37 .return_ 1 38 := ⟨by decide +kernel, rfl⟩
set_option maxRecDepth 100000 in
theorem d_Learner_box_0 : Dc m_Learner_box 0 (.iconst 5) 1 1 := ⟨by decide +kernel, rfl⟩
set_option maxRecDepth 100000 in
theorem d_Learner_box_1 : Dc m_Learner_box 1 (.iconst 1) 1 2 := ⟨by decide +kernel, rfl⟩
set_option maxRecDepth 100000 in
theorem d_Learner_box_2 : Dc m_Learner_box 2 (.aload_n 0) 1 3 := ⟨by decide +kernel, rfl⟩
set_option maxRecDepth 100000 in
theorem d_Learner_box_3 : Dc m_Learner_box 3 (.getfield 22) 3 6 := ⟨by decide +kernel, rfl⟩
set_option maxRecDepth 100000 in
theorem d_Learner_box_6 : Dc m_Learner_box 6 (.iload_n 1) 1 7 := ⟨by decide +kernel, rfl⟩
set_option maxRecDepth 100000 in
theorem d_Learner_box_7 : Dc m_Learner_box 7 .iaload 1 8 := ⟨by decide +kernel, rfl⟩
set_option maxRecDepth 100000 in
theorem d_Learner_box_8 : Dc m_Learner_box 8 (.iconst 2) 1 9 := ⟨by decide +kernel, rfl⟩
set_option maxRecDepth 100000 in
theorem d_Learner_box_9 : Dc m_Learner_box 9 .idiv 1 10 := ⟨by decide +kernel, rfl⟩
set_option maxRecDepth 100000 in
theorem d_Learner_box_10 : Dc m_Learner_box 10 .iadd 1 11 := ⟨by decide +kernel, rfl⟩
set_option maxRecDepth 100000 in
theorem d_Learner_box_11 : Dc m_Learner_box 11 (.invokestatic 44) 3 14 := ⟨by decide +kernel, rfl⟩
set_option maxRecDepth 100000 in
theorem d_Learner_box_14 : Dc m_Learner_box 14 .ireturn 1 15 := ⟨by decide +kernel, rfl⟩
set_option maxRecDepth 100000 in
theorem d_Learner_due_0 : Dc m_Learner_due 0 (.aload_n 0) 1 1 := ⟨by decide +kernel, rfl⟩
set_option maxRecDepth 100000 in
theorem d_Learner_due_1 : Dc m_Learner_due 1 (.getfield 25) 3 4 := ⟨by decide +kernel, rfl⟩
set_option maxRecDepth 100000 in
theorem d_Learner_due_4 : Dc m_Learner_due 4 (.iload_n 1) 1 5 := ⟨by decide +kernel, rfl⟩
set_option maxRecDepth 100000 in
theorem d_Learner_due_5 : Dc m_Learner_due 5 .iaload 1 6 := ⟨by decide +kernel, rfl⟩
set_option maxRecDepth 100000 in
theorem d_Learner_due_6 : Dc m_Learner_due 6 (.bipush (-9)) 2 8 := ⟨by decide +kernel, rfl⟩
set_option maxRecDepth 100000 in
theorem d_Learner_due_8 : Dj m_Learner_due 8 (.if_icmp .ne) 11 13 := ⟨5, by decide +kernel, rfl, by decide⟩
set_option maxRecDepth 100000 in
theorem d_Learner_due_11 : Dc m_Learner_due 11 (.iconst 0) 1 12 := ⟨by decide +kernel, rfl⟩
set_option maxRecDepth 100000 in
theorem d_Learner_due_12 : Dc m_Learner_due 12 .ireturn 1 13 := ⟨by decide +kernel, rfl⟩
set_option maxRecDepth 100000 in
theorem d_Learner_due_13 : Dc m_Learner_due 13 (.aload_n 0) 1 14 := ⟨by decide +kernel, rfl⟩
set_option maxRecDepth 100000 in
theorem d_Learner_due_14 : Dc m_Learner_due 14 (.getfield 25) 3 17 := ⟨by decide +kernel, rfl⟩
set_option maxRecDepth 100000 in
theorem d_Learner_due_17 : Dc m_Learner_due 17 (.iload_n 1) 1 18 := ⟨by decide +kernel, rfl⟩
set_option maxRecDepth 100000 in
theorem d_Learner_due_18 : Dc m_Learner_due 18 .iaload 1 19 := ⟨by decide +kernel, rfl⟩
set_option maxRecDepth 100000 in
theorem d_Learner_due_19 : Dc m_Learner_due 19 (.iconst 1) 1 20 := ⟨by decide +kernel, rfl⟩
set_option maxRecDepth 100000 in
theorem d_Learner_due_20 : Dc m_Learner_due 20 (.aload_n 0) 1 21 := ⟨by decide +kernel, rfl⟩
set_option maxRecDepth 100000 in
theorem d_Learner_due_21 : Dc m_Learner_due 21 (.iload_n 1) 1 22 := ⟨by decide +kernel, rfl⟩
set_option maxRecDepth 100000 in
theorem d_Learner_due_22 : Dc m_Learner_due 22 (.invokevirtual 72) 3 25 := ⟨by decide +kernel, rfl⟩
set_option maxRecDepth 100000 in
theorem d_Learner_due_25 : Dc m_Learner_due 25 (.iconst 1) 1 26 := ⟨by decide +kernel, rfl⟩
set_option maxRecDepth 100000 in
theorem d_Learner_due_26 : Dc m_Learner_due 26 .isub 1 27 := ⟨by decide +kernel, rfl⟩
set_option maxRecDepth 100000 in
theorem d_Learner_due_27 : Dc m_Learner_due 27 .ishl 1 28 := ⟨by decide +kernel, rfl⟩
set_option maxRecDepth 100000 in
theorem d_Learner_due_28 : Dc m_Learner_due 28 .iadd 1 29 := ⟨by decide +kernel, rfl⟩
set_option maxRecDepth 100000 in
theorem d_Learner_due_29 : Dc m_Learner_due 29 .ireturn 1 30 := ⟨by decide +kernel, rfl⟩
set_option maxRecDepth 100000 in
theorem d_Lesson_init_0 : Dc m_Lesson_init 0 (.aload_n 0) 1 1 := ⟨by decide +kernel, rfl⟩
set_option maxRecDepth 100000 in
theorem d_Lesson_init_1 : Dc m_Lesson_init 1 (.invokespecial 3) 3 4 := ⟨by decide +kernel, rfl⟩
set_option maxRecDepth 100000 in
theorem d_Lesson_init_4 : Dc m_Lesson_init 4 (.aload_n 0) 1 5 := ⟨by decide +kernel, rfl⟩
set_option maxRecDepth 100000 in
theorem d_Lesson_init_5 : Dc m_Lesson_init 5 (.bipush (12)) 2 7 := ⟨by decide +kernel, rfl⟩
set_option maxRecDepth 100000 in
theorem d_Lesson_init_7 : Dc m_Lesson_init 7 (.newarray .int) 2 9 := ⟨by decide +kernel, rfl⟩
set_option maxRecDepth 100000 in
theorem d_Lesson_init_9 : Dc m_Lesson_init 9 (.putfield 9) 3 12 := ⟨by decide +kernel, rfl⟩
set_option maxRecDepth 100000 in
theorem d_Lesson_init_12 : Dc m_Lesson_init 12 (.aload_n 0) 1 13 := ⟨by decide +kernel, rfl⟩
set_option maxRecDepth 100000 in
theorem d_Lesson_init_13 : Dc m_Lesson_init 13 (.bipush (12)) 2 15 := ⟨by decide +kernel, rfl⟩
set_option maxRecDepth 100000 in
theorem d_Lesson_init_15 : Dc m_Lesson_init 15 (.newarray .int) 2 17 := ⟨by decide +kernel, rfl⟩
set_option maxRecDepth 100000 in
theorem d_Lesson_init_17 : Dc m_Lesson_init 17 (.putfield 15) 3 20 := ⟨by decide +kernel, rfl⟩
set_option maxRecDepth 100000 in
theorem d_Lesson_init_20 : Dc m_Lesson_init 20 (.aload_n 0) 1 21 := ⟨by decide +kernel, rfl⟩
set_option maxRecDepth 100000 in
theorem d_Lesson_init_21 : Dc m_Lesson_init 21 (.bipush (12)) 2 23 := ⟨by decide +kernel, rfl⟩
set_option maxRecDepth 100000 in
theorem d_Lesson_init_23 : Dc m_Lesson_init 23 (.newarray .int) 2 25 := ⟨by decide +kernel, rfl⟩
set_option maxRecDepth 100000 in
theorem d_Lesson_init_25 : Dc m_Lesson_init 25 (.putfield 18) 3 28 := ⟨by decide +kernel, rfl⟩
set_option maxRecDepth 100000 in
theorem d_Lesson_init_28 : Dc m_Lesson_init 28 (.aload_n 0) 1 29 := ⟨by decide +kernel, rfl⟩
set_option maxRecDepth 100000 in
theorem d_Lesson_init_29 : Dc m_Lesson_init 29 (.iconst 0) 1 30 := ⟨by decide +kernel, rfl⟩
set_option maxRecDepth 100000 in
theorem d_Lesson_init_30 : Dc m_Lesson_init 30 (.putfield 21) 3 33 := ⟨by decide +kernel, rfl⟩
set_option maxRecDepth 100000 in
theorem d_Lesson_init_33 : Dc m_Lesson_init 33 .return_ 1 34 := ⟨by decide +kernel, rfl⟩
set_option maxRecDepth 100000 in
theorem d_Lesson_append_0 : Dc m_Lesson_append 0 (.aload_n 0) 1 1 := ⟨by decide +kernel, rfl⟩
set_option maxRecDepth 100000 in
theorem d_Lesson_append_1 : Dc m_Lesson_append 1 (.getfield 21) 3 4 := ⟨by decide +kernel, rfl⟩
set_option maxRecDepth 100000 in
theorem d_Lesson_append_4 : Dc m_Lesson_append 4 (.bipush (12)) 2 6 := ⟨by decide +kernel, rfl⟩
set_option maxRecDepth 100000 in
theorem d_Lesson_append_6 : Dj m_Lesson_append 6 (.if_icmp .lt) 9 10 := ⟨4, by decide +kernel, rfl, by decide⟩
set_option maxRecDepth 100000 in
theorem d_Lesson_append_9 : Dc m_Lesson_append 9 .return_ 1 10 := ⟨by decide +kernel, rfl⟩
set_option maxRecDepth 100000 in
theorem d_Lesson_append_10 : Dc m_Lesson_append 10 (.aload_n 0) 1 11 := ⟨by decide +kernel, rfl⟩
set_option maxRecDepth 100000 in
theorem d_Lesson_append_11 : Dc m_Lesson_append 11 (.getfield 9) 3 14 := ⟨by decide +kernel, rfl⟩
set_option maxRecDepth 100000 in
theorem d_Lesson_append_14 : Dc m_Lesson_append 14 (.aload_n 0) 1 15 := ⟨by decide +kernel, rfl⟩
set_option maxRecDepth 100000 in
theorem d_Lesson_append_15 : Dc m_Lesson_append 15 (.getfield 21) 3 18 := ⟨by decide +kernel, rfl⟩
set_option maxRecDepth 100000 in
theorem d_Lesson_append_18 : Dc m_Lesson_append 18 (.iload_n 1) 1 19 := ⟨by decide +kernel, rfl⟩
set_option maxRecDepth 100000 in
theorem d_Lesson_append_19 : Dc m_Lesson_append 19 .iastore 1 20 := ⟨by decide +kernel, rfl⟩
set_option maxRecDepth 100000 in
theorem d_Lesson_append_20 : Dc m_Lesson_append 20 (.aload_n 0) 1 21 := ⟨by decide +kernel, rfl⟩
set_option maxRecDepth 100000 in
theorem d_Lesson_append_21 : Dc m_Lesson_append 21 (.getfield 15) 3 24 := ⟨by decide +kernel, rfl⟩
set_option maxRecDepth 100000 in
theorem d_Lesson_append_24 : Dc m_Lesson_append 24 (.aload_n 0) 1 25 := ⟨by decide +kernel, rfl⟩
set_option maxRecDepth 100000 in
theorem d_Lesson_append_25 : Dc m_Lesson_append 25 (.getfield 21) 3 28 := ⟨by decide +kernel, rfl⟩
set_option maxRecDepth 100000 in
theorem d_Lesson_append_28 : Dc m_Lesson_append 28 (.iload_n 2) 1 29 := ⟨by decide +kernel, rfl⟩
set_option maxRecDepth 100000 in
theorem d_Lesson_append_29 : Dc m_Lesson_append 29 .iastore 1 30 := ⟨by decide +kernel, rfl⟩
set_option maxRecDepth 100000 in
theorem d_Lesson_append_30 : Dc m_Lesson_append 30 (.aload_n 0) 1 31 := ⟨by decide +kernel, rfl⟩
set_option maxRecDepth 100000 in
theorem d_Lesson_append_31 : Dc m_Lesson_append 31 (.getfield 18) 3 34 := ⟨by decide +kernel, rfl⟩
set_option maxRecDepth 100000 in
theorem d_Lesson_append_34 : Dc m_Lesson_append 34 (.aload_n 0) 1 35 := ⟨by decide +kernel, rfl⟩
set_option maxRecDepth 100000 in
theorem d_Lesson_append_35 : Dc m_Lesson_append 35 (.getfield 21) 3 38 := ⟨by decide +kernel, rfl⟩
set_option maxRecDepth 100000 in
theorem d_Lesson_append_38 : Dc m_Lesson_append 38 (.iload_n 3) 1 39 := ⟨by decide +kernel, rfl⟩
set_option maxRecDepth 100000 in
theorem d_Lesson_append_39 : Dc m_Lesson_append 39 .iastore 1 40 := ⟨by decide +kernel, rfl⟩
set_option maxRecDepth 100000 in
theorem d_Lesson_append_40 : Dc m_Lesson_append 40 (.aload_n 0) 1 41 := ⟨by decide +kernel, rfl⟩
set_option maxRecDepth 100000 in
theorem d_Lesson_append_41 : Dc m_Lesson_append 41 .dup 1 42 := ⟨by decide +kernel, rfl⟩
set_option maxRecDepth 100000 in
theorem d_Lesson_append_42 : Dc m_Lesson_append 42 (.getfield 21) 3 45 := ⟨by decide +kernel, rfl⟩
set_option maxRecDepth 100000 in
theorem d_Lesson_append_45 : Dc m_Lesson_append 45 (.iconst 1) 1 46 := ⟨by decide +kernel, rfl⟩
set_option maxRecDepth 100000 in
theorem d_Lesson_append_46 : Dc m_Lesson_append 46 .iadd 1 47 := ⟨by decide +kernel, rfl⟩
set_option maxRecDepth 100000 in
theorem d_Lesson_append_47 : Dc m_Lesson_append 47 (.putfield 21) 3 50 := ⟨by decide +kernel, rfl⟩
set_option maxRecDepth 100000 in
theorem d_Lesson_append_50 : Dc m_Lesson_append 50 .return_ 1 51 := ⟨by decide +kernel, rfl⟩
set_option maxRecDepth 100000 in
theorem d_Lesson_copyFrom_0 : Dc m_Lesson_copyFrom 0 (.aload_n 1) 1 1 := ⟨by decide +kernel, rfl⟩
set_option maxRecDepth 100000 in
theorem d_Lesson_copyFrom_1 : Dc m_Lesson_copyFrom 1 (.getfield 9) 3 4 := ⟨by decide +kernel, rfl⟩
set_option maxRecDepth 100000 in
theorem d_Lesson_copyFrom_4 : Dc m_Lesson_copyFrom 4 (.iconst 0) 1 5 := ⟨by decide +kernel, rfl⟩
set_option maxRecDepth 100000 in
theorem d_Lesson_copyFrom_5 : Dc m_Lesson_copyFrom 5 (.aload_n 0) 1 6 := ⟨by decide +kernel, rfl⟩
set_option maxRecDepth 100000 in
theorem d_Lesson_copyFrom_6 : Dc m_Lesson_copyFrom 6 (.getfield 9) 3 9 := ⟨by decide +kernel, rfl⟩
set_option maxRecDepth 100000 in
theorem d_Lesson_copyFrom_9 : Dc m_Lesson_copyFrom 9 (.iconst 0) 1 10 := ⟨by decide +kernel, rfl⟩
set_option maxRecDepth 100000 in
theorem d_Lesson_copyFrom_10 : Dc m_Lesson_copyFrom 10 (.bipush (12)) 2 12 := ⟨by decide +kernel, rfl⟩
set_option maxRecDepth 100000 in
theorem d_Lesson_copyFrom_12 : Dc m_Lesson_copyFrom 12 (.invokestatic 25) 3 15 := ⟨by decide +kernel, rfl⟩
set_option maxRecDepth 100000 in
theorem d_Lesson_copyFrom_15 : Dc m_Lesson_copyFrom 15 (.aload_n 1) 1 16 := ⟨by decide +kernel, rfl⟩
set_option maxRecDepth 100000 in
theorem d_Lesson_copyFrom_16 : Dc m_Lesson_copyFrom 16 (.getfield 15) 3 19 := ⟨by decide +kernel, rfl⟩
set_option maxRecDepth 100000 in
theorem d_Lesson_copyFrom_19 : Dc m_Lesson_copyFrom 19 (.iconst 0) 1 20 := ⟨by decide +kernel, rfl⟩
set_option maxRecDepth 100000 in
theorem d_Lesson_copyFrom_20 : Dc m_Lesson_copyFrom 20 (.aload_n 0) 1 21 := ⟨by decide +kernel, rfl⟩
set_option maxRecDepth 100000 in
theorem d_Lesson_copyFrom_21 : Dc m_Lesson_copyFrom 21 (.getfield 15) 3 24 := ⟨by decide +kernel, rfl⟩
set_option maxRecDepth 100000 in
theorem d_Lesson_copyFrom_24 : Dc m_Lesson_copyFrom 24 (.iconst 0) 1 25 := ⟨by decide +kernel, rfl⟩
set_option maxRecDepth 100000 in
theorem d_Lesson_copyFrom_25 : Dc m_Lesson_copyFrom 25 (.bipush (12)) 2 27 := ⟨by decide +kernel, rfl⟩
set_option maxRecDepth 100000 in
theorem d_Lesson_copyFrom_27 : Dc m_Lesson_copyFrom 27 (.invokestatic 25) 3 30 := ⟨by decide +kernel, rfl⟩
set_option maxRecDepth 100000 in
theorem d_Lesson_copyFrom_30 : Dc m_Lesson_copyFrom 30 (.aload_n 1) 1 31 := ⟨by decide +kernel, rfl⟩
set_option maxRecDepth 100000 in
theorem d_Lesson_copyFrom_31 : Dc m_Lesson_copyFrom 31 (.getfield 18) 3 34 := ⟨by decide +kernel, rfl⟩
set_option maxRecDepth 100000 in
theorem d_Lesson_copyFrom_34 : Dc m_Lesson_copyFrom 34 (.iconst 0) 1 35 := ⟨by decide +kernel, rfl⟩
set_option maxRecDepth 100000 in
theorem d_Lesson_copyFrom_35 : Dc m_Lesson_copyFrom 35 (.aload_n 0) 1 36 := ⟨by decide +kernel, rfl⟩
set_option maxRecDepth 100000 in
theorem d_Lesson_copyFrom_36 : Dc m_Lesson_copyFrom 36 (.getfield 18) 3 39 := ⟨by decide +kernel, rfl⟩
set_option maxRecDepth 100000 in
theorem d_Lesson_copyFrom_39 : Dc m_Lesson_copyFrom 39 (.iconst 0) 1 40 := ⟨by decide +kernel, rfl⟩
set_option maxRecDepth 100000 in
theorem d_Lesson_copyFrom_40 : Dc m_Lesson_copyFrom 40 (.bipush (12)) 2 42 := ⟨by decide +kernel, rfl⟩
set_option maxRecDepth 100000 in
theorem d_Lesson_copyFrom_42 : Dc m_Lesson_copyFrom 42 (.invokestatic 25) 3 45 := ⟨by decide +kernel, rfl⟩
set_option maxRecDepth 100000 in
theorem d_Lesson_copyFrom_45 : Dc m_Lesson_copyFrom 45 (.aload_n 0) 1 46 := ⟨by decide +kernel, rfl⟩
set_option maxRecDepth 100000 in
theorem d_Lesson_copyFrom_46 : Dc m_Lesson_copyFrom 46 (.aload_n 1) 1 47 := ⟨by decide +kernel, rfl⟩
set_option maxRecDepth 100000 in
theorem d_Lesson_copyFrom_47 : Dc m_Lesson_copyFrom 47 (.getfield 21) 3 50 := ⟨by decide +kernel, rfl⟩
set_option maxRecDepth 100000 in
theorem d_Lesson_copyFrom_50 : Dc m_Lesson_copyFrom 50 (.putfield 21) 3 53 := ⟨by decide +kernel, rfl⟩
set_option maxRecDepth 100000 in
theorem d_Lesson_copyFrom_53 : Dc m_Lesson_copyFrom 53 .return_ 1 54 := ⟨by decide +kernel, rfl⟩
set_option maxRecDepth 100000 in
theorem d_Plan_init_0 : Dc m_Plan_init 0 (.aload_n 0) 1 1 := ⟨by decide +kernel, rfl⟩
set_option maxRecDepth 100000 in
theorem d_Plan_init_1 : Dc m_Plan_init 1 (.invokespecial 3) 3 4 := ⟨by decide +kernel, rfl⟩
set_option maxRecDepth 100000 in
theorem d_Plan_init_4 : Dc m_Plan_init 4 (.aload_n 0) 1 5 := ⟨by decide +kernel, rfl⟩
set_option maxRecDepth 100000 in
theorem d_Plan_init_5 : Dc m_Plan_init 5 (.bipush (36)) 2 7 := ⟨by decide +kernel, rfl⟩
set_option maxRecDepth 100000 in
theorem d_Plan_init_7 : Dc m_Plan_init 7 (.newarray .int) 2 9 := ⟨by decide +kernel, rfl⟩
set_option maxRecDepth 100000 in
theorem d_Plan_init_9 : Dc m_Plan_init 9 (.putfield 9) 3 12 := ⟨by decide +kernel, rfl⟩
set_option maxRecDepth 100000 in
theorem d_Plan_init_12 : Dc m_Plan_init 12 (.aload_n 0) 1 13 := ⟨by decide +kernel, rfl⟩
set_option maxRecDepth 100000 in
theorem d_Plan_init_13 : Dc m_Plan_init 13 (.bipush (36)) 2 15 := ⟨by decide +kernel, rfl⟩
set_option maxRecDepth 100000 in
theorem d_Plan_init_15 : Dc m_Plan_init 15 (.newarray .int) 2 17 := ⟨by decide +kernel, rfl⟩
set_option maxRecDepth 100000 in
theorem d_Plan_init_17 : Dc m_Plan_init 17 (.putfield 15) 3 20 := ⟨by decide +kernel, rfl⟩
set_option maxRecDepth 100000 in
theorem d_Plan_init_20 : Dc m_Plan_init 20 (.aload_n 0) 1 21 := ⟨by decide +kernel, rfl⟩
set_option maxRecDepth 100000 in
theorem d_Plan_init_21 : Dc m_Plan_init 21 (.iconst 0) 1 22 := ⟨by decide +kernel, rfl⟩
set_option maxRecDepth 100000 in
theorem d_Plan_init_22 : Dc m_Plan_init 22 (.putfield 18) 3 25 := ⟨by decide +kernel, rfl⟩
set_option maxRecDepth 100000 in
theorem d_Plan_init_25 : Dc m_Plan_init 25 (.aload_n 0) 1 26 := ⟨by decide +kernel, rfl⟩
set_option maxRecDepth 100000 in
theorem d_Plan_init_26 : Dc m_Plan_init 26 (.iconst 0) 1 27 := ⟨by decide +kernel, rfl⟩
set_option maxRecDepth 100000 in
theorem d_Plan_init_27 : Dc m_Plan_init 27 (.putfield 22) 3 30 := ⟨by decide +kernel, rfl⟩
set_option maxRecDepth 100000 in
theorem d_Plan_init_30 : Dc m_Plan_init 30 (.aload_n 0) 1 31 := ⟨by decide +kernel, rfl⟩
set_option maxRecDepth 100000 in
theorem d_Plan_init_31 : Dc m_Plan_init 31 (.iconst 0) 1 32 := ⟨by decide +kernel, rfl⟩
set_option maxRecDepth 100000 in
theorem d_Plan_init_32 : Dc m_Plan_init 32 (.putfield 25) 3 35 := ⟨by decide +kernel, rfl⟩
set_option maxRecDepth 100000 in
theorem d_Plan_init_35 : Dc m_Plan_init 35 .return_ 1 36 := ⟨by decide +kernel, rfl⟩
set_option maxRecDepth 100000 in
theorem d_Plan_weigh_0 : Dc m_Plan_weigh 0 (.aload_n 0) 1 1 := ⟨by decide +kernel, rfl⟩
set_option maxRecDepth 100000 in
theorem d_Plan_weigh_1 : Dc m_Plan_weigh 1 (.iconst 0) 1 2 := ⟨by decide +kernel, rfl⟩
set_option maxRecDepth 100000 in
theorem d_Plan_weigh_2 : Dc m_Plan_weigh 2 (.putfield 18) 3 5 := ⟨by decide +kernel, rfl⟩
set_option maxRecDepth 100000 in
theorem d_Plan_weigh_5 : Dc m_Plan_weigh 5 (.iconst 0) 1 6 := ⟨by decide +kernel, rfl⟩
set_option maxRecDepth 100000 in
theorem d_Plan_weigh_6 : Dc m_Plan_weigh 6 (.istore 4) 2 8 := ⟨by decide +kernel, rfl⟩
set_option maxRecDepth 100000 in
theorem d_Plan_weigh_8 : Dc m_Plan_weigh 8 (.iload 4) 2 10 := ⟨by decide +kernel, rfl⟩
set_option maxRecDepth 100000 in
theorem d_Plan_weigh_10 : Dc m_Plan_weigh 10 (.bipush (36)) 2 12 := ⟨by decide +kernel, rfl⟩
set_option maxRecDepth 100000 in
theorem d_Plan_weigh_12 : Dj m_Plan_weigh 12 (.if_icmp .ge) 15 114 := ⟨102, by decide +kernel, rfl, by decide⟩
set_option maxRecDepth 100000 in
theorem d_Plan_weigh_15 : Dc m_Plan_weigh 15 (.aload_n 1) 1 16 := ⟨by decide +kernel, rfl⟩
set_option maxRecDepth 100000 in
theorem d_Plan_weigh_16 : Dc m_Plan_weigh 16 (.getfield 28) 3 19 := ⟨by decide +kernel, rfl⟩
set_option maxRecDepth 100000 in
theorem d_Plan_weigh_19 : Dc m_Plan_weigh 19 (.iload 4) 2 21 := ⟨by decide +kernel, rfl⟩
set_option maxRecDepth 100000 in
theorem d_Plan_weigh_21 : Dc m_Plan_weigh 21 .iaload 1 22 := ⟨by decide +kernel, rfl⟩
set_option maxRecDepth 100000 in
theorem d_Plan_weigh_22 : Dc m_Plan_weigh 22 (.istore 5) 2 24 := ⟨by decide +kernel, rfl⟩
set_option maxRecDepth 100000 in
theorem d_Plan_weigh_24 : Dc m_Plan_weigh 24 (.aload_n 1) 1 25 := ⟨by decide +kernel, rfl⟩
set_option maxRecDepth 100000 in
theorem d_Plan_weigh_25 : Dc m_Plan_weigh 25 (.getfield 33) 3 28 := ⟨by decide +kernel, rfl⟩
set_option maxRecDepth 100000 in
theorem d_Plan_weigh_28 : Dc m_Plan_weigh 28 (.iload 4) 2 30 := ⟨by decide +kernel, rfl⟩
set_option maxRecDepth 100000 in
theorem d_Plan_weigh_30 : Dc m_Plan_weigh 30 .iaload 1 31 := ⟨by decide +kernel, rfl⟩
set_option maxRecDepth 100000 in
theorem d_Plan_weigh_31 : Dc m_Plan_weigh 31 (.invokestatic 36) 3 34 := ⟨by decide +kernel, rfl⟩
set_option maxRecDepth 100000 in
theorem d_Plan_weigh_34 : Dc m_Plan_weigh 34 (.istore 6) 2 36 := ⟨by decide +kernel, rfl⟩
set_option maxRecDepth 100000 in
theorem d_Plan_weigh_36 : Dc m_Plan_weigh 36 (.iload 6) 2 38 := ⟨by decide +kernel, rfl⟩
set_option maxRecDepth 100000 in
theorem d_Plan_weigh_38 : Dc m_Plan_weigh 38 (.invokestatic 36) 3 41 := ⟨by decide +kernel, rfl⟩
set_option maxRecDepth 100000 in
theorem d_Plan_weigh_41 : Dc m_Plan_weigh 41 (.istore 7) 2 43 := ⟨by decide +kernel, rfl⟩
set_option maxRecDepth 100000 in
theorem d_Plan_weigh_43 : Dc m_Plan_weigh 43 (.aload_n 1) 1 44 := ⟨by decide +kernel, rfl⟩
set_option maxRecDepth 100000 in
theorem d_Plan_weigh_44 : Dc m_Plan_weigh 44 (.getfield 33) 3 47 := ⟨by decide +kernel, rfl⟩
set_option maxRecDepth 100000 in
theorem d_Plan_weigh_47 : Dc m_Plan_weigh 47 (.iload 4) 2 49 := ⟨by decide +kernel, rfl⟩
set_option maxRecDepth 100000 in
theorem d_Plan_weigh_49 : Dc m_Plan_weigh 49 .iaload 1 50 := ⟨by decide +kernel, rfl⟩
set_option maxRecDepth 100000 in
theorem d_Plan_weigh_50 : Dc m_Plan_weigh 50 (.iload 5) 2 52 := ⟨by decide +kernel, rfl⟩
set_option maxRecDepth 100000 in
theorem d_Plan_weigh_52 : Dc m_Plan_weigh 52 (.iload_n 2) 1 53 := ⟨by decide +kernel, rfl⟩
set_option maxRecDepth 100000 in
theorem d_Plan_weigh_53 : Dc m_Plan_weigh 53 (.iload_n 3) 1 54 := ⟨by decide +kernel, rfl⟩
set_option maxRecDepth 100000 in
theorem d_Plan_weigh_54 : Dc m_Plan_weigh 54 (.invokestatic 40) 3 57 := ⟨by decide +kernel, rfl⟩
set_option maxRecDepth 100000 in
theorem d_Plan_weigh_57 : Dc m_Plan_weigh 57 (.istore 8) 2 59 := ⟨by decide +kernel, rfl⟩
set_option maxRecDepth 100000 in
theorem d_Plan_weigh_59 : Dc m_Plan_weigh 59 (.aload_n 0) 1 60 := ⟨by decide +kernel, rfl⟩
set_option maxRecDepth 100000 in
theorem d_Plan_weigh_60 : Dc m_Plan_weigh 60 .dup 1 61 := ⟨by decide +kernel, rfl⟩
set_option maxRecDepth 100000 in
theorem d_Plan_weigh_61 : Dc m_Plan_weigh 61 (.getfield 18) 3 64 := ⟨by decide +kernel, rfl⟩
set_option maxRecDepth 100000 in
theorem d_Plan_weigh_64 : Dc m_Plan_weigh 64 (.iload 8) 2 66 := ⟨by decide +kernel, rfl⟩
set_option maxRecDepth 100000 in
theorem d_Plan_weigh_66 : Dc m_Plan_weigh 66 .iadd 1 67 := ⟨by decide +kernel, rfl⟩
set_option maxRecDepth 100000 in
theorem d_Plan_weigh_67 : Dc m_Plan_weigh 67 (.putfield 18) 3 70 := ⟨by decide +kernel, rfl⟩
set_option maxRecDepth 100000 in
theorem d_Plan_weigh_70 : Dc m_Plan_weigh 70 (.aload_n 0) 1 71 := ⟨by decide +kernel, rfl⟩
set_option maxRecDepth 100000 in
theorem d_Plan_weigh_71 : Dc m_Plan_weigh 71 (.getfield 9) 3 74 := ⟨by decide +kernel, rfl⟩
set_option maxRecDepth 100000 in
theorem d_Plan_weigh_74 : Dc m_Plan_weigh 74 (.iload 4) 2 76 := ⟨by decide +kernel, rfl⟩
set_option maxRecDepth 100000 in
theorem d_Plan_weigh_76 : Dc m_Plan_weigh 76 (.iload 6) 2 78 := ⟨by decide +kernel, rfl⟩
set_option maxRecDepth 100000 in
theorem d_Plan_weigh_78 : Dc m_Plan_weigh 78 (.iload 5) 2 80 := ⟨by decide +kernel, rfl⟩
set_option maxRecDepth 100000 in
theorem d_Plan_weigh_80 : Dc m_Plan_weigh 80 (.iload_n 2) 1 81 := ⟨by decide +kernel, rfl⟩
set_option maxRecDepth 100000 in
theorem d_Plan_weigh_81 : Dc m_Plan_weigh 81 (.iload_n 3) 1 82 := ⟨by decide +kernel, rfl⟩
set_option maxRecDepth 100000 in
theorem d_Plan_weigh_82 : Dc m_Plan_weigh 82 (.invokestatic 40) 3 85 := ⟨by decide +kernel, rfl⟩
set_option maxRecDepth 100000 in
theorem d_Plan_weigh_85 : Dc m_Plan_weigh 85 (.iload 8) 2 87 := ⟨by decide +kernel, rfl⟩
set_option maxRecDepth 100000 in
theorem d_Plan_weigh_87 : Dc m_Plan_weigh 87 .isub 1 88 := ⟨by decide +kernel, rfl⟩
set_option maxRecDepth 100000 in
theorem d_Plan_weigh_88 : Dc m_Plan_weigh 88 .iastore 1 89 := ⟨by decide +kernel, rfl⟩
set_option maxRecDepth 100000 in
theorem d_Plan_weigh_89 : Dc m_Plan_weigh 89 (.aload_n 0) 1 90 := ⟨by decide +kernel, rfl⟩
set_option maxRecDepth 100000 in
theorem d_Plan_weigh_90 : Dc m_Plan_weigh 90 (.getfield 15) 3 93 := ⟨by decide +kernel, rfl⟩
set_option maxRecDepth 100000 in
theorem d_Plan_weigh_93 : Dc m_Plan_weigh 93 (.iload 4) 2 95 := ⟨by decide +kernel, rfl⟩
set_option maxRecDepth 100000 in
theorem d_Plan_weigh_95 : Dc m_Plan_weigh 95 (.iload 7) 2 97 := ⟨by decide +kernel, rfl⟩
set_option maxRecDepth 100000 in
theorem d_Plan_weigh_97 : Dc m_Plan_weigh 97 (.iload 5) 2 99 := ⟨by decide +kernel, rfl⟩
set_option maxRecDepth 100000 in
theorem d_Plan_weigh_99 : Dc m_Plan_weigh 99 (.iload_n 2) 1 100 := ⟨by decide +kernel, rfl⟩
set_option maxRecDepth 100000 in
theorem d_Plan_weigh_100 : Dc m_Plan_weigh 100 (.iload_n 3) 1 101 := ⟨by decide +kernel, rfl⟩
set_option maxRecDepth 100000 in
theorem d_Plan_weigh_101 : Dc m_Plan_weigh 101 (.invokestatic 40) 3 104 := ⟨by decide +kernel, rfl⟩
set_option maxRecDepth 100000 in
theorem d_Plan_weigh_104 : Dc m_Plan_weigh 104 (.iload 8) 2 106 := ⟨by decide +kernel, rfl⟩
set_option maxRecDepth 100000 in
theorem d_Plan_weigh_106 : Dc m_Plan_weigh 106 .isub 1 107 := ⟨by decide +kernel, rfl⟩
set_option maxRecDepth 100000 in
theorem d_Plan_weigh_107 : Dc m_Plan_weigh 107 .iastore 1 108 := ⟨by decide +kernel, rfl⟩
set_option maxRecDepth 100000 in
theorem d_Plan_weigh_108 : Dc m_Plan_weigh 108 (.iinc 4 (1)) 3 111 := ⟨by decide +kernel, rfl⟩
set_option maxRecDepth 100000 in
theorem d_Plan_weigh_111 : Dj m_Plan_weigh 111 .goto 114 8 := ⟨-103, by decide +kernel, rfl, by decide⟩
set_option maxRecDepth 100000 in
theorem d_Plan_weigh_114 : Dc m_Plan_weigh 114 .return_ 1 115 := ⟨by decide +kernel, rfl⟩
set_option maxRecDepth 100000 in
theorem d_Plan_chooseOne_0 : Dc m_Plan_chooseOne 0 (.aload_n 0) 1 1 := ⟨by decide +kernel, rfl⟩
set_option maxRecDepth 100000 in
theorem d_Plan_chooseOne_1 : Dc m_Plan_chooseOne 1 (.iconst (-1)) 1 2 := ⟨by decide +kernel, rfl⟩
set_option maxRecDepth 100000 in
theorem d_Plan_chooseOne_2 : Dc m_Plan_chooseOne 2 (.putfield 22) 3 5 := ⟨by decide +kernel, rfl⟩
set_option maxRecDepth 100000 in
theorem d_Plan_chooseOne_5 : Dc m_Plan_chooseOne 5 (.iconst 0) 1 6 := ⟨by decide +kernel, rfl⟩
set_option maxRecDepth 100000 in
theorem d_Plan_chooseOne_6 : Dc m_Plan_chooseOne 6 (.istore_n 1) 1 7 := ⟨by decide +kernel, rfl⟩
set_option maxRecDepth 100000 in
theorem d_Plan_chooseOne_7 : Dc m_Plan_chooseOne 7 (.iload_n 1) 1 8 := ⟨by decide +kernel, rfl⟩
set_option maxRecDepth 100000 in
theorem d_Plan_chooseOne_8 : Dc m_Plan_chooseOne 8 (.bipush (36)) 2 10 := ⟨by decide +kernel, rfl⟩
set_option maxRecDepth 100000 in
theorem d_Plan_chooseOne_10 : Dj m_Plan_chooseOne 10 (.if_icmp .ge) 13 30 := ⟨20, by decide +kernel, rfl, by decide⟩
set_option maxRecDepth 100000 in
theorem d_Plan_chooseOne_13 : Dc m_Plan_chooseOne 13 (.aload_n 0) 1 14 := ⟨by decide +kernel, rfl⟩
set_option maxRecDepth 100000 in
theorem d_Plan_chooseOne_14 : Dc m_Plan_chooseOne 14 (.iload_n 1) 1 15 := ⟨by decide +kernel, rfl⟩
set_option maxRecDepth 100000 in
theorem d_Plan_chooseOne_15 : Dc m_Plan_chooseOne 15 (.aload_n 0) 1 16 := ⟨by decide +kernel, rfl⟩
set_option maxRecDepth 100000 in
theorem d_Plan_chooseOne_16 : Dc m_Plan_chooseOne 16 (.getfield 9) 3 19 := ⟨by decide +kernel, rfl⟩
set_option maxRecDepth 100000 in
theorem d_Plan_chooseOne_19 : Dc m_Plan_chooseOne 19 (.iload_n 1) 1 20 := ⟨by decide +kernel, rfl⟩
set_option maxRecDepth 100000 in
theorem d_Plan_chooseOne_20 : Dc m_Plan_chooseOne 20 .iaload 1 21 := ⟨by decide +kernel, rfl⟩
set_option maxRecDepth 100000 in
theorem d_Plan_chooseOne_21 : Dc m_Plan_chooseOne 21 (.invokevirtual 44) 3 24 := ⟨by decide +kernel, rfl⟩
set_option maxRecDepth 100000 in
theorem d_Plan_chooseOne_24 : Dc m_Plan_chooseOne 24 (.iinc 1 (1)) 3 27 := ⟨by decide +kernel, rfl⟩
set_option maxRecDepth 100000 in
theorem d_Plan_chooseOne_27 : Dj m_Plan_chooseOne 27 .goto 30 7 := ⟨-20, by decide +kernel, rfl, by decide⟩
set_option maxRecDepth 100000 in
theorem d_Plan_chooseOne_30 : Dc m_Plan_chooseOne 30 .return_ 1 31 := ⟨by decide +kernel, rfl⟩
set_option maxRecDepth 100000 in
theorem d_Plan_chooseTwo_0 : Dc m_Plan_chooseTwo 0 (.aload_n 0) 1 1 := ⟨by decide +kernel, rfl⟩
set_option maxRecDepth 100000 in
theorem d_Plan_chooseTwo_1 : Dc m_Plan_chooseTwo 1 (.iconst (-1)) 1 2 := ⟨by decide +kernel, rfl⟩
set_option maxRecDepth 100000 in
theorem d_Plan_chooseTwo_2 : Dc m_Plan_chooseTwo 2 (.putfield 22) 3 5 := ⟨by decide +kernel, rfl⟩
set_option maxRecDepth 100000 in
theorem d_Plan_chooseTwo_5 : Dc m_Plan_chooseTwo 5 (.iconst 0) 1 6 := ⟨by decide +kernel, rfl⟩
set_option maxRecDepth 100000 in
theorem d_Plan_chooseTwo_6 : Dc m_Plan_chooseTwo 6 (.istore_n 1) 1 7 := ⟨by decide +kernel, rfl⟩
set_option maxRecDepth 100000 in
theorem d_Plan_chooseTwo_7 : Dc m_Plan_chooseTwo 7 (.iload_n 1) 1 8 := ⟨by decide +kernel, rfl⟩
set_option maxRecDepth 100000 in
theorem d_Plan_chooseTwo_8 : Dc m_Plan_chooseTwo 8 (.bipush (36)) 2 10 := ⟨by decide +kernel, rfl⟩
set_option maxRecDepth 100000 in
theorem d_Plan_chooseTwo_10 : Dj m_Plan_chooseTwo 10 (.if_icmp .ge) 13 64 := ⟨54, by decide +kernel, rfl, by decide⟩
set_option maxRecDepth 100000 in
theorem d_Plan_chooseTwo_13 : Dc m_Plan_chooseTwo 13 (.aload_n 0) 1 14 := ⟨by decide +kernel, rfl⟩
set_option maxRecDepth 100000 in
theorem d_Plan_chooseTwo_14 : Dc m_Plan_chooseTwo 14 (.iload_n 1) 1 15 := ⟨by decide +kernel, rfl⟩
set_option maxRecDepth 100000 in
theorem d_Plan_chooseTwo_15 : Dc m_Plan_chooseTwo 15 (.aload_n 0) 1 16 := ⟨by decide +kernel, rfl⟩
set_option maxRecDepth 100000 in
theorem d_Plan_chooseTwo_16 : Dc m_Plan_chooseTwo 16 (.getfield 15) 3 19 := ⟨by decide +kernel, rfl⟩
set_option maxRecDepth 100000 in
theorem d_Plan_chooseTwo_19 : Dc m_Plan_chooseTwo 19 (.iload_n 1) 1 20 := ⟨by decide +kernel, rfl⟩
set_option maxRecDepth 100000 in
theorem d_Plan_chooseTwo_20 : Dc m_Plan_chooseTwo 20 .iaload 1 21 := ⟨by decide +kernel, rfl⟩
set_option maxRecDepth 100000 in
theorem d_Plan_chooseTwo_21 : Dc m_Plan_chooseTwo 21 (.invokevirtual 44) 3 24 := ⟨by decide +kernel, rfl⟩
set_option maxRecDepth 100000 in
theorem d_Plan_chooseTwo_24 : Dc m_Plan_chooseTwo 24 (.iload_n 1) 1 25 := ⟨by decide +kernel, rfl⟩
set_option maxRecDepth 100000 in
theorem d_Plan_chooseTwo_25 : Dc m_Plan_chooseTwo 25 (.iconst 1) 1 26 := ⟨by decide +kernel, rfl⟩
set_option maxRecDepth 100000 in
theorem d_Plan_chooseTwo_26 : Dc m_Plan_chooseTwo 26 .iadd 1 27 := ⟨by decide +kernel, rfl⟩
set_option maxRecDepth 100000 in
theorem d_Plan_chooseTwo_27 : Dc m_Plan_chooseTwo 27 (.istore_n 2) 1 28 := ⟨by decide +kernel, rfl⟩
set_option maxRecDepth 100000 in
theorem d_Plan_chooseTwo_28 : Dc m_Plan_chooseTwo 28 (.iload_n 2) 1 29 := ⟨by decide +kernel, rfl⟩
set_option maxRecDepth 100000 in
theorem d_Plan_chooseTwo_29 : Dc m_Plan_chooseTwo 29 (.bipush (36)) 2 31 := ⟨by decide +kernel, rfl⟩
set_option maxRecDepth 100000 in
theorem d_Plan_chooseTwo_31 : Dj m_Plan_chooseTwo 31 (.if_icmp .ge) 34 58 := ⟨27, by decide +kernel, rfl, by decide⟩
set_option maxRecDepth 100000 in
theorem d_Plan_chooseTwo_34 : Dc m_Plan_chooseTwo 34 (.aload_n 0) 1 35 := ⟨by decide +kernel, rfl⟩
set_option maxRecDepth 100000 in
theorem d_Plan_chooseTwo_35 : Dc m_Plan_chooseTwo 35 (.iload_n 1) 1 36 := ⟨by decide +kernel, rfl⟩
set_option maxRecDepth 100000 in
theorem d_Plan_chooseTwo_36 : Dc m_Plan_chooseTwo 36 (.aload_n 0) 1 37 := ⟨by decide +kernel, rfl⟩
set_option maxRecDepth 100000 in
theorem d_Plan_chooseTwo_37 : Dc m_Plan_chooseTwo 37 (.getfield 9) 3 40 := ⟨by decide +kernel, rfl⟩
set_option maxRecDepth 100000 in
theorem d_Plan_chooseTwo_40 : Dc m_Plan_chooseTwo 40 (.iload_n 1) 1 41 := ⟨by decide +kernel, rfl⟩
set_option maxRecDepth 100000 in
theorem d_Plan_chooseTwo_41 : Dc m_Plan_chooseTwo 41 .iaload 1 42 := ⟨by decide +kernel, rfl⟩
set_option maxRecDepth 100000 in
theorem d_Plan_chooseTwo_42 : Dc m_Plan_chooseTwo 42 (.aload_n 0) 1 43 := ⟨by decide +kernel, rfl⟩
set_option maxRecDepth 100000 in
theorem d_Plan_chooseTwo_43 : Dc m_Plan_chooseTwo 43 (.getfield 9) 3 46 := ⟨by decide +kernel, rfl⟩
set_option maxRecDepth 100000 in
theorem d_Plan_chooseTwo_46 : Dc m_Plan_chooseTwo 46 (.iload_n 2) 1 47 := ⟨by decide +kernel, rfl⟩
set_option maxRecDepth 100000 in
theorem d_Plan_chooseTwo_47 : Dc m_Plan_chooseTwo 47 .iaload 1 48 := ⟨by decide +kernel, rfl⟩
set_option maxRecDepth 100000 in
theorem d_Plan_chooseTwo_48 : Dc m_Plan_chooseTwo 48 .iadd 1 49 := ⟨by decide +kernel, rfl⟩
set_option maxRecDepth 100000 in
theorem d_Plan_chooseTwo_49 : Dc m_Plan_chooseTwo 49 (.invokevirtual 44) 3 52 := ⟨by decide +kernel, rfl⟩
set_option maxRecDepth 100000 in
theorem d_Plan_chooseTwo_52 : Dc m_Plan_chooseTwo 52 (.iinc 2 (1)) 3 55 := ⟨by decide +kernel, rfl⟩
set_option maxRecDepth 100000 in
theorem d_Plan_chooseTwo_55 : Dj m_Plan_chooseTwo 55 .goto 58 28 := ⟨-27, by decide +kernel, rfl, by decide⟩
set_option maxRecDepth 100000 in
theorem d_Plan_chooseTwo_58 : Dc m_Plan_chooseTwo 58 (.iinc 1 (1)) 3 61 := ⟨by decide +kernel, rfl⟩
set_option maxRecDepth 100000 in
theorem d_Plan_chooseTwo_61 : Dj m_Plan_chooseTwo 61 .goto 64 7 := ⟨-54, by decide +kernel, rfl, by decide⟩
set_option maxRecDepth 100000 in
theorem d_Plan_chooseTwo_64 : Dc m_Plan_chooseTwo 64 .return_ 1 65 := ⟨by decide +kernel, rfl⟩
set_option maxRecDepth 100000 in
theorem d_Plan_offer_0 : Dc m_Plan_offer 0 (.iload_n 2) 1 1 := ⟨by decide +kernel, rfl⟩
set_option maxRecDepth 100000 in
theorem d_Plan_offer_1 : Dc m_Plan_offer 1 (.aload_n 0) 1 2 := ⟨by decide +kernel, rfl⟩
set_option maxRecDepth 100000 in
theorem d_Plan_offer_2 : Dc m_Plan_offer 2 (.getfield 22) 3 5 := ⟨by decide +kernel, rfl⟩
set_option maxRecDepth 100000 in
theorem d_Plan_offer_5 : Dj m_Plan_offer 5 (.if_icmp .le) 8 18 := ⟨13, by decide +kernel, rfl, by decide⟩
set_option maxRecDepth 100000 in
theorem d_Plan_offer_8 : Dc m_Plan_offer 8 (.aload_n 0) 1 9 := ⟨by decide +kernel, rfl⟩
set_option maxRecDepth 100000 in
theorem d_Plan_offer_9 : Dc m_Plan_offer 9 (.iload_n 2) 1 10 := ⟨by decide +kernel, rfl⟩
set_option maxRecDepth 100000 in
theorem d_Plan_offer_10 : Dc m_Plan_offer 10 (.putfield 22) 3 13 := ⟨by decide +kernel, rfl⟩
set_option maxRecDepth 100000 in
theorem d_Plan_offer_13 : Dc m_Plan_offer 13 (.aload_n 0) 1 14 := ⟨by decide +kernel, rfl⟩
set_option maxRecDepth 100000 in
theorem d_Plan_offer_14 : Dc m_Plan_offer 14 (.iload_n 1) 1 15 := ⟨by decide +kernel, rfl⟩
set_option maxRecDepth 100000 in
theorem d_Plan_offer_15 : Dc m_Plan_offer 15 (.putfield 25) 3 18 := ⟨by decide +kernel, rfl⟩
set_option maxRecDepth 100000 in
theorem d_Plan_offer_18 : Dc m_Plan_offer 18 .return_ 1 19 := ⟨by decide +kernel, rfl⟩
set_option maxRecDepth 100000 in
theorem d_Rows_init_0 : Dc m_Rows_init 0 (.aload_n 0) 1 1 := ⟨by decide +kernel, rfl⟩
set_option maxRecDepth 100000 in
theorem d_Rows_init_1 : Dc m_Rows_init 1 (.invokespecial 3) 3 4 := ⟨by decide +kernel, rfl⟩
set_option maxRecDepth 100000 in
theorem d_Rows_init_4 : Dc m_Rows_init 4 (.aload_n 0) 1 5 := ⟨by decide +kernel, rfl⟩
set_option maxRecDepth 100000 in
theorem d_Rows_init_5 : Dc m_Rows_init 5 (.bipush (36)) 2 7 := ⟨by decide +kernel, rfl⟩
set_option maxRecDepth 100000 in
theorem d_Rows_init_7 : Dc m_Rows_init 7 (.newarray .int) 2 9 := ⟨by decide +kernel, rfl⟩
set_option maxRecDepth 100000 in
theorem d_Rows_init_9 : Dc m_Rows_init 9 (.putfield 9) 3 12 := ⟨by decide +kernel, rfl⟩
set_option maxRecDepth 100000 in
theorem d_Rows_init_12 : Dc m_Rows_init 12 (.aload_n 0) 1 13 := ⟨by decide +kernel, rfl⟩
set_option maxRecDepth 100000 in
theorem d_Rows_init_13 : Dc m_Rows_init 13 (.iconst 0) 1 14 := ⟨by decide +kernel, rfl⟩
set_option maxRecDepth 100000 in
theorem d_Rows_init_14 : Dc m_Rows_init 14 (.putfield 15) 3 17 := ⟨by decide +kernel, rfl⟩
set_option maxRecDepth 100000 in
theorem d_Rows_init_17 : Dc m_Rows_init 17 .return_ 1 18 := ⟨by decide +kernel, rfl⟩
set_option maxRecDepth 100000 in
theorem d_Rows_append_0 : Dc m_Rows_append 0 (.aload_n 0) 1 1 := ⟨by decide +kernel, rfl⟩
set_option maxRecDepth 100000 in
theorem d_Rows_append_1 : Dc m_Rows_append 1 (.getfield 15) 3 4 := ⟨by decide +kernel, rfl⟩
set_option maxRecDepth 100000 in
theorem d_Rows_append_4 : Dc m_Rows_append 4 (.bipush (12)) 2 6 := ⟨by decide +kernel, rfl⟩
set_option maxRecDepth 100000 in
theorem d_Rows_append_6 : Dj m_Rows_append 6 (.if_icmp .lt) 9 10 := ⟨4, by decide +kernel, rfl, by decide⟩
set_option maxRecDepth 100000 in
theorem d_Rows_append_9 : Dc m_Rows_append 9 .return_ 1 10 := ⟨by decide +kernel, rfl⟩
set_option maxRecDepth 100000 in
theorem d_Rows_append_10 : Dc m_Rows_append 10 (.aload_n 0) 1 11 := ⟨by decide +kernel, rfl⟩
set_option maxRecDepth 100000 in
theorem d_Rows_append_11 : Dc m_Rows_append 11 (.getfield 9) 3 14 := ⟨by decide +kernel, rfl⟩
set_option maxRecDepth 100000 in
theorem d_Rows_append_14 : Dc m_Rows_append 14 (.iconst 3) 1 15 := ⟨by decide +kernel, rfl⟩
set_option maxRecDepth 100000 in
theorem d_Rows_append_15 : Dc m_Rows_append 15 (.aload_n 0) 1 16 := ⟨by decide +kernel, rfl⟩
set_option maxRecDepth 100000 in
theorem d_Rows_append_16 : Dc m_Rows_append 16 (.getfield 15) 3 19 := ⟨by decide +kernel, rfl⟩
set_option maxRecDepth 100000 in
theorem d_Rows_append_19 : Dc m_Rows_append 19 .imul 1 20 := ⟨by decide +kernel, rfl⟩
set_option maxRecDepth 100000 in
theorem d_Rows_append_20 : Dc m_Rows_append 20 (.iload_n 1) 1 21 := ⟨by decide +kernel, rfl⟩
set_option maxRecDepth 100000 in
theorem d_Rows_append_21 : Dc m_Rows_append 21 .iastore 1 22 := ⟨by decide +kernel, rfl⟩
set_option maxRecDepth 100000 in
theorem d_Rows_append_22 : Dc m_Rows_append 22 (.aload_n 0) 1 23 := ⟨by decide +kernel, rfl⟩
set_option maxRecDepth 100000 in
theorem d_Rows_append_23 : Dc m_Rows_append 23 (.getfield 9) 3 26 := ⟨by decide +kernel, rfl⟩
set_option maxRecDepth 100000 in
theorem d_Rows_append_26 : Dc m_Rows_append 26 (.iconst 3) 1 27 := ⟨by decide +kernel, rfl⟩
set_option maxRecDepth 100000 in
theorem d_Rows_append_27 : Dc m_Rows_append 27 (.aload_n 0) 1 28 := ⟨by decide +kernel, rfl⟩
set_option maxRecDepth 100000 in
theorem d_Rows_append_28 : Dc m_Rows_append 28 (.getfield 15) 3 31 := ⟨by decide +kernel, rfl⟩
set_option maxRecDepth 100000 in
theorem d_Rows_append_31 : Dc m_Rows_append 31 .imul 1 32 := ⟨by decide +kernel, rfl⟩
set_option maxRecDepth 100000 in
theorem d_Rows_append_32 : Dc m_Rows_append 32 (.iconst 1) 1 33 := ⟨by decide +kernel, rfl⟩
set_option maxRecDepth 100000 in
theorem d_Rows_append_33 : Dc m_Rows_append 33 .iadd 1 34 := ⟨by decide +kernel, rfl⟩
set_option maxRecDepth 100000 in
theorem d_Rows_append_34 : Dc m_Rows_append 34 (.iload_n 2) 1 35 := ⟨by decide +kernel, rfl⟩
set_option maxRecDepth 100000 in
theorem d_Rows_append_35 : Dc m_Rows_append 35 .iastore 1 36 := ⟨by decide +kernel, rfl⟩
set_option maxRecDepth 100000 in
theorem d_Rows_append_36 : Dc m_Rows_append 36 (.aload_n 0) 1 37 := ⟨by decide +kernel, rfl⟩
set_option maxRecDepth 100000 in
theorem d_Rows_append_37 : Dc m_Rows_append 37 (.getfield 9) 3 40 := ⟨by decide +kernel, rfl⟩
set_option maxRecDepth 100000 in
theorem d_Rows_append_40 : Dc m_Rows_append 40 (.iconst 3) 1 41 := ⟨by decide +kernel, rfl⟩
set_option maxRecDepth 100000 in
theorem d_Rows_append_41 : Dc m_Rows_append 41 (.aload_n 0) 1 42 := ⟨by decide +kernel, rfl⟩
set_option maxRecDepth 100000 in
theorem d_Rows_append_42 : Dc m_Rows_append 42 (.getfield 15) 3 45 := ⟨by decide +kernel, rfl⟩
set_option maxRecDepth 100000 in
theorem d_Rows_append_45 : Dc m_Rows_append 45 .imul 1 46 := ⟨by decide +kernel, rfl⟩
set_option maxRecDepth 100000 in
theorem d_Rows_append_46 : Dc m_Rows_append 46 (.iconst 2) 1 47 := ⟨by decide +kernel, rfl⟩
set_option maxRecDepth 100000 in
theorem d_Rows_append_47 : Dc m_Rows_append 47 .iadd 1 48 := ⟨by decide +kernel, rfl⟩
set_option maxRecDepth 100000 in
theorem d_Rows_append_48 : Dc m_Rows_append 48 (.iload_n 3) 1 49 := ⟨by decide +kernel, rfl⟩
set_option maxRecDepth 100000 in
theorem d_Rows_append_49 : Dc m_Rows_append 49 .iastore 1 50 := ⟨by decide +kernel, rfl⟩
set_option maxRecDepth 100000 in
theorem d_Rows_append_50 : Dc m_Rows_append 50 (.aload_n 0) 1 51 := ⟨by decide +kernel, rfl⟩
set_option maxRecDepth 100000 in
theorem d_Rows_append_51 : Dc m_Rows_append 51 .dup 1 52 := ⟨by decide +kernel, rfl⟩
set_option maxRecDepth 100000 in
theorem d_Rows_append_52 : Dc m_Rows_append 52 (.getfield 15) 3 55 := ⟨by decide +kernel, rfl⟩
set_option maxRecDepth 100000 in
theorem d_Rows_append_55 : Dc m_Rows_append 55 (.iconst 1) 1 56 := ⟨by decide +kernel, rfl⟩
set_option maxRecDepth 100000 in
theorem d_Rows_append_56 : Dc m_Rows_append 56 .iadd 1 57 := ⟨by decide +kernel, rfl⟩
set_option maxRecDepth 100000 in
theorem d_Rows_append_57 : Dc m_Rows_append 57 (.putfield 15) 3 60 := ⟨by decide +kernel, rfl⟩
set_option maxRecDepth 100000 in
theorem d_Rows_append_60 : Dc m_Rows_append 60 .return_ 1 61 := ⟨by decide +kernel, rfl⟩
set_option maxRecDepth 100000 in
theorem d_Rows_placeOf_0 : Dc m_Rows_placeOf 0 (.iload_n 1) 1 1 := ⟨by decide +kernel, rfl⟩
set_option maxRecDepth 100000 in
theorem d_Rows_placeOf_1 : Dj m_Rows_placeOf 1 (.ifCond .lt) 4 20 := ⟨19, by decide +kernel, rfl, by decide⟩
set_option maxRecDepth 100000 in
theorem d_Rows_placeOf_4 : Dc m_Rows_placeOf 4 (.iload_n 1) 1 5 := ⟨by decide +kernel, rfl⟩
set_option maxRecDepth 100000 in
theorem d_Rows_placeOf_5 : Dc m_Rows_placeOf 5 (.aload_n 0) 1 6 := ⟨by decide +kernel, rfl⟩
set_option maxRecDepth 100000 in
theorem d_Rows_placeOf_6 : Dc m_Rows_placeOf 6 (.getfield 15) 3 9 := ⟨by decide +kernel, rfl⟩
set_option maxRecDepth 100000 in
theorem d_Rows_placeOf_9 : Dj m_Rows_placeOf 9 (.if_icmp .ge) 12 20 := ⟨11, by decide +kernel, rfl, by decide⟩
set_option maxRecDepth 100000 in
theorem d_Rows_placeOf_12 : Dc m_Rows_placeOf 12 (.iload_n 2) 1 13 := ⟨by decide +kernel, rfl⟩
set_option maxRecDepth 100000 in
theorem d_Rows_placeOf_13 : Dc m_Rows_placeOf 13 (.iconst 2) 1 14 := ⟨by decide +kernel, rfl⟩
set_option maxRecDepth 100000 in
theorem d_Rows_placeOf_14 : Dc m_Rows_placeOf 14 (.invokestatic 19) 3 17 := ⟨by decide +kernel, rfl⟩
set_option maxRecDepth 100000 in
theorem d_Rows_placeOf_17 : Dj m_Rows_placeOf 17 (.ifCond .ne) 20 25 := ⟨8, by decide +kernel, rfl, by decide⟩
set_option maxRecDepth 100000 in
theorem d_Rows_placeOf_20 : Dc m_Rows_placeOf 20 (.bipush (-9)) 2 22 := ⟨by decide +kernel, rfl⟩
set_option maxRecDepth 100000 in
theorem d_Rows_placeOf_22 : Dj m_Rows_placeOf 22 .goto 25 30 := ⟨8, by decide +kernel, rfl, by decide⟩
set_option maxRecDepth 100000 in
theorem d_Rows_placeOf_25 : Dc m_Rows_placeOf 25 (.iconst 3) 1 26 := ⟨by decide +kernel, rfl⟩
set_option maxRecDepth 100000 in
theorem d_Rows_placeOf_26 : Dc m_Rows_placeOf 26 (.iload_n 1) 1 27 := ⟨by decide +kernel, rfl⟩
set_option maxRecDepth 100000 in
theorem d_Rows_placeOf_27 : Dc m_Rows_placeOf 27 .imul 1 28 := ⟨by decide +kernel, rfl⟩
set_option maxRecDepth 100000 in
theorem d_Rows_placeOf_28 : Dc m_Rows_placeOf 28 (.iload_n 2) 1 29 := ⟨by decide +kernel, rfl⟩
set_option maxRecDepth 100000 in
theorem d_Rows_placeOf_29 : Dc m_Rows_placeOf 29 .iadd 1 30 := ⟨by decide +kernel, rfl⟩
set_option maxRecDepth 100000 in
theorem d_Rows_placeOf_30 : Dc m_Rows_placeOf 30 .ireturn 1 31 := ⟨by decide +kernel, rfl⟩
set_option maxRecDepth 100000 in
theorem d_Rows_isSameAt_0 : Dc m_Rows_isSameAt 0 (.iload_n 1) 1 1 := ⟨by decide +kernel, rfl⟩
set_option maxRecDepth 100000 in
theorem d_Rows_isSameAt_1 : Dj m_Rows_isSameAt 1 (.ifCond .lt) 4 20 := ⟨19, by decide +kernel, rfl, by decide⟩
set_option maxRecDepth 100000 in
theorem d_Rows_isSameAt_4 : Dc m_Rows_isSameAt 4 (.iload_n 1) 1 5 := ⟨by decide +kernel, rfl⟩
set_option maxRecDepth 100000 in
theorem d_Rows_isSameAt_5 : Dc m_Rows_isSameAt 5 (.aload_n 0) 1 6 := ⟨by decide +kernel, rfl⟩
set_option maxRecDepth 100000 in
theorem d_Rows_isSameAt_6 : Dc m_Rows_isSameAt 6 (.getfield 15) 3 9 := ⟨by decide +kernel, rfl⟩
set_option maxRecDepth 100000 in
theorem d_Rows_isSameAt_9 : Dj m_Rows_isSameAt 9 (.if_icmp .ge) 12 20 := ⟨11, by decide +kernel, rfl, by decide⟩
set_option maxRecDepth 100000 in
theorem d_Rows_isSameAt_12 : Dc m_Rows_isSameAt 12 (.iload_n 1) 1 13 := ⟨by decide +kernel, rfl⟩
set_option maxRecDepth 100000 in
theorem d_Rows_isSameAt_13 : Dc m_Rows_isSameAt 13 (.aload_n 2) 1 14 := ⟨by decide +kernel, rfl⟩
set_option maxRecDepth 100000 in
theorem d_Rows_isSameAt_14 : Dc m_Rows_isSameAt 14 (.getfield 15) 3 17 := ⟨by decide +kernel, rfl⟩
set_option maxRecDepth 100000 in
theorem d_Rows_isSameAt_17 : Dj m_Rows_isSameAt 17 (.if_icmp .lt) 20 22 := ⟨5, by decide +kernel, rfl, by decide⟩
set_option maxRecDepth 100000 in
theorem d_Rows_isSameAt_20 : Dc m_Rows_isSameAt 20 (.iconst 0) 1 21 := ⟨by decide +kernel, rfl⟩
set_option maxRecDepth 100000 in
theorem d_Rows_isSameAt_21 : Dc m_Rows_isSameAt 21 .ireturn 1 22 := ⟨by decide +kernel, rfl⟩
set_option maxRecDepth 100000 in
theorem d_Rows_isSameAt_22 : Dc m_Rows_isSameAt 22 (.iconst 3) 1 23 := ⟨by decide +kernel, rfl⟩
set_option maxRecDepth 100000 in
theorem d_Rows_isSameAt_23 : Dc m_Rows_isSameAt 23 (.iload_n 1) 1 24 := ⟨by decide +kernel, rfl⟩
set_option maxRecDepth 100000 in
theorem d_Rows_isSameAt_24 : Dc m_Rows_isSameAt 24 .imul 1 25 := ⟨by decide +kernel, rfl⟩
set_option maxRecDepth 100000 in
theorem d_Rows_isSameAt_25 : Dc m_Rows_isSameAt 25 (.istore_n 3) 1 26 := ⟨by decide +kernel, rfl⟩
set_option maxRecDepth 100000 in
theorem d_Rows_isSameAt_26 : Dc m_Rows_isSameAt 26 (.iload_n 3) 1 27 := ⟨by decide +kernel, rfl⟩
set_option maxRecDepth 100000 in
theorem d_Rows_isSameAt_27 : Dc m_Rows_isSameAt 27 (.iconst 3) 1 28 := ⟨by decide +kernel, rfl⟩
set_option maxRecDepth 100000 in
theorem d_Rows_isSameAt_28 : Dc m_Rows_isSameAt 28 (.iload_n 1) 1 29 := ⟨by decide +kernel, rfl⟩
set_option maxRecDepth 100000 in
theorem d_Rows_isSameAt_29 : Dc m_Rows_isSameAt 29 .imul 1 30 := ⟨by decide +kernel, rfl⟩
set_option maxRecDepth 100000 in
theorem d_Rows_isSameAt_30 : Dc m_Rows_isSameAt 30 (.iconst 3) 1 31 := ⟨by decide +kernel, rfl⟩
set_option maxRecDepth 100000 in
theorem d_Rows_isSameAt_31 : Dc m_Rows_isSameAt 31 .iadd 1 32 := ⟨by decide +kernel, rfl⟩
set_option maxRecDepth 100000 in
theorem d_Rows_isSameAt_32 : Dj m_Rows_isSameAt 32 (.if_icmp .ge) 35 58 := ⟨26, by decide +kernel, rfl, by decide⟩
set_option maxRecDepth 100000 in
theorem d_Rows_isSameAt_35 : Dc m_Rows_isSameAt 35 (.aload_n 0) 1 36 := ⟨by decide +kernel, rfl⟩
set_option maxRecDepth 100000 in
theorem d_Rows_isSameAt_36 : Dc m_Rows_isSameAt 36 (.getfield 9) 3 39 := ⟨by decide +kernel, rfl⟩
set_option maxRecDepth 100000 in
theorem d_Rows_isSameAt_39 : Dc m_Rows_isSameAt 39 (.iload_n 3) 1 40 := ⟨by decide +kernel, rfl⟩
set_option maxRecDepth 100000 in
theorem d_Rows_isSameAt_40 : Dc m_Rows_isSameAt 40 .iaload 1 41 := ⟨by decide +kernel, rfl⟩
set_option maxRecDepth 100000 in
theorem d_Rows_isSameAt_41 : Dc m_Rows_isSameAt 41 (.aload_n 2) 1 42 := ⟨by decide +kernel, rfl⟩
set_option maxRecDepth 100000 in
theorem d_Rows_isSameAt_42 : Dc m_Rows_isSameAt 42 (.getfield 9) 3 45 := ⟨by decide +kernel, rfl⟩
set_option maxRecDepth 100000 in
theorem d_Rows_isSameAt_45 : Dc m_Rows_isSameAt 45 (.iload_n 3) 1 46 := ⟨by decide +kernel, rfl⟩
set_option maxRecDepth 100000 in
theorem d_Rows_isSameAt_46 : Dc m_Rows_isSameAt 46 .iaload 1 47 := ⟨by decide +kernel, rfl⟩
set_option maxRecDepth 100000 in
theorem d_Rows_isSameAt_47 : Dj m_Rows_isSameAt 47 (.if_icmp .eq) 50 52 := ⟨5, by decide +kernel, rfl, by decide⟩
set_option maxRecDepth 100000 in
theorem d_Rows_isSameAt_50 : Dc m_Rows_isSameAt 50 (.iconst 0) 1 51 := ⟨by decide +kernel, rfl⟩
set_option maxRecDepth 100000 in
theorem d_Rows_isSameAt_51 : Dc m_Rows_isSameAt 51 .ireturn 1 52 := ⟨by decide +kernel, rfl⟩
set_option maxRecDepth 100000 in
theorem d_Rows_isSameAt_52 : Dc m_Rows_isSameAt 52 (.iinc 3 (1)) 3 55 := ⟨by decide +kernel, rfl⟩
set_option maxRecDepth 100000 in
theorem d_Rows_isSameAt_55 : Dj m_Rows_isSameAt 55 .goto 58 26 := ⟨-29, by decide +kernel, rfl, by decide⟩
set_option maxRecDepth 100000 in
theorem d_Rows_isSameAt_58 : Dc m_Rows_isSameAt 58 (.iconst 1) 1 59 := ⟨by decide +kernel, rfl⟩
set_option maxRecDepth 100000 in
theorem d_Rows_isSameAt_59 : Dc m_Rows_isSameAt 59 .ireturn 1 60 := ⟨by decide +kernel, rfl⟩
set_option maxRecDepth 100000 in
theorem d_School_init_0 : Dc m_School_init 0 (.aload_n 0) 1 1 := ⟨by decide +kernel, rfl⟩
set_option maxRecDepth 100000 in
theorem d_School_init_1 : Dc m_School_init 1 (.invokespecial 3) 3 4 := ⟨by decide +kernel, rfl⟩
set_option maxRecDepth 100000 in
theorem d_School_init_4 : Dc m_School_init 4 (.aload_n 0) 1 5 := ⟨by decide +kernel, rfl⟩
set_option maxRecDepth 100000 in
theorem d_School_init_5 : Dc m_School_init 5 (.iconst 4) 1 6 := ⟨by decide +kernel, rfl⟩
set_option maxRecDepth 100000 in
theorem d_School_init_6 : Dc m_School_init 6 (.anewarray 9) 3 9 := ⟨by decide +kernel, rfl⟩
set_option maxRecDepth 100000 in
theorem d_School_init_9 : Dc m_School_init 9 (.putfield 11) 3 12 := ⟨by decide +kernel, rfl⟩
set_option maxRecDepth 100000 in
theorem d_School_init_12 : Dc m_School_init 12 (.aload_n 0) 1 13 := ⟨by decide +kernel, rfl⟩
set_option maxRecDepth 100000 in
theorem d_School_init_13 : Dc m_School_init 13 (.iconst 0) 1 14 := ⟨by decide +kernel, rfl⟩
set_option maxRecDepth 100000 in
theorem d_School_init_14 : Dc m_School_init 14 (.putfield 17) 3 17 := ⟨by decide +kernel, rfl⟩
set_option maxRecDepth 100000 in
theorem d_School_init_17 : Dc m_School_init 17 (.aload_n 0) 1 18 := ⟨by decide +kernel, rfl⟩
set_option maxRecDepth 100000 in
theorem d_School_init_18 : Dc m_School_init 18 (.iconst 3) 1 19 := ⟨by decide +kernel, rfl⟩
set_option maxRecDepth 100000 in
theorem d_School_init_19 : Dc m_School_init 19 (.newarray .int) 2 21 := ⟨by decide +kernel, rfl⟩
set_option maxRecDepth 100000 in
theorem d_School_init_21 : Dc m_School_init 21 .dup 1 22 := ⟨by decide +kernel, rfl⟩
set_option maxRecDepth 100000 in
theorem d_School_init_22 : Dc m_School_init 22 (.iconst 0) 1 23 := ⟨by decide +kernel, rfl⟩
set_option maxRecDepth 100000 in
theorem d_School_init_23 : Dc m_School_init 23 (.bipush (10)) 2 25 := ⟨by decide +kernel, rfl⟩
set_option maxRecDepth 100000 in
theorem d_School_init_25 : Dc m_School_init 25 .iastore 1 26 := ⟨by decide +kernel, rfl⟩
set_option maxRecDepth 100000 in
theorem d_School_init_26 : Dc m_School_init 26 .dup 1 27 := ⟨by decide +kernel, rfl⟩
set_option maxRecDepth 100000 in
theorem d_School_init_27 : Dc m_School_init 27 (.iconst 1) 1 28 := ⟨by decide +kernel, rfl⟩
set_option maxRecDepth 100000 in
theorem d_School_init_28 : Dc m_School_init 28 (.bipush (40)) 2 30 := ⟨by decide +kernel, rfl⟩
set_option maxRecDepth 100000 in
theorem d_School_init_30 : Dc m_School_init 30 .iastore 1 31 := ⟨by decide +kernel, rfl⟩
set_option maxRecDepth 100000 in
theorem d_School_init_31 : Dc m_School_init 31 .dup 1 32 := ⟨by decide +kernel, rfl⟩
set_option maxRecDepth 100000 in
theorem d_School_init_32 : Dc m_School_init 32 (.iconst 2) 1 33 := ⟨by decide +kernel, rfl⟩
set_option maxRecDepth 100000 in
theorem d_School_init_33 : Dc m_School_init 33 (.bipush (30)) 2 35 := ⟨by decide +kernel, rfl⟩
set_option maxRecDepth 100000 in
theorem d_School_init_35 : Dc m_School_init 35 .iastore 1 36 := ⟨by decide +kernel, rfl⟩
set_option maxRecDepth 100000 in
theorem d_School_init_36 : Dc m_School_init 36 (.putfield 21) 3 39 := ⟨by decide +kernel, rfl⟩
set_option maxRecDepth 100000 in
theorem d_School_init_39 : Dc m_School_init 39 (.aload_n 0) 1 40 := ⟨by decide +kernel, rfl⟩
set_option maxRecDepth 100000 in
theorem d_School_init_40 : Dc m_School_init 40 (.iconst 0) 1 41 := ⟨by decide +kernel, rfl⟩
set_option maxRecDepth 100000 in
theorem d_School_init_41 : Dc m_School_init 41 (.putfield 25) 3 44 := ⟨by decide +kernel, rfl⟩
set_option maxRecDepth 100000 in
theorem d_School_init_44 : Dc m_School_init 44 (.aload_n 0) 1 45 := ⟨by decide +kernel, rfl⟩
set_option maxRecDepth 100000 in
theorem d_School_init_45 : Dc m_School_init 45 (.iconst 1) 1 46 := ⟨by decide +kernel, rfl⟩
set_option maxRecDepth 100000 in
theorem d_School_init_46 : Dc m_School_init 46 (.putfield 28) 3 49 := ⟨by decide +kernel, rfl⟩
set_option maxRecDepth 100000 in
theorem d_School_init_49 : Dc m_School_init 49 (.aload_n 0) 1 50 := ⟨by decide +kernel, rfl⟩
set_option maxRecDepth 100000 in
theorem d_School_init_50 : Dc m_School_init 50 (.new 31) 3 53 := ⟨by decide +kernel, rfl⟩
set_option maxRecDepth 100000 in
theorem d_School_init_53 : Dc m_School_init 53 .dup 1 54 := ⟨by decide +kernel, rfl⟩
set_option maxRecDepth 100000 in
theorem d_School_init_54 : Dc m_School_init 54 (.invokespecial 33) 3 57 := ⟨by decide +kernel, rfl⟩
set_option maxRecDepth 100000 in
theorem d_School_init_57 : Dc m_School_init 57 (.putfield 34) 3 60 := ⟨by decide +kernel, rfl⟩
set_option maxRecDepth 100000 in
theorem d_School_init_60 : Dc m_School_init 60 (.iconst 0) 1 61 := ⟨by decide +kernel, rfl⟩
set_option maxRecDepth 100000 in
theorem d_School_init_61 : Dc m_School_init 61 (.istore_n 1) 1 62 := ⟨by decide +kernel, rfl⟩
set_option maxRecDepth 100000 in
theorem d_School_init_62 : Dc m_School_init 62 (.iload_n 1) 1 63 := ⟨by decide +kernel, rfl⟩
set_option maxRecDepth 100000 in
theorem d_School_init_63 : Dc m_School_init 63 (.iconst 4) 1 64 := ⟨by decide +kernel, rfl⟩
set_option maxRecDepth 100000 in
theorem d_School_init_64 : Dj m_School_init 64 (.if_icmp .ge) 67 86 := ⟨22, by decide +kernel, rfl, by decide⟩
set_option maxRecDepth 100000 in
theorem d_School_init_67 : Dc m_School_init 67 (.aload_n 0) 1 68 := ⟨by decide +kernel, rfl⟩
set_option maxRecDepth 100000 in
theorem d_School_init_68 : Dc m_School_init 68 (.getfield 11) 3 71 := ⟨by decide +kernel, rfl⟩
set_option maxRecDepth 100000 in
theorem d_School_init_71 : Dc m_School_init 71 (.iload_n 1) 1 72 := ⟨by decide +kernel, rfl⟩
set_option maxRecDepth 100000 in
theorem d_School_init_72 : Dc m_School_init 72 (.new 9) 3 75 := ⟨by decide +kernel, rfl⟩
set_option maxRecDepth 100000 in
theorem d_School_init_75 : Dc m_School_init 75 .dup 1 76 := ⟨by decide +kernel, rfl⟩
set_option maxRecDepth 100000 in
theorem d_School_init_76 : Dc m_School_init 76 (.invokespecial 38) 3 79 := ⟨by decide +kernel, rfl⟩
set_option maxRecDepth 100000 in
theorem d_School_init_79 : Dc m_School_init 79 .aastore 1 80 := ⟨by decide +kernel, rfl⟩
set_option maxRecDepth 100000 in
theorem d_School_init_80 : Dc m_School_init 80 (.iinc 1 (1)) 3 83 := ⟨by decide +kernel, rfl⟩
set_option maxRecDepth 100000 in
theorem d_School_init_83 : Dj m_School_init 83 .goto 86 62 := ⟨-21, by decide +kernel, rfl, by decide⟩
set_option maxRecDepth 100000 in
theorem d_School_init_86 : Dc m_School_init 86 .return_ 1 87 := ⟨by decide +kernel, rfl⟩
set_option maxRecDepth 100000 in
theorem d_School_learnerAt_0 : Dc m_School_learnerAt 0 (.iload_n 1) 1 1 := ⟨by decide +kernel, rfl⟩
set_option maxRecDepth 100000 in
theorem d_School_learnerAt_1 : Dj m_School_learnerAt 1 (.ifCond .lt) 4 12 := ⟨11, by decide +kernel, rfl, by decide⟩
set_option maxRecDepth 100000 in
theorem d_School_learnerAt_4 : Dc m_School_learnerAt 4 (.iload_n 1) 1 5 := ⟨by decide +kernel, rfl⟩
set_option maxRecDepth 100000 in
theorem d_School_learnerAt_5 : Dc m_School_learnerAt 5 (.aload_n 0) 1 6 := ⟨by decide +kernel, rfl⟩
set_option maxRecDepth 100000 in
theorem d_School_learnerAt_6 : Dc m_School_learnerAt 6 (.getfield 17) 3 9 := ⟨by decide +kernel, rfl⟩
set_option maxRecDepth 100000 in
theorem d_School_learnerAt_9 : Dj m_School_learnerAt 9 (.if_icmp .lt) 12 16 := ⟨7, by decide +kernel, rfl, by decide⟩
set_option maxRecDepth 100000 in
theorem d_School_learnerAt_12 : Dc m_School_learnerAt 12 .aconst_null 1 13 := ⟨by decide +kernel, rfl⟩
set_option maxRecDepth 100000 in
theorem d_School_learnerAt_13 : Dj m_School_learnerAt 13 .goto 16 22 := ⟨9, by decide +kernel, rfl, by decide⟩
set_option maxRecDepth 100000 in
theorem d_School_learnerAt_16 : Dc m_School_learnerAt 16 (.aload_n 0) 1 17 := ⟨by decide +kernel, rfl⟩
set_option maxRecDepth 100000 in
theorem d_School_learnerAt_17 : Dc m_School_learnerAt 17 (.getfield 11) 3 20 := ⟨by decide +kernel, rfl⟩
set_option maxRecDepth 100000 in
theorem d_School_learnerAt_20 : Dc m_School_learnerAt 20 (.iload_n 1) 1 21 := ⟨by decide +kernel, rfl⟩
set_option maxRecDepth 100000 in
theorem d_School_learnerAt_21 : Dc m_School_learnerAt 21 .aaload 1 22 := ⟨by decide +kernel, rfl⟩
set_option maxRecDepth 100000 in
theorem d_School_learnerAt_22 : Dc m_School_learnerAt 22 .areturn 1 23 := ⟨by decide +kernel, rfl⟩
set_option maxRecDepth 100000 in
theorem d_School_admit_0 : Dc m_School_admit 0 (.aload_n 0) 1 1 := ⟨by decide +kernel, rfl⟩
set_option maxRecDepth 100000 in
theorem d_School_admit_1 : Dc m_School_admit 1 (.getfield 17) 3 4 := ⟨by decide +kernel, rfl⟩
set_option maxRecDepth 100000 in
theorem d_School_admit_4 : Dc m_School_admit 4 (.istore_n 3) 1 5 := ⟨by decide +kernel, rfl⟩
set_option maxRecDepth 100000 in
theorem d_School_admit_5 : Dc m_School_admit 5 (.aload_n 0) 1 6 := ⟨by decide +kernel, rfl⟩
set_option maxRecDepth 100000 in
theorem d_School_admit_6 : Dc m_School_admit 6 (.getfield 11) 3 9 := ⟨by decide +kernel, rfl⟩
set_option maxRecDepth 100000 in
theorem d_School_admit_9 : Dc m_School_admit 9 (.iload_n 3) 1 10 := ⟨by decide +kernel, rfl⟩
set_option maxRecDepth 100000 in
theorem d_School_admit_10 : Dc m_School_admit 10 .aaload 1 11 := ⟨by decide +kernel, rfl⟩
set_option maxRecDepth 100000 in
theorem d_School_admit_11 : Dc m_School_admit 11 (.iload_n 1) 1 12 := ⟨by decide +kernel, rfl⟩
set_option maxRecDepth 100000 in
theorem d_School_admit_12 : Dc m_School_admit 12 (.iload_n 2) 1 13 := ⟨by decide +kernel, rfl⟩
set_option maxRecDepth 100000 in
theorem d_School_admit_13 : Dc m_School_admit 13 (.invokevirtual 39) 3 16 := ⟨by decide +kernel, rfl⟩
set_option maxRecDepth 100000 in
theorem d_School_admit_16 : Dc m_School_admit 16 (.aload_n 0) 1 17 := ⟨by decide +kernel, rfl⟩
set_option maxRecDepth 100000 in
theorem d_School_admit_17 : Dc m_School_admit 17 .dup 1 18 := ⟨by decide +kernel, rfl⟩
set_option maxRecDepth 100000 in
theorem d_School_admit_18 : Dc m_School_admit 18 (.getfield 17) 3 21 := ⟨by decide +kernel, rfl⟩
set_option maxRecDepth 100000 in
theorem d_School_admit_21 : Dc m_School_admit 21 (.iconst 1) 1 22 := ⟨by decide +kernel, rfl⟩
set_option maxRecDepth 100000 in
theorem d_School_admit_22 : Dc m_School_admit 22 .iadd 1 23 := ⟨by decide +kernel, rfl⟩
set_option maxRecDepth 100000 in
theorem d_School_admit_23 : Dc m_School_admit 23 (.putfield 17) 3 26 := ⟨by decide +kernel, rfl⟩
set_option maxRecDepth 100000 in
theorem d_School_admit_26 : Dc m_School_admit 26 (.iload_n 3) 1 27 := ⟨by decide +kernel, rfl⟩
set_option maxRecDepth 100000 in
theorem d_School_admit_27 : Dc m_School_admit 27 .ireturn 1 28 := ⟨by decide +kernel, rfl⟩
set_option maxRecDepth 100000 in
theorem d_School_rest_0 : Dc m_School_rest 0 (.iconst 0) 1 1 := ⟨by decide +kernel, rfl⟩
set_option maxRecDepth 100000 in
theorem d_School_rest_1 : Dc m_School_rest 1 (.istore_n 2) 1 2 := ⟨by decide +kernel, rfl⟩
set_option maxRecDepth 100000 in
theorem d_School_rest_2 : Dc m_School_rest 2 (.iload_n 2) 1 3 := ⟨by decide +kernel, rfl⟩
set_option maxRecDepth 100000 in
theorem d_School_rest_3 : Dc m_School_rest 3 (.aload_n 0) 1 4 := ⟨by decide +kernel, rfl⟩
set_option maxRecDepth 100000 in
theorem d_School_rest_4 : Dc m_School_rest 4 (.getfield 17) 3 7 := ⟨by decide +kernel, rfl⟩
set_option maxRecDepth 100000 in
theorem d_School_rest_7 : Dj m_School_rest 7 (.if_icmp .ge) 10 32 := ⟨25, by decide +kernel, rfl, by decide⟩
set_option maxRecDepth 100000 in
theorem d_School_rest_10 : Dc m_School_rest 10 (.aload_n 0) 1 11 := ⟨by decide +kernel, rfl⟩
set_option maxRecDepth 100000 in
theorem d_School_rest_11 : Dc m_School_rest 11 (.getfield 11) 3 14 := ⟨by decide +kernel, rfl⟩
set_option maxRecDepth 100000 in
theorem d_School_rest_14 : Dc m_School_rest 14 (.iload_n 2) 1 15 := ⟨by decide +kernel, rfl⟩
set_option maxRecDepth 100000 in
theorem d_School_rest_15 : Dc m_School_rest 15 .aaload 1 16 := ⟨by decide +kernel, rfl⟩
set_option maxRecDepth 100000 in
theorem d_School_rest_16 : Dc m_School_rest 16 (.iload_n 1) 1 17 := ⟨by decide +kernel, rfl⟩
set_option maxRecDepth 100000 in
theorem d_School_rest_17 : Dc m_School_rest 17 (.aload_n 0) 1 18 := ⟨by decide +kernel, rfl⟩
set_option maxRecDepth 100000 in
theorem d_School_rest_18 : Dc m_School_rest 18 (.getfield 21) 3 21 := ⟨by decide +kernel, rfl⟩
set_option maxRecDepth 100000 in
theorem d_School_rest_21 : Dc m_School_rest 21 (.iconst 0) 1 22 := ⟨by decide +kernel, rfl⟩
set_option maxRecDepth 100000 in
theorem d_School_rest_22 : Dc m_School_rest 22 .iaload 1 23 := ⟨by decide +kernel, rfl⟩
set_option maxRecDepth 100000 in
theorem d_School_rest_23 : Dc m_School_rest 23 (.invokevirtual 43) 3 26 := ⟨by decide +kernel, rfl⟩
set_option maxRecDepth 100000 in
theorem d_School_rest_26 : Dc m_School_rest 26 (.iinc 2 (1)) 3 29 := ⟨by decide +kernel, rfl⟩
set_option maxRecDepth 100000 in
theorem d_School_rest_29 : Dj m_School_rest 29 .goto 32 2 := ⟨-27, by decide +kernel, rfl, by decide⟩
set_option maxRecDepth 100000 in
theorem d_School_rest_32 : Dc m_School_rest 32 (.aload_n 0) 1 33 := ⟨by decide +kernel, rfl⟩
set_option maxRecDepth 100000 in
theorem d_School_rest_33 : Dc m_School_rest 33 .dup 1 34 := ⟨by decide +kernel, rfl⟩
set_option maxRecDepth 100000 in
theorem d_School_rest_34 : Dc m_School_rest 34 (.getfield 25) 3 37 := ⟨by decide +kernel, rfl⟩
set_option maxRecDepth 100000 in
theorem d_School_rest_37 : Dc m_School_rest 37 (.iload_n 1) 1 38 := ⟨by decide +kernel, rfl⟩
set_option maxRecDepth 100000 in
theorem d_School_rest_38 : Dc m_School_rest 38 .iadd 1 39 := ⟨by decide +kernel, rfl⟩
set_option maxRecDepth 100000 in
theorem d_School_rest_39 : Dc m_School_rest 39 (.putfield 25) 3 42 := ⟨by decide +kernel, rfl⟩
set_option maxRecDepth 100000 in
theorem d_School_rest_42 : Dc m_School_rest 42 .return_ 1 43 := ⟨by decide +kernel, rfl⟩
set_option maxRecDepth 100000 in
theorem d_School_copyFrom_0 : Dc m_School_copyFrom 0 (.aload_n 0) 1 1 := ⟨by decide +kernel, rfl⟩
set_option maxRecDepth 100000 in
theorem d_School_copyFrom_1 : Dc m_School_copyFrom 1 (.aload_n 1) 1 2 := ⟨by decide +kernel, rfl⟩
set_option maxRecDepth 100000 in
theorem d_School_copyFrom_2 : Dc m_School_copyFrom 2 (.getfield 17) 3 5 := ⟨by decide +kernel, rfl⟩
set_option maxRecDepth 100000 in
theorem d_School_copyFrom_5 : Dc m_School_copyFrom 5 (.putfield 17) 3 8 := ⟨by decide +kernel, rfl⟩
set_option maxRecDepth 100000 in
theorem d_School_copyFrom_8 : Dc m_School_copyFrom 8 (.iconst 0) 1 9 := ⟨by decide +kernel, rfl⟩
set_option maxRecDepth 100000 in
theorem d_School_copyFrom_9 : Dc m_School_copyFrom 9 (.istore_n 2) 1 10 := ⟨by decide +kernel, rfl⟩
set_option maxRecDepth 100000 in
theorem d_School_copyFrom_10 : Dc m_School_copyFrom 10 (.iload_n 2) 1 11 := ⟨by decide +kernel, rfl⟩
set_option maxRecDepth 100000 in
theorem d_School_copyFrom_11 : Dc m_School_copyFrom 11 (.aload_n 0) 1 12 := ⟨by decide +kernel, rfl⟩
set_option maxRecDepth 100000 in
theorem d_School_copyFrom_12 : Dc m_School_copyFrom 12 (.getfield 17) 3 15 := ⟨by decide +kernel, rfl⟩
set_option maxRecDepth 100000 in
theorem d_School_copyFrom_15 : Dj m_School_copyFrom 15 (.if_icmp .ge) 18 39 := ⟨24, by decide +kernel, rfl, by decide⟩
set_option maxRecDepth 100000 in
theorem d_School_copyFrom_18 : Dc m_School_copyFrom 18 (.aload_n 0) 1 19 := ⟨by decide +kernel, rfl⟩
set_option maxRecDepth 100000 in
theorem d_School_copyFrom_19 : Dc m_School_copyFrom 19 (.getfield 11) 3 22 := ⟨by decide +kernel, rfl⟩
set_option maxRecDepth 100000 in
theorem d_School_copyFrom_22 : Dc m_School_copyFrom 22 (.iload_n 2) 1 23 := ⟨by decide +kernel, rfl⟩
set_option maxRecDepth 100000 in
theorem d_School_copyFrom_23 : Dc m_School_copyFrom 23 .aaload 1 24 := ⟨by decide +kernel, rfl⟩
set_option maxRecDepth 100000 in
theorem d_School_copyFrom_24 : Dc m_School_copyFrom 24 (.aload_n 1) 1 25 := ⟨by decide +kernel, rfl⟩
set_option maxRecDepth 100000 in
theorem d_School_copyFrom_25 : Dc m_School_copyFrom 25 (.getfield 11) 3 28 := ⟨by decide +kernel, rfl⟩
set_option maxRecDepth 100000 in
theorem d_School_copyFrom_28 : Dc m_School_copyFrom 28 (.iload_n 2) 1 29 := ⟨by decide +kernel, rfl⟩
set_option maxRecDepth 100000 in
theorem d_School_copyFrom_29 : Dc m_School_copyFrom 29 .aaload 1 30 := ⟨by decide +kernel, rfl⟩
set_option maxRecDepth 100000 in
theorem d_School_copyFrom_30 : Dc m_School_copyFrom 30 (.invokevirtual 46) 3 33 := ⟨by decide +kernel, rfl⟩
set_option maxRecDepth 100000 in
theorem d_School_copyFrom_33 : Dc m_School_copyFrom 33 (.iinc 2 (1)) 3 36 := ⟨by decide +kernel, rfl⟩
set_option maxRecDepth 100000 in
theorem d_School_copyFrom_36 : Dj m_School_copyFrom 36 .goto 39 10 := ⟨-26, by decide +kernel, rfl, by decide⟩
set_option maxRecDepth 100000 in
theorem d_School_copyFrom_39 : Dc m_School_copyFrom 39 (.aload_n 1) 1 40 := ⟨by decide +kernel, rfl⟩
set_option maxRecDepth 100000 in
theorem d_School_copyFrom_40 : Dc m_School_copyFrom 40 (.getfield 21) 3 43 := ⟨by decide +kernel, rfl⟩
set_option maxRecDepth 100000 in
theorem d_School_copyFrom_43 : Dc m_School_copyFrom 43 (.iconst 0) 1 44 := ⟨by decide +kernel, rfl⟩
set_option maxRecDepth 100000 in
theorem d_School_copyFrom_44 : Dc m_School_copyFrom 44 (.aload_n 0) 1 45 := ⟨by decide +kernel, rfl⟩
set_option maxRecDepth 100000 in
theorem d_School_copyFrom_45 : Dc m_School_copyFrom 45 (.getfield 21) 3 48 := ⟨by decide +kernel, rfl⟩
set_option maxRecDepth 100000 in
theorem d_School_copyFrom_48 : Dc m_School_copyFrom 48 (.iconst 0) 1 49 := ⟨by decide +kernel, rfl⟩
set_option maxRecDepth 100000 in
theorem d_School_copyFrom_49 : Dc m_School_copyFrom 49 (.iconst 3) 1 50 := ⟨by decide +kernel, rfl⟩
set_option maxRecDepth 100000 in
theorem d_School_copyFrom_50 : Dc m_School_copyFrom 50 (.invokestatic 50) 3 53 := ⟨by decide +kernel, rfl⟩
set_option maxRecDepth 100000 in
theorem d_School_copyFrom_53 : Dc m_School_copyFrom 53 (.aload_n 0) 1 54 := ⟨by decide +kernel, rfl⟩
set_option maxRecDepth 100000 in
theorem d_School_copyFrom_54 : Dc m_School_copyFrom 54 (.aload_n 1) 1 55 := ⟨by decide +kernel, rfl⟩
set_option maxRecDepth 100000 in
theorem d_School_copyFrom_55 : Dc m_School_copyFrom 55 (.getfield 25) 3 58 := ⟨by decide +kernel, rfl⟩
set_option maxRecDepth 100000 in
theorem d_School_copyFrom_58 : Dc m_School_copyFrom 58 (.putfield 25) 3 61 := ⟨by decide +kernel, rfl⟩
set_option maxRecDepth 100000 in
theorem d_School_copyFrom_61 : Dc m_School_copyFrom 61 (.aload_n 0) 1 62 := ⟨by decide +kernel, rfl⟩
set_option maxRecDepth 100000 in
theorem d_School_copyFrom_62 : Dc m_School_copyFrom 62 (.aload_n 1) 1 63 := ⟨by decide +kernel, rfl⟩
set_option maxRecDepth 100000 in
theorem d_School_copyFrom_63 : Dc m_School_copyFrom 63 (.getfield 28) 3 66 := ⟨by decide +kernel, rfl⟩
set_option maxRecDepth 100000 in
theorem d_School_copyFrom_66 : Dc m_School_copyFrom 66 (.putfield 28) 3 69 := ⟨by decide +kernel, rfl⟩
set_option maxRecDepth 100000 in
theorem d_School_copyFrom_69 : Dc m_School_copyFrom 69 (.aload_n 0) 1 70 := ⟨by decide +kernel, rfl⟩
set_option maxRecDepth 100000 in
theorem d_School_copyFrom_70 : Dc m_School_copyFrom 70 (.getfield 34) 3 73 := ⟨by decide +kernel, rfl⟩
set_option maxRecDepth 100000 in
theorem d_School_copyFrom_73 : Dc m_School_copyFrom 73 (.aload_n 1) 1 74 := ⟨by decide +kernel, rfl⟩
set_option maxRecDepth 100000 in
theorem d_School_copyFrom_74 : Dc m_School_copyFrom 74 (.getfield 34) 3 77 := ⟨by decide +kernel, rfl⟩
set_option maxRecDepth 100000 in
theorem d_School_copyFrom_77 : Dc m_School_copyFrom 77 (.invokevirtual 56) 3 80 := ⟨by decide +kernel, rfl⟩
set_option maxRecDepth 100000 in
theorem d_School_copyFrom_80 : Dc m_School_copyFrom 80 .return_ 1 81 := ⟨by decide +kernel, rfl⟩
set_option maxRecDepth 100000 in
theorem d_Sheet_init_0 : Dc m_Sheet_init 0 (.aload_n 0) 1 1 := ⟨by decide +kernel, rfl⟩
set_option maxRecDepth 100000 in
theorem d_Sheet_init_1 : Dc m_Sheet_init 1 (.invokespecial 3) 3 4 := ⟨by decide +kernel, rfl⟩
set_option maxRecDepth 100000 in
theorem d_Sheet_init_4 : Dc m_Sheet_init 4 (.aload_n 0) 1 5 := ⟨by decide +kernel, rfl⟩
set_option maxRecDepth 100000 in
theorem d_Sheet_init_5 : Dc m_Sheet_init 5 (.iconst (-1)) 1 6 := ⟨by decide +kernel, rfl⟩
set_option maxRecDepth 100000 in
theorem d_Sheet_init_6 : Dc m_Sheet_init 6 (.putfield 9) 3 9 := ⟨by decide +kernel, rfl⟩
set_option maxRecDepth 100000 in
theorem d_Sheet_init_9 : Dc m_Sheet_init 9 (.aload_n 0) 1 10 := ⟨by decide +kernel, rfl⟩
set_option maxRecDepth 100000 in
theorem d_Sheet_init_10 : Dc m_Sheet_init 10 (.iconst 0) 1 11 := ⟨by decide +kernel, rfl⟩
set_option maxRecDepth 100000 in
theorem d_Sheet_init_11 : Dc m_Sheet_init 11 (.putfield 15) 3 14 := ⟨by decide +kernel, rfl⟩
set_option maxRecDepth 100000 in
theorem d_Sheet_init_14 : Dc m_Sheet_init 14 (.aload_n 0) 1 15 := ⟨by decide +kernel, rfl⟩
set_option maxRecDepth 100000 in
theorem d_Sheet_init_15 : Dc m_Sheet_init 15 (.bipush (40)) 2 17 := ⟨by decide +kernel, rfl⟩
set_option maxRecDepth 100000 in
theorem d_Sheet_init_17 : Dc m_Sheet_init 17 (.newarray .long) 2 19 := ⟨by decide +kernel, rfl⟩
set_option maxRecDepth 100000 in
theorem d_Sheet_init_19 : Dc m_Sheet_init 19 (.putfield 18) 3 22 := ⟨by decide +kernel, rfl⟩
set_option maxRecDepth 100000 in
theorem d_Sheet_init_22 : Dc m_Sheet_init 22 .return_ 1 23 := ⟨by decide +kernel, rfl⟩
set_option maxRecDepth 100000 in
theorem d_Sheet_isMissing_0 : Dc m_Sheet_isMissing 0 (.aload_n 0) 1 1 := ⟨by decide +kernel, rfl⟩
set_option maxRecDepth 100000 in
theorem d_Sheet_isMissing_1 : Dc m_Sheet_isMissing 1 (.getfield 9) 3 4 := ⟨by decide +kernel, rfl⟩
set_option maxRecDepth 100000 in
theorem d_Sheet_isMissing_4 : Dc m_Sheet_isMissing 4 (.iconst (-1)) 1 5 := ⟨by decide +kernel, rfl⟩
set_option maxRecDepth 100000 in
theorem d_Sheet_isMissing_5 : Dj m_Sheet_isMissing 5 (.if_icmp .ne) 8 12 := ⟨7, by decide +kernel, rfl, by decide⟩
set_option maxRecDepth 100000 in
theorem d_Sheet_isMissing_8 : Dc m_Sheet_isMissing 8 (.iconst 1) 1 9 := ⟨by decide +kernel, rfl⟩
set_option maxRecDepth 100000 in
theorem d_Sheet_isMissing_9 : Dj m_Sheet_isMissing 9 .goto 12 13 := ⟨4, by decide +kernel, rfl, by decide⟩
set_option maxRecDepth 100000 in
theorem d_Sheet_isMissing_12 : Dc m_Sheet_isMissing 12 (.iconst 0) 1 13 := ⟨by decide +kernel, rfl⟩
set_option maxRecDepth 100000 in
theorem d_Sheet_isMissing_13 : Dc m_Sheet_isMissing 13 .ireturn 1 14 := ⟨by decide +kernel, rfl⟩
set_option maxRecDepth 100000 in
theorem d_Sheet_lose_0 : Dc m_Sheet_lose 0 (.aload_n 0) 1 1 := ⟨by decide +kernel, rfl⟩
set_option maxRecDepth 100000 in
theorem d_Sheet_lose_1 : Dc m_Sheet_lose 1 (.iconst (-1)) 1 2 := ⟨by decide +kernel, rfl⟩
set_option maxRecDepth 100000 in
theorem d_Sheet_lose_2 : Dc m_Sheet_lose 2 (.putfield 9) 3 5 := ⟨by decide +kernel, rfl⟩
set_option maxRecDepth 100000 in
theorem d_Sheet_lose_5 : Dc m_Sheet_lose 5 (.aload_n 0) 1 6 := ⟨by decide +kernel, rfl⟩
set_option maxRecDepth 100000 in
theorem d_Sheet_lose_6 : Dc m_Sheet_lose 6 (.iconst 0) 1 7 := ⟨by decide +kernel, rfl⟩
set_option maxRecDepth 100000 in
theorem d_Sheet_lose_7 : Dc m_Sheet_lose 7 (.putfield 15) 3 10 := ⟨by decide +kernel, rfl⟩
set_option maxRecDepth 100000 in
theorem d_Sheet_lose_10 : Dc m_Sheet_lose 10 .return_ 1 11 := ⟨by decide +kernel, rfl⟩
set_option maxRecDepth 100000 in
theorem d_Sheet_become_0 : Dc m_Sheet_become 0 (.aload_n 0) 1 1 := ⟨by decide +kernel, rfl⟩
set_option maxRecDepth 100000 in
theorem d_Sheet_become_1 : Dc m_Sheet_become 1 (.iload_n 1) 1 2 := ⟨by decide +kernel, rfl⟩
set_option maxRecDepth 100000 in
theorem d_Sheet_become_2 : Dc m_Sheet_become 2 (.putfield 9) 3 5 := ⟨by decide +kernel, rfl⟩
set_option maxRecDepth 100000 in
theorem d_Sheet_become_5 : Dc m_Sheet_become 5 (.aload_n 0) 1 6 := ⟨by decide +kernel, rfl⟩
set_option maxRecDepth 100000 in
theorem d_Sheet_become_6 : Dc m_Sheet_become 6 (.iload_n 2) 1 7 := ⟨by decide +kernel, rfl⟩
set_option maxRecDepth 100000 in
theorem d_Sheet_become_7 : Dc m_Sheet_become 7 (.putfield 15) 3 10 := ⟨by decide +kernel, rfl⟩
set_option maxRecDepth 100000 in
theorem d_Sheet_become_10 : Dc m_Sheet_become 10 (.iconst 0) 1 11 := ⟨by decide +kernel, rfl⟩
set_option maxRecDepth 100000 in
theorem d_Sheet_become_11 : Dc m_Sheet_become 11 (.istore_n 3) 1 12 := ⟨by decide +kernel, rfl⟩
set_option maxRecDepth 100000 in
theorem d_Sheet_become_12 : Dc m_Sheet_become 12 (.iload_n 3) 1 13 := ⟨by decide +kernel, rfl⟩
set_option maxRecDepth 100000 in
theorem d_Sheet_become_13 : Dc m_Sheet_become 13 (.bipush (40)) 2 15 := ⟨by decide +kernel, rfl⟩
set_option maxRecDepth 100000 in
theorem d_Sheet_become_15 : Dj m_Sheet_become 15 (.if_icmp .ge) 18 31 := ⟨16, by decide +kernel, rfl, by decide⟩
set_option maxRecDepth 100000 in
theorem d_Sheet_become_18 : Dc m_Sheet_become 18 (.aload_n 0) 1 19 := ⟨by decide +kernel, rfl⟩
set_option maxRecDepth 100000 in
theorem d_Sheet_become_19 : Dc m_Sheet_become 19 (.getfield 18) 3 22 := ⟨by decide +kernel, rfl⟩
set_option maxRecDepth 100000 in
theorem d_Sheet_become_22 : Dc m_Sheet_become 22 (.iload_n 3) 1 23 := ⟨by decide +kernel, rfl⟩
set_option maxRecDepth 100000 in
theorem d_Sheet_become_23 : Dc m_Sheet_become 23 (.lconst 0) 1 24 := ⟨by decide +kernel, rfl⟩
set_option maxRecDepth 100000 in
theorem d_Sheet_become_24 : Dc m_Sheet_become 24 .lastore 1 25 := ⟨by decide +kernel, rfl⟩
set_option maxRecDepth 100000 in
theorem d_Sheet_become_25 : Dc m_Sheet_become 25 (.iinc 3 (1)) 3 28 := ⟨by decide +kernel, rfl⟩
set_option maxRecDepth 100000 in
theorem d_Sheet_become_28 : Dj m_Sheet_become 28 .goto 31 12 := ⟨-16, by decide +kernel, rfl, by decide⟩
set_option maxRecDepth 100000 in
theorem d_Sheet_become_31 : Dc m_Sheet_become 31 .return_ 1 32 := ⟨by decide +kernel, rfl⟩
set_option maxRecDepth 100000 in
theorem d_Sheet_narrowed_0 : Dc m_Sheet_narrowed 0 (.aload_n 0) 1 1 := ⟨by decide +kernel, rfl⟩
set_option maxRecDepth 100000 in
theorem d_Sheet_narrowed_1 : Dc m_Sheet_narrowed 1 (.getfield 9) 3 4 := ⟨by decide +kernel, rfl⟩
set_option maxRecDepth 100000 in
theorem d_Sheet_narrowed_4 : Dj m_Sheet_narrowed 4 (.ifCond .ne) 7 11 := ⟨7, by decide +kernel, rfl, by decide⟩
set_option maxRecDepth 100000 in
theorem d_Sheet_narrowed_7 : Dc m_Sheet_narrowed 7 (.iload_n 1) 1 8 := ⟨by decide +kernel, rfl⟩
set_option maxRecDepth 100000 in
theorem d_Sheet_narrowed_8 : Dc m_Sheet_narrowed 8 .i2b 1 9 := ⟨by decide +kernel, rfl⟩
set_option maxRecDepth 100000 in
theorem d_Sheet_narrowed_9 : Dc m_Sheet_narrowed 9 .i2l 1 10 := ⟨by decide +kernel, rfl⟩
set_option maxRecDepth 100000 in
theorem d_Sheet_narrowed_10 : Dc m_Sheet_narrowed 10 .lreturn 1 11 := ⟨by decide +kernel, rfl⟩
set_option maxRecDepth 100000 in
theorem d_Sheet_narrowed_11 : Dc m_Sheet_narrowed 11 (.aload_n 0) 1 12 := ⟨by decide +kernel, rfl⟩
set_option maxRecDepth 100000 in
theorem d_Sheet_narrowed_12 : Dc m_Sheet_narrowed 12 (.getfield 9) 3 15 := ⟨by decide +kernel, rfl⟩
set_option maxRecDepth 100000 in
theorem d_Sheet_narrowed_15 : Dc m_Sheet_narrowed 15 (.iconst 1) 1 16 := ⟨by decide +kernel, rfl⟩
set_option maxRecDepth 100000 in
theorem d_Sheet_narrowed_16 : Dj m_Sheet_narrowed 16 (.if_icmp .ne) 19 23 := ⟨7, by decide +kernel, rfl, by decide⟩
set_option maxRecDepth 100000 in
theorem d_Sheet_narrowed_19 : Dc m_Sheet_narrowed 19 (.iload_n 1) 1 20 := ⟨by decide +kernel, rfl⟩
set_option maxRecDepth 100000 in
theorem d_Sheet_narrowed_20 : Dc m_Sheet_narrowed 20 .i2s 1 21 := ⟨by decide +kernel, rfl⟩
set_option maxRecDepth 100000 in
theorem d_Sheet_narrowed_21 : Dc m_Sheet_narrowed 21 .i2l 1 22 := ⟨by decide +kernel, rfl⟩
set_option maxRecDepth 100000 in
theorem d_Sheet_narrowed_22 : Dc m_Sheet_narrowed 22 .lreturn 1 23 := ⟨by decide +kernel, rfl⟩
set_option maxRecDepth 100000 in
theorem d_Sheet_narrowed_23 : Dc m_Sheet_narrowed 23 (.iload_n 1) 1 24 := ⟨by decide +kernel, rfl⟩
set_option maxRecDepth 100000 in
theorem d_Sheet_narrowed_24 : Dc m_Sheet_narrowed 24 .i2l 1 25 := ⟨by decide +kernel, rfl⟩
set_option maxRecDepth 100000 in
theorem d_Sheet_narrowed_25 : Dc m_Sheet_narrowed 25 .lreturn 1 26 := ⟨by decide +kernel, rfl⟩
set_option maxRecDepth 100000 in
theorem d_Shelf_init_0 : Dc m_Shelf_init 0 (.aload_n 0) 1 1 := ⟨by decide +kernel, rfl⟩
set_option maxRecDepth 100000 in
theorem d_Shelf_init_1 : Dc m_Shelf_init 1 (.invokespecial 3) 3 4 := ⟨by decide +kernel, rfl⟩
set_option maxRecDepth 100000 in
theorem d_Shelf_init_4 : Dc m_Shelf_init 4 (.aload_n 0) 1 5 := ⟨by decide +kernel, rfl⟩
set_option maxRecDepth 100000 in
theorem d_Shelf_init_5 : Dc m_Shelf_init 5 (.bipush (-9)) 2 7 := ⟨by decide +kernel, rfl⟩
set_option maxRecDepth 100000 in
theorem d_Shelf_init_7 : Dc m_Shelf_init 7 (.putfield 9) 3 10 := ⟨by decide +kernel, rfl⟩
set_option maxRecDepth 100000 in
theorem d_Shelf_init_10 : Dc m_Shelf_init 10 (.aload_n 0) 1 11 := ⟨by decide +kernel, rfl⟩
set_option maxRecDepth 100000 in
theorem d_Shelf_init_11 : Dc m_Shelf_init 11 (.iconst (-1)) 1 12 := ⟨by decide +kernel, rfl⟩
set_option maxRecDepth 100000 in
theorem d_Shelf_init_12 : Dc m_Shelf_init 12 (.putfield 15) 3 15 := ⟨by decide +kernel, rfl⟩
set_option maxRecDepth 100000 in
theorem d_Shelf_init_15 : Dc m_Shelf_init 15 (.aload_n 0) 1 16 := ⟨by decide +kernel, rfl⟩
set_option maxRecDepth 100000 in
theorem d_Shelf_init_16 : Dc m_Shelf_init 16 (.iconst 0) 1 17 := ⟨by decide +kernel, rfl⟩
set_option maxRecDepth 100000 in
theorem d_Shelf_init_17 : Dc m_Shelf_init 17 (.putfield 18) 3 20 := ⟨by decide +kernel, rfl⟩
set_option maxRecDepth 100000 in
theorem d_Shelf_init_20 : Dc m_Shelf_init 20 .return_ 1 21 := ⟨by decide +kernel, rfl⟩
set_option maxRecDepth 100000 in
theorem d_Shelf_holdsRow_0 : Dc m_Shelf_holdsRow 0 (.aload_n 0) 1 1 := ⟨by decide +kernel, rfl⟩
set_option maxRecDepth 100000 in
theorem d_Shelf_holdsRow_1 : Dc m_Shelf_holdsRow 1 (.getfield 15) 3 4 := ⟨by decide +kernel, rfl⟩
set_option maxRecDepth 100000 in
theorem d_Shelf_holdsRow_4 : Dc m_Shelf_holdsRow 4 (.iconst (-1)) 1 5 := ⟨by decide +kernel, rfl⟩
set_option maxRecDepth 100000 in
theorem d_Shelf_holdsRow_5 : Dj m_Shelf_holdsRow 5 (.if_icmp .eq) 8 12 := ⟨7, by decide +kernel, rfl, by decide⟩
set_option maxRecDepth 100000 in
theorem d_Shelf_holdsRow_8 : Dc m_Shelf_holdsRow 8 (.iconst 1) 1 9 := ⟨by decide +kernel, rfl⟩
set_option maxRecDepth 100000 in
theorem d_Shelf_holdsRow_9 : Dj m_Shelf_holdsRow 9 .goto 12 13 := ⟨4, by decide +kernel, rfl, by decide⟩
set_option maxRecDepth 100000 in
theorem d_Shelf_holdsRow_12 : Dc m_Shelf_holdsRow 12 (.iconst 0) 1 13 := ⟨by decide +kernel, rfl⟩
set_option maxRecDepth 100000 in
theorem d_Shelf_holdsRow_13 : Dc m_Shelf_holdsRow 13 .ireturn 1 14 := ⟨by decide +kernel, rfl⟩
set_option maxRecDepth 100000 in
theorem d_Shelf_holdNothing_0 : Dc m_Shelf_holdNothing 0 (.aload_n 0) 1 1 := ⟨by decide +kernel, rfl⟩
set_option maxRecDepth 100000 in
theorem d_Shelf_holdNothing_1 : Dc m_Shelf_holdNothing 1 (.bipush (-9)) 2 3 := ⟨by decide +kernel, rfl⟩
set_option maxRecDepth 100000 in
theorem d_Shelf_holdNothing_3 : Dc m_Shelf_holdNothing 3 (.putfield 9) 3 6 := ⟨by decide +kernel, rfl⟩
set_option maxRecDepth 100000 in
theorem d_Shelf_holdNothing_6 : Dc m_Shelf_holdNothing 6 (.aload_n 0) 1 7 := ⟨by decide +kernel, rfl⟩
set_option maxRecDepth 100000 in
theorem d_Shelf_holdNothing_7 : Dc m_Shelf_holdNothing 7 (.iconst (-1)) 1 8 := ⟨by decide +kernel, rfl⟩
set_option maxRecDepth 100000 in
theorem d_Shelf_holdNothing_8 : Dc m_Shelf_holdNothing 8 (.putfield 15) 3 11 := ⟨by decide +kernel, rfl⟩
set_option maxRecDepth 100000 in
theorem d_Shelf_holdNothing_11 : Dc m_Shelf_holdNothing 11 (.aload_n 0) 1 12 := ⟨by decide +kernel, rfl⟩
set_option maxRecDepth 100000 in
theorem d_Shelf_holdNothing_12 : Dc m_Shelf_holdNothing 12 (.iconst 0) 1 13 := ⟨by decide +kernel, rfl⟩
set_option maxRecDepth 100000 in
theorem d_Shelf_holdNothing_13 : Dc m_Shelf_holdNothing 13 (.putfield 18) 3 16 := ⟨by decide +kernel, rfl⟩
set_option maxRecDepth 100000 in
theorem d_Shelf_holdNothing_16 : Dc m_Shelf_holdNothing 16 .return_ 1 17 := ⟨by decide +kernel, rfl⟩
set_option maxRecDepth 100000 in
theorem d_Shelf_holdLearner_0 : Dc m_Shelf_holdLearner 0 (.aload_n 0) 1 1 := ⟨by decide +kernel, rfl⟩
set_option maxRecDepth 100000 in
theorem d_Shelf_holdLearner_1 : Dc m_Shelf_holdLearner 1 (.invokevirtual 21) 3 4 := ⟨by decide +kernel, rfl⟩
set_option maxRecDepth 100000 in
theorem d_Shelf_holdLearner_4 : Dc m_Shelf_holdLearner 4 (.aload_n 0) 1 5 := ⟨by decide +kernel, rfl⟩
set_option maxRecDepth 100000 in
theorem d_Shelf_holdLearner_5 : Dc m_Shelf_holdLearner 5 (.iload_n 1) 1 6 := ⟨by decide +kernel, rfl⟩
set_option maxRecDepth 100000 in
theorem d_Shelf_holdLearner_6 : Dc m_Shelf_holdLearner 6 (.putfield 9) 3 9 := ⟨by decide +kernel, rfl⟩
set_option maxRecDepth 100000 in
theorem d_Shelf_holdLearner_9 : Dc m_Shelf_holdLearner 9 .return_ 1 10 := ⟨by decide +kernel, rfl⟩
set_option maxRecDepth 100000 in
theorem d_Shelf_holdRow_0 : Dc m_Shelf_holdRow 0 (.aload_n 0) 1 1 := ⟨by decide +kernel, rfl⟩
set_option maxRecDepth 100000 in
theorem d_Shelf_holdRow_1 : Dc m_Shelf_holdRow 1 (.bipush (-9)) 2 3 := ⟨by decide +kernel, rfl⟩
set_option maxRecDepth 100000 in
theorem d_Shelf_holdRow_3 : Dc m_Shelf_holdRow 3 (.putfield 9) 3 6 := ⟨by decide +kernel, rfl⟩
set_option maxRecDepth 100000 in
theorem d_Shelf_holdRow_6 : Dc m_Shelf_holdRow 6 (.aload_n 0) 1 7 := ⟨by decide +kernel, rfl⟩
set_option maxRecDepth 100000 in
theorem d_Shelf_holdRow_7 : Dc m_Shelf_holdRow 7 (.aload_n 1) 1 8 := ⟨by decide +kernel, rfl⟩
set_option maxRecDepth 100000 in
theorem d_Shelf_holdRow_8 : Dc m_Shelf_holdRow 8 (.getfield 24) 3 11 := ⟨by decide +kernel, rfl⟩
set_option maxRecDepth 100000 in
theorem d_Shelf_holdRow_11 : Dc m_Shelf_holdRow 11 (.putfield 15) 3 14 := ⟨by decide +kernel, rfl⟩
set_option maxRecDepth 100000 in
theorem d_Shelf_holdRow_14 : Dc m_Shelf_holdRow 14 (.aload_n 0) 1 15 := ⟨by decide +kernel, rfl⟩
set_option maxRecDepth 100000 in
theorem d_Shelf_holdRow_15 : Dc m_Shelf_holdRow 15 (.aload_n 1) 1 16 := ⟨by decide +kernel, rfl⟩
set_option maxRecDepth 100000 in
theorem d_Shelf_holdRow_16 : Dc m_Shelf_holdRow 16 (.getfield 27) 3 19 := ⟨by decide +kernel, rfl⟩
set_option maxRecDepth 100000 in
theorem d_Shelf_holdRow_19 : Dc m_Shelf_holdRow 19 (.putfield 18) 3 22 := ⟨by decide +kernel, rfl⟩
set_option maxRecDepth 100000 in
theorem d_Shelf_holdRow_22 : Dc m_Shelf_holdRow 22 .return_ 1 23 := ⟨by decide +kernel, rfl⟩
set_option maxRecDepth 100000 in
theorem d_Text_init_0 : Dc m_Text_init 0 (.aload_n 0) 1 1 := ⟨by decide +kernel, rfl⟩
set_option maxRecDepth 100000 in
theorem d_Text_init_1 : Dc m_Text_init 1 (.invokespecial 3) 3 4 := ⟨by decide +kernel, rfl⟩
set_option maxRecDepth 100000 in
theorem d_Text_init_4 : Dc m_Text_init 4 (.aload_n 0) 1 5 := ⟨by decide +kernel, rfl⟩
set_option maxRecDepth 100000 in
theorem d_Text_init_5 : Dc m_Text_init 5 (.sipush (200)) 3 8 := ⟨by decide +kernel, rfl⟩
set_option maxRecDepth 100000 in
theorem d_Text_init_8 : Dc m_Text_init 8 (.newarray .byte) 2 10 := ⟨by decide +kernel, rfl⟩
set_option maxRecDepth 100000 in
theorem d_Text_init_10 : Dc m_Text_init 10 (.putfield 9) 3 13 := ⟨by decide +kernel, rfl⟩
set_option maxRecDepth 100000 in
theorem d_Text_init_13 : Dc m_Text_init 13 (.aload_n 0) 1 14 := ⟨by decide +kernel, rfl⟩
set_option maxRecDepth 100000 in
theorem d_Text_init_14 : Dc m_Text_init 14 (.iconst 0) 1 15 := ⟨by decide +kernel, rfl⟩
set_option maxRecDepth 100000 in
theorem d_Text_init_15 : Dc m_Text_init 15 (.putfield 15) 3 18 := ⟨by decide +kernel, rfl⟩
set_option maxRecDepth 100000 in
theorem d_Text_init_18 : Dc m_Text_init 18 (.aload_n 0) 1 19 := ⟨by decide +kernel, rfl⟩
set_option maxRecDepth 100000 in
theorem d_Text_init_19 : Dc m_Text_init 19 (.iconst 0) 1 20 := ⟨by decide +kernel, rfl⟩
set_option maxRecDepth 100000 in
theorem d_Text_init_20 : Dc m_Text_init 20 (.putfield 19) 3 23 := ⟨by decide +kernel, rfl⟩
set_option maxRecDepth 100000 in
theorem d_Text_init_23 : Dc m_Text_init 23 .return_ 1 24 := ⟨by decide +kernel, rfl⟩
set_option maxRecDepth 100000 in
theorem d_Text_append_0 : Dc m_Text_append 0 (.aload_n 0) 1 1 := ⟨by decide +kernel, rfl⟩
set_option maxRecDepth 100000 in
theorem d_Text_append_1 : Dc m_Text_append 1 (.getfield 15) 3 4 := ⟨by decide +kernel, rfl⟩
set_option maxRecDepth 100000 in
theorem d_Text_append_4 : Dc m_Text_append 4 (.sipush (200)) 3 7 := ⟨by decide +kernel, rfl⟩
set_option maxRecDepth 100000 in
theorem d_Text_append_7 : Dj m_Text_append 7 (.if_icmp .lt) 10 11 := ⟨4, by decide +kernel, rfl, by decide⟩
set_option maxRecDepth 100000 in
theorem d_Text_append_10 : Dc m_Text_append 10 .return_ 1 11 := ⟨by decide +kernel, rfl⟩
set_option maxRecDepth 100000 in
theorem d_Text_append_11 : Dc m_Text_append 11 (.aload_n 0) 1 12 := ⟨by decide +kernel, rfl⟩
set_option maxRecDepth 100000 in
theorem d_Text_append_12 : Dc m_Text_append 12 (.getfield 9) 3 15 := ⟨by decide +kernel, rfl⟩
set_option maxRecDepth 100000 in
theorem d_Text_append_15 : Dc m_Text_append 15 (.aload_n 0) 1 16 := ⟨by decide +kernel, rfl⟩
set_option maxRecDepth 100000 in
theorem d_Text_append_16 : Dc m_Text_append 16 (.getfield 15) 3 19 := ⟨by decide +kernel, rfl⟩
set_option maxRecDepth 100000 in
theorem d_Text_append_19 : Dc m_Text_append 19 (.iload_n 1) 1 20 := ⟨by decide +kernel, rfl⟩
set_option maxRecDepth 100000 in
theorem d_Text_append_20 : Dc m_Text_append 20 .bastore 1 21 := ⟨by decide +kernel, rfl⟩
set_option maxRecDepth 100000 in
theorem d_Text_append_21 : Dc m_Text_append 21 (.aload_n 0) 1 22 := ⟨by decide +kernel, rfl⟩
set_option maxRecDepth 100000 in
theorem d_Text_append_22 : Dc m_Text_append 22 .dup 1 23 := ⟨by decide +kernel, rfl⟩
set_option maxRecDepth 100000 in
theorem d_Text_append_23 : Dc m_Text_append 23 (.getfield 15) 3 26 := ⟨by decide +kernel, rfl⟩
set_option maxRecDepth 100000 in
theorem d_Text_append_26 : Dc m_Text_append 26 (.iconst 1) 1 27 := ⟨by decide +kernel, rfl⟩
set_option maxRecDepth 100000 in
theorem d_Text_append_27 : Dc m_Text_append 27 .iadd 1 28 := ⟨by decide +kernel, rfl⟩
set_option maxRecDepth 100000 in
theorem d_Text_append_28 : Dc m_Text_append 28 (.putfield 15) 3 31 := ⟨by decide +kernel, rfl⟩
set_option maxRecDepth 100000 in
theorem d_Text_append_31 : Dc m_Text_append 31 .return_ 1 32 := ⟨by decide +kernel, rfl⟩
set_option maxRecDepth 100000 in
theorem d_Text_readInto_0 : Dc m_Text_readInto 0 (.aload_n 1) 1 1 := ⟨by decide +kernel, rfl⟩
set_option maxRecDepth 100000 in
theorem d_Text_readInto_1 : Dc m_Text_readInto 1 (.iconst 0) 1 2 := ⟨by decide +kernel, rfl⟩
set_option maxRecDepth 100000 in
theorem d_Text_readInto_2 : Dc m_Text_readInto 2 (.putfield 22) 3 5 := ⟨by decide +kernel, rfl⟩
set_option maxRecDepth 100000 in
theorem d_Text_readInto_5 : Dc m_Text_readInto 5 (.aload_n 0) 1 6 := ⟨by decide +kernel, rfl⟩
set_option maxRecDepth 100000 in
theorem d_Text_readInto_6 : Dc m_Text_readInto 6 (.iconst 0) 1 7 := ⟨by decide +kernel, rfl⟩
set_option maxRecDepth 100000 in
theorem d_Text_readInto_7 : Dc m_Text_readInto 7 (.putfield 19) 3 10 := ⟨by decide +kernel, rfl⟩
set_option maxRecDepth 100000 in
theorem d_Text_readInto_10 : Dc m_Text_readInto 10 (.iconst 0) 1 11 := ⟨by decide +kernel, rfl⟩
set_option maxRecDepth 100000 in
theorem d_Text_readInto_11 : Dc m_Text_readInto 11 (.istore_n 2) 1 12 := ⟨by decide +kernel, rfl⟩
set_option maxRecDepth 100000 in
theorem d_Text_readInto_12 : Dc m_Text_readInto 12 (.iload_n 2) 1 13 := ⟨by decide +kernel, rfl⟩
set_option maxRecDepth 100000 in
theorem d_Text_readInto_13 : Dc m_Text_readInto 13 (.bipush (12)) 2 15 := ⟨by decide +kernel, rfl⟩
set_option maxRecDepth 100000 in
theorem d_Text_readInto_15 : Dj m_Text_readInto 15 (.if_icmp .ge) 18 51 := ⟨36, by decide +kernel, rfl, by decide⟩
set_option maxRecDepth 100000 in
theorem d_Text_readInto_18 : Dc m_Text_readInto 18 (.aload_n 0) 1 19 := ⟨by decide +kernel, rfl⟩
set_option maxRecDepth 100000 in
theorem d_Text_readInto_19 : Dc m_Text_readInto 19 (.invokevirtual 27) 3 22 := ⟨by decide +kernel, rfl⟩
set_option maxRecDepth 100000 in
theorem d_Text_readInto_22 : Dc m_Text_readInto 22 (.aload_n 0) 1 23 := ⟨by decide +kernel, rfl⟩
set_option maxRecDepth 100000 in
theorem d_Text_readInto_23 : Dc m_Text_readInto 23 (.getfield 19) 3 26 := ⟨by decide +kernel, rfl⟩
set_option maxRecDepth 100000 in
theorem d_Text_readInto_26 : Dc m_Text_readInto 26 (.aload_n 0) 1 27 := ⟨by decide +kernel, rfl⟩
set_option maxRecDepth 100000 in
theorem d_Text_readInto_27 : Dc m_Text_readInto 27 (.getfield 15) 3 30 := ⟨by decide +kernel, rfl⟩
set_option maxRecDepth 100000 in
theorem d_Text_readInto_30 : Dj m_Text_readInto 30 (.if_icmp .lt) 33 35 := ⟨5, by decide +kernel, rfl, by decide⟩
set_option maxRecDepth 100000 in
theorem d_Text_readInto_33 : Dc m_Text_readInto 33 (.iconst 1) 1 34 := ⟨by decide +kernel, rfl⟩
set_option maxRecDepth 100000 in
theorem d_Text_readInto_34 : Dc m_Text_readInto 34 .ireturn 1 35 := ⟨by decide +kernel, rfl⟩
set_option maxRecDepth 100000 in
theorem d_Text_readInto_35 : Dc m_Text_readInto 35 (.aload_n 0) 1 36 := ⟨by decide +kernel, rfl⟩
set_option maxRecDepth 100000 in
theorem d_Text_readInto_36 : Dc m_Text_readInto 36 (.aload_n 1) 1 37 := ⟨by decide +kernel, rfl⟩
set_option maxRecDepth 100000 in
theorem d_Text_readInto_37 : Dc m_Text_readInto 37 (.invokevirtual 30) 3 40 := ⟨by decide +kernel, rfl⟩
set_option maxRecDepth 100000 in
theorem d_Text_readInto_40 : Dj m_Text_readInto 40 (.ifCond .ne) 43 45 := ⟨5, by decide +kernel, rfl, by decide⟩
set_option maxRecDepth 100000 in
theorem d_Text_readInto_43 : Dc m_Text_readInto 43 (.iconst 0) 1 44 := ⟨by decide +kernel, rfl⟩
set_option maxRecDepth 100000 in
theorem d_Text_readInto_44 : Dc m_Text_readInto 44 .ireturn 1 45 := ⟨by decide +kernel, rfl⟩
set_option maxRecDepth 100000 in
theorem d_Text_readInto_45 : Dc m_Text_readInto 45 (.iinc 2 (1)) 3 48 := ⟨by decide +kernel, rfl⟩
set_option maxRecDepth 100000 in
theorem d_Text_readInto_48 : Dj m_Text_readInto 48 .goto 51 12 := ⟨-36, by decide +kernel, rfl, by decide⟩
set_option maxRecDepth 100000 in
theorem d_Text_readInto_51 : Dc m_Text_readInto 51 (.aload_n 0) 1 52 := ⟨by decide +kernel, rfl⟩
set_option maxRecDepth 100000 in
theorem d_Text_readInto_52 : Dc m_Text_readInto 52 (.invokevirtual 27) 3 55 := ⟨by decide +kernel, rfl⟩
set_option maxRecDepth 100000 in
theorem d_Text_readInto_55 : Dc m_Text_readInto 55 (.aload_n 0) 1 56 := ⟨by decide +kernel, rfl⟩
set_option maxRecDepth 100000 in
theorem d_Text_readInto_56 : Dc m_Text_readInto 56 (.getfield 19) 3 59 := ⟨by decide +kernel, rfl⟩
set_option maxRecDepth 100000 in
theorem d_Text_readInto_59 : Dc m_Text_readInto 59 (.aload_n 0) 1 60 := ⟨by decide +kernel, rfl⟩
set_option maxRecDepth 100000 in
theorem d_Text_readInto_60 : Dc m_Text_readInto 60 (.getfield 15) 3 63 := ⟨by decide +kernel, rfl⟩
set_option maxRecDepth 100000 in
theorem d_Text_readInto_63 : Dj m_Text_readInto 63 (.if_icmp .lt) 66 70 := ⟨7, by decide +kernel, rfl, by decide⟩
set_option maxRecDepth 100000 in
theorem d_Text_readInto_66 : Dc m_Text_readInto 66 (.iconst 1) 1 67 := ⟨by decide +kernel, rfl⟩
set_option maxRecDepth 100000 in
theorem d_Text_readInto_67 : Dj m_Text_readInto 67 .goto 70 71 := ⟨4, by decide +kernel, rfl, by decide⟩
set_option maxRecDepth 100000 in
theorem d_Text_readInto_70 : Dc m_Text_readInto 70 (.iconst 0) 1 71 := ⟨by decide +kernel, rfl⟩
set_option maxRecDepth 100000 in
theorem d_Text_readInto_71 : Dc m_Text_readInto 71 .ireturn 1 72 := ⟨by decide +kernel, rfl⟩
set_option maxRecDepth 100000 in
theorem d_Text_readItem_0 : Dc m_Text_readItem 0 (.aload_n 0) 1 1 := ⟨by decide +kernel, rfl⟩
set_option maxRecDepth 100000 in
theorem d_Text_readItem_1 : Dc m_Text_readItem 1 (.ldc 34) 2 3 := ⟨by decide +kernel, rfl⟩
set_option maxRecDepth 100000 in
theorem d_Text_readItem_3 : Dc m_Text_readItem 3 (.invokevirtual 36) 3 6 := ⟨by decide +kernel, rfl⟩
set_option maxRecDepth 100000 in
theorem d_Text_readItem_6 : Dj m_Text_readItem 6 (.ifCond .eq) 9 15 := ⟨9, by decide +kernel, rfl, by decide⟩
set_option maxRecDepth 100000 in
theorem d_Text_readItem_9 : Dc m_Text_readItem 9 (.aload_n 0) 1 10 := ⟨by decide +kernel, rfl⟩
set_option maxRecDepth 100000 in
theorem d_Text_readItem_10 : Dc m_Text_readItem 10 (.aload_n 1) 1 11 := ⟨by decide +kernel, rfl⟩
set_option maxRecDepth 100000 in
theorem d_Text_readItem_11 : Dc m_Text_readItem 11 (.invokevirtual 40) 3 14 := ⟨by decide +kernel, rfl⟩
set_option maxRecDepth 100000 in
theorem d_Text_readItem_14 : Dc m_Text_readItem 14 .ireturn 1 15 := ⟨by decide +kernel, rfl⟩
set_option maxRecDepth 100000 in
theorem d_Text_readItem_15 : Dc m_Text_readItem 15 (.aload_n 0) 1 16 := ⟨by decide +kernel, rfl⟩
set_option maxRecDepth 100000 in
theorem d_Text_readItem_16 : Dc m_Text_readItem 16 (.ldc 43) 2 18 := ⟨by decide +kernel, rfl⟩
set_option maxRecDepth 100000 in
theorem d_Text_readItem_18 : Dc m_Text_readItem 18 (.invokevirtual 36) 3 21 := ⟨by decide +kernel, rfl⟩
set_option maxRecDepth 100000 in
theorem d_Text_readItem_21 : Dj m_Text_readItem 21 (.ifCond .eq) 24 30 := ⟨9, by decide +kernel, rfl, by decide⟩
set_option maxRecDepth 100000 in
theorem d_Text_readItem_24 : Dc m_Text_readItem 24 (.aload_n 0) 1 25 := ⟨by decide +kernel, rfl⟩
set_option maxRecDepth 100000 in
theorem d_Text_readItem_25 : Dc m_Text_readItem 25 (.aload_n 1) 1 26 := ⟨by decide +kernel, rfl⟩
set_option maxRecDepth 100000 in
theorem d_Text_readItem_26 : Dc m_Text_readItem 26 (.invokevirtual 45) 3 29 := ⟨by decide +kernel, rfl⟩
set_option maxRecDepth 100000 in
theorem d_Text_readItem_29 : Dc m_Text_readItem 29 .ireturn 1 30 := ⟨by decide +kernel, rfl⟩
set_option maxRecDepth 100000 in
theorem d_Text_readItem_30 : Dc m_Text_readItem 30 (.aload_n 0) 1 31 := ⟨by decide +kernel, rfl⟩
set_option maxRecDepth 100000 in
theorem d_Text_readItem_31 : Dc m_Text_readItem 31 (.ldc 48) 2 33 := ⟨by decide +kernel, rfl⟩
set_option maxRecDepth 100000 in
theorem d_Text_readItem_33 : Dc m_Text_readItem 33 (.invokevirtual 36) 3 36 := ⟨by decide +kernel, rfl⟩
set_option maxRecDepth 100000 in
theorem d_Text_readItem_36 : Dj m_Text_readItem 36 (.ifCond .eq) 39 45 := ⟨9, by decide +kernel, rfl, by decide⟩
set_option maxRecDepth 100000 in
theorem d_Text_readItem_39 : Dc m_Text_readItem 39 (.aload_n 0) 1 40 := ⟨by decide +kernel, rfl⟩
set_option maxRecDepth 100000 in
theorem d_Text_readItem_40 : Dc m_Text_readItem 40 (.aload_n 1) 1 41 := ⟨by decide +kernel, rfl⟩
set_option maxRecDepth 100000 in
theorem d_Text_readItem_41 : Dc m_Text_readItem 41 (.invokevirtual 50) 3 44 := ⟨by decide +kernel, rfl⟩
set_option maxRecDepth 100000 in
theorem d_Text_readItem_44 : Dc m_Text_readItem 44 .ireturn 1 45 := ⟨by decide +kernel, rfl⟩
set_option maxRecDepth 100000 in
theorem d_Text_readItem_45 : Dc m_Text_readItem 45 (.iconst 0) 1 46 := ⟨by decide +kernel, rfl⟩
set_option maxRecDepth 100000 in
theorem d_Text_readItem_46 : Dc m_Text_readItem 46 .ireturn 1 47 := ⟨by decide +kernel, rfl⟩
set_option maxRecDepth 100000 in
theorem d_Text_readAsk_0 : Dc m_Text_readAsk 0 (.aload_n 0) 1 1 := ⟨by decide +kernel, rfl⟩
set_option maxRecDepth 100000 in
theorem d_Text_readAsk_1 : Dc m_Text_readAsk 1 (.invokevirtual 53) 3 4 := ⟨by decide +kernel, rfl⟩
set_option maxRecDepth 100000 in
theorem d_Text_readAsk_4 : Dc m_Text_readAsk 4 (.istore_n 2) 1 5 := ⟨by decide +kernel, rfl⟩
set_option maxRecDepth 100000 in
theorem d_Text_readAsk_5 : Dc m_Text_readAsk 5 (.iload_n 2) 1 6 := ⟨by decide +kernel, rfl⟩
set_option maxRecDepth 100000 in
theorem d_Text_readAsk_6 : Dj m_Text_readAsk 6 (.ifCond .lt) 9 18 := ⟨12, by decide +kernel, rfl, by decide⟩
set_option maxRecDepth 100000 in
theorem d_Text_readAsk_9 : Dc m_Text_readAsk 9 (.aload_n 0) 1 10 := ⟨by decide +kernel, rfl⟩
set_option maxRecDepth 100000 in
theorem d_Text_readAsk_10 : Dc m_Text_readAsk 10 (.ldc 57) 2 12 := ⟨by decide +kernel, rfl⟩
set_option maxRecDepth 100000 in
theorem d_Text_readAsk_12 : Dc m_Text_readAsk 12 (.invokevirtual 36) 3 15 := ⟨by decide +kernel, rfl⟩
set_option maxRecDepth 100000 in
theorem d_Text_readAsk_15 : Dj m_Text_readAsk 15 (.ifCond .ne) 18 20 := ⟨5, by decide +kernel, rfl, by decide⟩
set_option maxRecDepth 100000 in
theorem d_Text_readAsk_18 : Dc m_Text_readAsk 18 (.iconst 0) 1 19 := ⟨by decide +kernel, rfl⟩
set_option maxRecDepth 100000 in
theorem d_Text_readAsk_19 : Dc m_Text_readAsk 19 .ireturn 1 20 := ⟨by decide +kernel, rfl⟩
set_option maxRecDepth 100000 in
theorem d_Text_readAsk_20 : Dc m_Text_readAsk 20 (.aload_n 0) 1 21 := ⟨by decide +kernel, rfl⟩
set_option maxRecDepth 100000 in
theorem d_Text_readAsk_21 : Dc m_Text_readAsk 21 (.iconst 1) 1 22 := ⟨by decide +kernel, rfl⟩
set_option maxRecDepth 100000 in
theorem d_Text_readAsk_22 : Dc m_Text_readAsk 22 (.bipush (9)) 2 24 := ⟨by decide +kernel, rfl⟩
set_option maxRecDepth 100000 in
theorem d_Text_readAsk_24 : Dc m_Text_readAsk 24 (.invokevirtual 59) 3 27 := ⟨by decide +kernel, rfl⟩
set_option maxRecDepth 100000 in
theorem d_Text_readAsk_27 : Dc m_Text_readAsk 27 (.istore_n 3) 1 28 := ⟨by decide +kernel, rfl⟩
set_option maxRecDepth 100000 in
theorem d_Text_readAsk_28 : Dc m_Text_readAsk 28 (.iload_n 3) 1 29 := ⟨by decide +kernel, rfl⟩
set_option maxRecDepth 100000 in
theorem d_Text_readAsk_29 : Dj m_Text_readAsk 29 (.ifCond .lt) 32 39 := ⟨10, by decide +kernel, rfl, by decide⟩
set_option maxRecDepth 100000 in
theorem d_Text_readAsk_32 : Dc m_Text_readAsk 32 (.aload_n 0) 1 33 := ⟨by decide +kernel, rfl⟩
set_option maxRecDepth 100000 in
theorem d_Text_readAsk_33 : Dc m_Text_readAsk 33 (.invokevirtual 63) 3 36 := ⟨by decide +kernel, rfl⟩
set_option maxRecDepth 100000 in
theorem d_Text_readAsk_36 : Dj m_Text_readAsk 36 (.ifCond .ne) 39 41 := ⟨5, by decide +kernel, rfl, by decide⟩
set_option maxRecDepth 100000 in
theorem d_Text_readAsk_39 : Dc m_Text_readAsk 39 (.iconst 0) 1 40 := ⟨by decide +kernel, rfl⟩
set_option maxRecDepth 100000 in
theorem d_Text_readAsk_40 : Dc m_Text_readAsk 40 .ireturn 1 41 := ⟨by decide +kernel, rfl⟩
set_option maxRecDepth 100000 in
theorem d_Text_readAsk_41 : Dc m_Text_readAsk 41 (.aload_n 1) 1 42 := ⟨by decide +kernel, rfl⟩
set_option maxRecDepth 100000 in
theorem d_Text_readAsk_42 : Dc m_Text_readAsk 42 (.iconst 0) 1 43 := ⟨by decide +kernel, rfl⟩
set_option maxRecDepth 100000 in
theorem d_Text_readAsk_43 : Dc m_Text_readAsk 43 (.iload_n 2) 1 44 := ⟨by decide +kernel, rfl⟩
set_option maxRecDepth 100000 in
theorem d_Text_readAsk_44 : Dc m_Text_readAsk 44 (.iload_n 3) 1 45 := ⟨by decide +kernel, rfl⟩
set_option maxRecDepth 100000 in
theorem d_Text_readAsk_45 : Dc m_Text_readAsk 45 (.invokevirtual 67) 3 48 := ⟨by decide +kernel, rfl⟩
set_option maxRecDepth 100000 in
theorem d_Text_readAsk_48 : Dc m_Text_readAsk 48 (.iconst 1) 1 49 := ⟨by decide +kernel, rfl⟩
set_option maxRecDepth 100000 in
theorem d_Text_readAsk_49 : Dc m_Text_readAsk 49 .ireturn 1 50 := ⟨by decide +kernel, rfl⟩
set_option maxRecDepth 100000 in
theorem d_Text_readTell_0 : Dc m_Text_readTell 0 (.aload_n 0) 1 1 := ⟨by decide +kernel, rfl⟩
set_option maxRecDepth 100000 in
theorem d_Text_readTell_1 : Dc m_Text_readTell 1 (.invokevirtual 53) 3 4 := ⟨by decide +kernel, rfl⟩
set_option maxRecDepth 100000 in
theorem d_Text_readTell_4 : Dc m_Text_readTell 4 (.istore_n 2) 1 5 := ⟨by decide +kernel, rfl⟩
set_option maxRecDepth 100000 in
theorem d_Text_readTell_5 : Dc m_Text_readTell 5 (.iload_n 2) 1 6 := ⟨by decide +kernel, rfl⟩
set_option maxRecDepth 100000 in
theorem d_Text_readTell_6 : Dj m_Text_readTell 6 (.ifCond .lt) 9 16 := ⟨10, by decide +kernel, rfl, by decide⟩
set_option maxRecDepth 100000 in
theorem d_Text_readTell_9 : Dc m_Text_readTell 9 (.aload_n 0) 1 10 := ⟨by decide +kernel, rfl⟩
set_option maxRecDepth 100000 in
theorem d_Text_readTell_10 : Dc m_Text_readTell 10 (.invokevirtual 63) 3 13 := ⟨by decide +kernel, rfl⟩
set_option maxRecDepth 100000 in
theorem d_Text_readTell_13 : Dj m_Text_readTell 13 (.ifCond .ne) 16 18 := ⟨5, by decide +kernel, rfl, by decide⟩
set_option maxRecDepth 100000 in
theorem d_Text_readTell_16 : Dc m_Text_readTell 16 (.iconst 0) 1 17 := ⟨by decide +kernel, rfl⟩
set_option maxRecDepth 100000 in
theorem d_Text_readTell_17 : Dc m_Text_readTell 17 .ireturn 1 18 := ⟨by decide +kernel, rfl⟩
set_option maxRecDepth 100000 in
theorem d_Text_readTell_18 : Dc m_Text_readTell 18 (.aload_n 1) 1 19 := ⟨by decide +kernel, rfl⟩
set_option maxRecDepth 100000 in
theorem d_Text_readTell_19 : Dc m_Text_readTell 19 (.iconst 1) 1 20 := ⟨by decide +kernel, rfl⟩
set_option maxRecDepth 100000 in
theorem d_Text_readTell_20 : Dc m_Text_readTell 20 (.iload_n 2) 1 21 := ⟨by decide +kernel, rfl⟩
set_option maxRecDepth 100000 in
theorem d_Text_readTell_21 : Dc m_Text_readTell 21 (.iconst 0) 1 22 := ⟨by decide +kernel, rfl⟩
set_option maxRecDepth 100000 in
theorem d_Text_readTell_22 : Dc m_Text_readTell 22 (.invokevirtual 67) 3 25 := ⟨by decide +kernel, rfl⟩
set_option maxRecDepth 100000 in
theorem d_Text_readTell_25 : Dc m_Text_readTell 25 (.iconst 1) 1 26 := ⟨by decide +kernel, rfl⟩
set_option maxRecDepth 100000 in
theorem d_Text_readTell_26 : Dc m_Text_readTell 26 .ireturn 1 27 := ⟨by decide +kernel, rfl⟩
set_option maxRecDepth 100000 in
theorem d_Text_readRest_0 : Dc m_Text_readRest 0 (.aload_n 0) 1 1 := ⟨by decide +kernel, rfl⟩
set_option maxRecDepth 100000 in
theorem d_Text_readRest_1 : Dc m_Text_readRest 1 (.iconst 1) 1 2 := ⟨by decide +kernel, rfl⟩
set_option maxRecDepth 100000 in
theorem d_Text_readRest_2 : Dc m_Text_readRest 2 (.bipush (9)) 2 4 := ⟨by decide +kernel, rfl⟩
set_option maxRecDepth 100000 in
theorem d_Text_readRest_4 : Dc m_Text_readRest 4 (.invokevirtual 59) 3 7 := ⟨by decide +kernel, rfl⟩
set_option maxRecDepth 100000 in
theorem d_Text_readRest_7 : Dc m_Text_readRest 7 (.istore_n 2) 1 8 := ⟨by decide +kernel, rfl⟩
set_option maxRecDepth 100000 in
theorem d_Text_readRest_8 : Dc m_Text_readRest 8 (.iload_n 2) 1 9 := ⟨by decide +kernel, rfl⟩
set_option maxRecDepth 100000 in
theorem d_Text_readRest_9 : Dj m_Text_readRest 9 (.ifCond .lt) 12 19 := ⟨10, by decide +kernel, rfl, by decide⟩
set_option maxRecDepth 100000 in
theorem d_Text_readRest_12 : Dc m_Text_readRest 12 (.aload_n 0) 1 13 := ⟨by decide +kernel, rfl⟩
set_option maxRecDepth 100000 in
theorem d_Text_readRest_13 : Dc m_Text_readRest 13 (.invokevirtual 63) 3 16 := ⟨by decide +kernel, rfl⟩
set_option maxRecDepth 100000 in
theorem d_Text_readRest_16 : Dj m_Text_readRest 16 (.ifCond .ne) 19 21 := ⟨5, by decide +kernel, rfl, by decide⟩
set_option maxRecDepth 100000 in
theorem d_Text_readRest_19 : Dc m_Text_readRest 19 (.iconst 0) 1 20 := ⟨by decide +kernel, rfl⟩
set_option maxRecDepth 100000 in
theorem d_Text_readRest_20 : Dc m_Text_readRest 20 .ireturn 1 21 := ⟨by decide +kernel, rfl⟩
set_option maxRecDepth 100000 in
theorem d_Text_readRest_21 : Dc m_Text_readRest 21 (.aload_n 1) 1 22 := ⟨by decide +kernel, rfl⟩
set_option maxRecDepth 100000 in
theorem d_Text_readRest_22 : Dc m_Text_readRest 22 (.iconst 2) 1 23 := ⟨by decide +kernel, rfl⟩
set_option maxRecDepth 100000 in
theorem d_Text_readRest_23 : Dc m_Text_readRest 23 (.iload_n 2) 1 24 := ⟨by decide +kernel, rfl⟩
set_option maxRecDepth 100000 in
theorem d_Text_readRest_24 : Dc m_Text_readRest 24 (.iconst 0) 1 25 := ⟨by decide +kernel, rfl⟩
set_option maxRecDepth 100000 in
theorem d_Text_readRest_25 : Dc m_Text_readRest 25 (.invokevirtual 67) 3 28 := ⟨by decide +kernel, rfl⟩
set_option maxRecDepth 100000 in
theorem d_Text_readRest_28 : Dc m_Text_readRest 28 (.iconst 1) 1 29 := ⟨by decide +kernel, rfl⟩
set_option maxRecDepth 100000 in
theorem d_Text_readRest_29 : Dc m_Text_readRest 29 .ireturn 1 30 := ⟨by decide +kernel, rfl⟩
set_option maxRecDepth 100000 in
theorem d_Text_readPair_0 : Dc m_Text_readPair 0 (.aload_n 0) 1 1 := ⟨by decide +kernel, rfl⟩
set_option maxRecDepth 100000 in
theorem d_Text_readPair_1 : Dc m_Text_readPair 1 (.iconst 2) 1 2 := ⟨by decide +kernel, rfl⟩
set_option maxRecDepth 100000 in
theorem d_Text_readPair_2 : Dc m_Text_readPair 2 (.bipush (9)) 2 4 := ⟨by decide +kernel, rfl⟩
set_option maxRecDepth 100000 in
theorem d_Text_readPair_4 : Dc m_Text_readPair 4 (.invokevirtual 59) 3 7 := ⟨by decide +kernel, rfl⟩
set_option maxRecDepth 100000 in
theorem d_Text_readPair_7 : Dc m_Text_readPair 7 (.istore_n 1) 1 8 := ⟨by decide +kernel, rfl⟩
set_option maxRecDepth 100000 in
theorem d_Text_readPair_8 : Dc m_Text_readPair 8 (.iload_n 1) 1 9 := ⟨by decide +kernel, rfl⟩
set_option maxRecDepth 100000 in
theorem d_Text_readPair_9 : Dj m_Text_readPair 9 (.ifCond .ge) 12 14 := ⟨5, by decide +kernel, rfl, by decide⟩
set_option maxRecDepth 100000 in
theorem d_Text_readPair_12 : Dc m_Text_readPair 12 (.iconst (-1)) 1 13 := ⟨by decide +kernel, rfl⟩
set_option maxRecDepth 100000 in
theorem d_Text_readPair_13 : Dc m_Text_readPair 13 .ireturn 1 14 := ⟨by decide +kernel, rfl⟩
set_option maxRecDepth 100000 in
theorem d_Text_readPair_14 : Dc m_Text_readPair 14 (.aload_n 0) 1 15 := ⟨by decide +kernel, rfl⟩
set_option maxRecDepth 100000 in
theorem d_Text_readPair_15 : Dc m_Text_readPair 15 (.iconst 2) 1 16 := ⟨by decide +kernel, rfl⟩
set_option maxRecDepth 100000 in
theorem d_Text_readPair_16 : Dc m_Text_readPair 16 (.bipush (9)) 2 18 := ⟨by decide +kernel, rfl⟩
set_option maxRecDepth 100000 in
theorem d_Text_readPair_18 : Dc m_Text_readPair 18 (.invokevirtual 59) 3 21 := ⟨by decide +kernel, rfl⟩
set_option maxRecDepth 100000 in
theorem d_Text_readPair_21 : Dc m_Text_readPair 21 (.istore_n 2) 1 22 := ⟨by decide +kernel, rfl⟩
set_option maxRecDepth 100000 in
theorem d_Text_readPair_22 : Dc m_Text_readPair 22 (.iload_n 2) 1 23 := ⟨by decide +kernel, rfl⟩
set_option maxRecDepth 100000 in
theorem d_Text_readPair_23 : Dj m_Text_readPair 23 (.ifCond .ge) 26 28 := ⟨5, by decide +kernel, rfl, by decide⟩
set_option maxRecDepth 100000 in
theorem d_Text_readPair_26 : Dc m_Text_readPair 26 (.iconst (-1)) 1 27 := ⟨by decide +kernel, rfl⟩
set_option maxRecDepth 100000 in
theorem d_Text_readPair_27 : Dc m_Text_readPair 27 .ireturn 1 28 := ⟨by decide +kernel, rfl⟩
set_option maxRecDepth 100000 in
theorem d_Text_readPair_28 : Dc m_Text_readPair 28 (.iload_n 1) 1 29 := ⟨by decide +kernel, rfl⟩
set_option maxRecDepth 100000 in
theorem d_Text_readPair_29 : Dc m_Text_readPair 29 (.iload_n 2) 1 30 := ⟨by decide +kernel, rfl⟩
set_option maxRecDepth 100000 in
theorem d_Text_readPair_30 : Dc m_Text_readPair 30 (.invokestatic 71) 3 33 := ⟨by decide +kernel, rfl⟩
set_option maxRecDepth 100000 in
theorem d_Text_readPair_33 : Dc m_Text_readPair 33 .ireturn 1 34 := ⟨by decide +kernel, rfl⟩
set_option maxRecDepth 100000 in
theorem d_Text_readNumber_0 : Dc m_Text_readNumber 0 (.aload_n 0) 1 1 := ⟨by decide +kernel, rfl⟩
set_option maxRecDepth 100000 in
theorem d_Text_readNumber_1 : Dc m_Text_readNumber 1 (.invokevirtual 27) 3 4 := ⟨by decide +kernel, rfl⟩
set_option maxRecDepth 100000 in
theorem d_Text_readNumber_4 : Dc m_Text_readNumber 4 (.aload_n 0) 1 5 := ⟨by decide +kernel, rfl⟩
set_option maxRecDepth 100000 in
theorem d_Text_readNumber_5 : Dc m_Text_readNumber 5 (.bipush (48)) 2 7 := ⟨by decide +kernel, rfl⟩
set_option maxRecDepth 100000 in
theorem d_Text_readNumber_7 : Dc m_Text_readNumber 7 (.bipush (57)) 2 9 := ⟨by decide +kernel, rfl⟩
set_option maxRecDepth 100000 in
theorem d_Text_readNumber_9 : Dc m_Text_readNumber 9 (.invokevirtual 74) 3 12 := ⟨by decide +kernel, rfl⟩
set_option maxRecDepth 100000 in
theorem d_Text_readNumber_12 : Dc m_Text_readNumber 12 (.istore_n 3) 1 13 := ⟨by decide +kernel, rfl⟩
set_option maxRecDepth 100000 in
theorem d_Text_readNumber_13 : Dc m_Text_readNumber 13 (.iload_n 3) 1 14 := ⟨by decide +kernel, rfl⟩
set_option maxRecDepth 100000 in
theorem d_Text_readNumber_14 : Dc m_Text_readNumber 14 (.aload_n 0) 1 15 := ⟨by decide +kernel, rfl⟩
set_option maxRecDepth 100000 in
theorem d_Text_readNumber_15 : Dc m_Text_readNumber 15 (.getfield 19) 3 18 := ⟨by decide +kernel, rfl⟩
set_option maxRecDepth 100000 in
theorem d_Text_readNumber_18 : Dc m_Text_readNumber 18 .isub 1 19 := ⟨by decide +kernel, rfl⟩
set_option maxRecDepth 100000 in
theorem d_Text_readNumber_19 : Dc m_Text_readNumber 19 (.istore 4) 2 21 := ⟨by decide +kernel, rfl⟩
set_option maxRecDepth 100000 in
theorem d_Text_readNumber_21 : Dc m_Text_readNumber 21 (.iload 4) 2 23 := ⟨by decide +kernel, rfl⟩
set_option maxRecDepth 100000 in
theorem d_Text_readNumber_23 : Dc m_Text_readNumber 23 (.iconst 1) 1 24 := ⟨by decide +kernel, rfl⟩
set_option maxRecDepth 100000 in
theorem d_Text_readNumber_24 : Dj m_Text_readNumber 24 (.if_icmp .lt) 27 33 := ⟨9, by decide +kernel, rfl, by decide⟩
set_option maxRecDepth 100000 in
theorem d_Text_readNumber_27 : Dc m_Text_readNumber 27 (.iload 4) 2 29 := ⟨by decide +kernel, rfl⟩
set_option maxRecDepth 100000 in
theorem d_Text_readNumber_29 : Dc m_Text_readNumber 29 (.iconst 2) 1 30 := ⟨by decide +kernel, rfl⟩
set_option maxRecDepth 100000 in
theorem d_Text_readNumber_30 : Dj m_Text_readNumber 30 (.if_icmp .le) 33 35 := ⟨5, by decide +kernel, rfl, by decide⟩
set_option maxRecDepth 100000 in
theorem d_Text_readNumber_33 : Dc m_Text_readNumber 33 (.iconst (-1)) 1 34 := ⟨by decide +kernel, rfl⟩
set_option maxRecDepth 100000 in
theorem d_Text_readNumber_34 : Dc m_Text_readNumber 34 .ireturn 1 35 := ⟨by decide +kernel, rfl⟩
set_option maxRecDepth 100000 in
theorem d_Text_readNumber_35 : Dc m_Text_readNumber 35 (.iconst 0) 1 36 := ⟨by decide +kernel, rfl⟩
set_option maxRecDepth 100000 in
theorem d_Text_readNumber_36 : Dc m_Text_readNumber 36 (.istore 5) 2 38 := ⟨by decide +kernel, rfl⟩
set_option maxRecDepth 100000 in
theorem d_Text_readNumber_38 : Dc m_Text_readNumber 38 (.aload_n 0) 1 39 := ⟨by decide +kernel, rfl⟩
set_option maxRecDepth 100000 in
theorem d_Text_readNumber_39 : Dc m_Text_readNumber 39 (.getfield 19) 3 42 := ⟨by decide +kernel, rfl⟩
set_option maxRecDepth 100000 in
theorem d_Text_readNumber_42 : Dc m_Text_readNumber 42 (.istore 6) 2 44 := ⟨by decide +kernel, rfl⟩
set_option maxRecDepth 100000 in
theorem d_Text_readNumber_44 : Dc m_Text_readNumber 44 (.iload 6) 2 46 := ⟨by decide +kernel, rfl⟩
set_option maxRecDepth 100000 in
theorem d_Text_readNumber_46 : Dc m_Text_readNumber 46 (.iload_n 3) 1 47 := ⟨by decide +kernel, rfl⟩
set_option maxRecDepth 100000 in
theorem d_Text_readNumber_47 : Dj m_Text_readNumber 47 (.if_icmp .ge) 50 74 := ⟨27, by decide +kernel, rfl, by decide⟩
set_option maxRecDepth 100000 in
theorem d_Text_readNumber_50 : Dc m_Text_readNumber 50 (.iload 5) 2 52 := ⟨by decide +kernel, rfl⟩
set_option maxRecDepth 100000 in
theorem d_Text_readNumber_52 : Dc m_Text_readNumber 52 (.bipush (10)) 2 54 := ⟨by decide +kernel, rfl⟩
set_option maxRecDepth 100000 in
theorem d_Text_readNumber_54 : Dc m_Text_readNumber 54 .imul 1 55 := ⟨by decide +kernel, rfl⟩
set_option maxRecDepth 100000 in
theorem d_Text_readNumber_55 : Dc m_Text_readNumber 55 (.aload_n 0) 1 56 := ⟨by decide +kernel, rfl⟩
set_option maxRecDepth 100000 in
theorem d_Text_readNumber_56 : Dc m_Text_readNumber 56 (.getfield 9) 3 59 := ⟨by decide +kernel, rfl⟩
set_option maxRecDepth 100000 in
theorem d_Text_readNumber_59 : Dc m_Text_readNumber 59 (.iload 6) 2 61 := ⟨by decide +kernel, rfl⟩
set_option maxRecDepth 100000 in
theorem d_Text_readNumber_61 : Dc m_Text_readNumber 61 .baload 1 62 := ⟨by decide +kernel, rfl⟩
set_option maxRecDepth 100000 in
theorem d_Text_readNumber_62 : Dc m_Text_readNumber 62 .iadd 1 63 := ⟨by decide +kernel, rfl⟩
set_option maxRecDepth 100000 in
theorem d_Text_readNumber_63 : Dc m_Text_readNumber 63 (.bipush (48)) 2 65 := ⟨by decide +kernel, rfl⟩
set_option maxRecDepth 100000 in
theorem d_Text_readNumber_65 : Dc m_Text_readNumber 65 .isub 1 66 := ⟨by decide +kernel, rfl⟩
set_option maxRecDepth 100000 in
theorem d_Text_readNumber_66 : Dc m_Text_readNumber 66 (.istore 5) 2 68 := ⟨by decide +kernel, rfl⟩
set_option maxRecDepth 100000 in
theorem d_Text_readNumber_68 : Dc m_Text_readNumber 68 (.iinc 6 (1)) 3 71 := ⟨by decide +kernel, rfl⟩
set_option maxRecDepth 100000 in
theorem d_Text_readNumber_71 : Dj m_Text_readNumber 71 .goto 74 44 := ⟨-27, by decide +kernel, rfl, by decide⟩
set_option maxRecDepth 100000 in
theorem d_Text_readNumber_74 : Dc m_Text_readNumber 74 (.iload 5) 2 76 := ⟨by decide +kernel, rfl⟩
set_option maxRecDepth 100000 in
theorem d_Text_readNumber_76 : Dc m_Text_readNumber 76 (.iload_n 1) 1 77 := ⟨by decide +kernel, rfl⟩
set_option maxRecDepth 100000 in
theorem d_Text_readNumber_77 : Dj m_Text_readNumber 77 (.if_icmp .lt) 80 86 := ⟨9, by decide +kernel, rfl, by decide⟩
set_option maxRecDepth 100000 in
theorem d_Text_readNumber_80 : Dc m_Text_readNumber 80 (.iload 5) 2 82 := ⟨by decide +kernel, rfl⟩
set_option maxRecDepth 100000 in
theorem d_Text_readNumber_82 : Dc m_Text_readNumber 82 (.iload_n 2) 1 83 := ⟨by decide +kernel, rfl⟩
set_option maxRecDepth 100000 in
theorem d_Text_readNumber_83 : Dj m_Text_readNumber 83 (.if_icmp .le) 86 88 := ⟨5, by decide +kernel, rfl, by decide⟩
set_option maxRecDepth 100000 in
theorem d_Text_readNumber_86 : Dc m_Text_readNumber 86 (.iconst (-1)) 1 87 := ⟨by decide +kernel, rfl⟩
set_option maxRecDepth 100000 in
theorem d_Text_readNumber_87 : Dc m_Text_readNumber 87 .ireturn 1 88 := ⟨by decide +kernel, rfl⟩
set_option maxRecDepth 100000 in
theorem d_Text_readNumber_88 : Dc m_Text_readNumber 88 (.aload_n 0) 1 89 := ⟨by decide +kernel, rfl⟩
set_option maxRecDepth 100000 in
theorem d_Text_readNumber_89 : Dc m_Text_readNumber 89 (.iload_n 3) 1 90 := ⟨by decide +kernel, rfl⟩
set_option maxRecDepth 100000 in
theorem d_Text_readNumber_90 : Dc m_Text_readNumber 90 (.putfield 19) 3 93 := ⟨by decide +kernel, rfl⟩
set_option maxRecDepth 100000 in
theorem d_Text_readNumber_93 : Dc m_Text_readNumber 93 (.iload 5) 2 95 := ⟨by decide +kernel, rfl⟩
set_option maxRecDepth 100000 in
theorem d_Text_readNumber_95 : Dc m_Text_readNumber 95 .ireturn 1 96 := ⟨by decide +kernel, rfl⟩
set_option maxRecDepth 100000 in
theorem d_Text_isNextName_0 : Dc m_Text_isNextName 0 (.aload_n 0) 1 1 := ⟨by decide +kernel, rfl⟩
set_option maxRecDepth 100000 in
theorem d_Text_isNextName_1 : Dc m_Text_isNextName 1 (.invokevirtual 27) 3 4 := ⟨by decide +kernel, rfl⟩
set_option maxRecDepth 100000 in
theorem d_Text_isNextName_4 : Dc m_Text_isNextName 4 (.aload_n 0) 1 5 := ⟨by decide +kernel, rfl⟩
set_option maxRecDepth 100000 in
theorem d_Text_isNextName_5 : Dc m_Text_isNextName 5 (.bipush (97)) 2 7 := ⟨by decide +kernel, rfl⟩
set_option maxRecDepth 100000 in
theorem d_Text_isNextName_7 : Dc m_Text_isNextName 7 (.bipush (122)) 2 9 := ⟨by decide +kernel, rfl⟩
set_option maxRecDepth 100000 in
theorem d_Text_isNextName_9 : Dc m_Text_isNextName 9 (.invokevirtual 74) 3 12 := ⟨by decide +kernel, rfl⟩
set_option maxRecDepth 100000 in
theorem d_Text_isNextName_12 : Dc m_Text_isNextName 12 (.istore_n 2) 1 13 := ⟨by decide +kernel, rfl⟩
set_option maxRecDepth 100000 in
theorem d_Text_isNextName_13 : Dc m_Text_isNextName 13 (.iload_n 2) 1 14 := ⟨by decide +kernel, rfl⟩
set_option maxRecDepth 100000 in
theorem d_Text_isNextName_14 : Dc m_Text_isNextName 14 (.aload_n 0) 1 15 := ⟨by decide +kernel, rfl⟩
set_option maxRecDepth 100000 in
theorem d_Text_isNextName_15 : Dc m_Text_isNextName 15 (.getfield 19) 3 18 := ⟨by decide +kernel, rfl⟩
set_option maxRecDepth 100000 in
theorem d_Text_isNextName_18 : Dc m_Text_isNextName 18 .isub 1 19 := ⟨by decide +kernel, rfl⟩
set_option maxRecDepth 100000 in
theorem d_Text_isNextName_19 : Dc m_Text_isNextName 19 (.aload_n 1) 1 20 := ⟨by decide +kernel, rfl⟩
set_option maxRecDepth 100000 in
theorem d_Text_isNextName_20 : Dc m_Text_isNextName 20 (.invokevirtual 78) 3 23 := ⟨by decide +kernel, rfl⟩
set_option maxRecDepth 100000 in
theorem d_Text_isNextName_23 : Dj m_Text_isNextName 23 (.if_icmp .eq) 26 28 := ⟨5, by decide +kernel, rfl, by decide⟩
set_option maxRecDepth 100000 in
theorem d_Text_isNextName_26 : Dc m_Text_isNextName 26 (.iconst 0) 1 27 := ⟨by decide +kernel, rfl⟩
set_option maxRecDepth 100000 in
theorem d_Text_isNextName_27 : Dc m_Text_isNextName 27 .ireturn 1 28 := ⟨by decide +kernel, rfl⟩
set_option maxRecDepth 100000 in
theorem d_Text_isNextName_28 : Dc m_Text_isNextName 28 (.iconst 0) 1 29 := ⟨by decide +kernel, rfl⟩
set_option maxRecDepth 100000 in
theorem d_Text_isNextName_29 : Dc m_Text_isNextName 29 (.istore_n 3) 1 30 := ⟨by decide +kernel, rfl⟩
set_option maxRecDepth 100000 in
theorem d_Text_isNextName_30 : Dc m_Text_isNextName 30 (.iload_n 3) 1 31 := ⟨by decide +kernel, rfl⟩
set_option maxRecDepth 100000 in
theorem d_Text_isNextName_31 : Dc m_Text_isNextName 31 (.aload_n 1) 1 32 := ⟨by decide +kernel, rfl⟩
set_option maxRecDepth 100000 in
theorem d_Text_isNextName_32 : Dc m_Text_isNextName 32 (.invokevirtual 78) 3 35 := ⟨by decide +kernel, rfl⟩
set_option maxRecDepth 100000 in
theorem d_Text_isNextName_35 : Dj m_Text_isNextName 35 (.if_icmp .ge) 38 65 := ⟨30, by decide +kernel, rfl, by decide⟩
set_option maxRecDepth 100000 in
theorem d_Text_isNextName_38 : Dc m_Text_isNextName 38 (.aload_n 0) 1 39 := ⟨by decide +kernel, rfl⟩
set_option maxRecDepth 100000 in
theorem d_Text_isNextName_39 : Dc m_Text_isNextName 39 (.getfield 9) 3 42 := ⟨by decide +kernel, rfl⟩
set_option maxRecDepth 100000 in
theorem d_Text_isNextName_42 : Dc m_Text_isNextName 42 (.aload_n 0) 1 43 := ⟨by decide +kernel, rfl⟩
set_option maxRecDepth 100000 in
theorem d_Text_isNextName_43 : Dc m_Text_isNextName 43 (.getfield 19) 3 46 := ⟨by decide +kernel, rfl⟩
set_option maxRecDepth 100000 in
theorem d_Text_isNextName_46 : Dc m_Text_isNextName 46 (.iload_n 3) 1 47 := ⟨by decide +kernel, rfl⟩
set_option maxRecDepth 100000 in
theorem d_Text_isNextName_47 : Dc m_Text_isNextName 47 .iadd 1 48 := ⟨by decide +kernel, rfl⟩
set_option maxRecDepth 100000 in
theorem d_Text_isNextName_48 : Dc m_Text_isNextName 48 .baload 1 49 := ⟨by decide +kernel, rfl⟩
set_option maxRecDepth 100000 in
theorem d_Text_isNextName_49 : Dc m_Text_isNextName 49 (.aload_n 1) 1 50 := ⟨by decide +kernel, rfl⟩
set_option maxRecDepth 100000 in
theorem d_Text_isNextName_50 : Dc m_Text_isNextName 50 (.iload_n 3) 1 51 := ⟨by decide +kernel, rfl⟩
set_option maxRecDepth 100000 in
theorem d_Text_isNextName_51 : Dc m_Text_isNextName 51 (.invokevirtual 82) 3 54 := ⟨by decide +kernel, rfl⟩
set_option maxRecDepth 100000 in
theorem d_Text_isNextName_54 : Dj m_Text_isNextName 54 (.if_icmp .eq) 57 59 := ⟨5, by decide +kernel, rfl, by decide⟩
set_option maxRecDepth 100000 in
theorem d_Text_isNextName_57 : Dc m_Text_isNextName 57 (.iconst 0) 1 58 := ⟨by decide +kernel, rfl⟩
set_option maxRecDepth 100000 in
theorem d_Text_isNextName_58 : Dc m_Text_isNextName 58 .ireturn 1 59 := ⟨by decide +kernel, rfl⟩
set_option maxRecDepth 100000 in
theorem d_Text_isNextName_59 : Dc m_Text_isNextName 59 (.iinc 3 (1)) 3 62 := ⟨by decide +kernel, rfl⟩
set_option maxRecDepth 100000 in
theorem d_Text_isNextName_62 : Dj m_Text_isNextName 62 .goto 65 30 := ⟨-32, by decide +kernel, rfl, by decide⟩
set_option maxRecDepth 100000 in
theorem d_Text_isNextName_65 : Dc m_Text_isNextName 65 (.aload_n 0) 1 66 := ⟨by decide +kernel, rfl⟩
set_option maxRecDepth 100000 in
theorem d_Text_isNextName_66 : Dc m_Text_isNextName 66 (.iload_n 2) 1 67 := ⟨by decide +kernel, rfl⟩
set_option maxRecDepth 100000 in
theorem d_Text_isNextName_67 : Dc m_Text_isNextName 67 (.putfield 19) 3 70 := ⟨by decide +kernel, rfl⟩
set_option maxRecDepth 100000 in
theorem d_Text_isNextName_70 : Dc m_Text_isNextName 70 (.iconst 1) 1 71 := ⟨by decide +kernel, rfl⟩
set_option maxRecDepth 100000 in
theorem d_Text_isNextName_71 : Dc m_Text_isNextName 71 .ireturn 1 72 := ⟨by decide +kernel, rfl⟩
set_option maxRecDepth 100000 in
theorem d_Text_isNextSemicolon_0 : Dc m_Text_isNextSemicolon 0 (.aload_n 0) 1 1 := ⟨by decide +kernel, rfl⟩
set_option maxRecDepth 100000 in
theorem d_Text_isNextSemicolon_1 : Dc m_Text_isNextSemicolon 1 (.invokevirtual 27) 3 4 := ⟨by decide +kernel, rfl⟩
set_option maxRecDepth 100000 in
theorem d_Text_isNextSemicolon_4 : Dc m_Text_isNextSemicolon 4 (.aload_n 0) 1 5 := ⟨by decide +kernel, rfl⟩
set_option maxRecDepth 100000 in
theorem d_Text_isNextSemicolon_5 : Dc m_Text_isNextSemicolon 5 (.getfield 19) 3 8 := ⟨by decide +kernel, rfl⟩
set_option maxRecDepth 100000 in
theorem d_Text_isNextSemicolon_8 : Dc m_Text_isNextSemicolon 8 (.aload_n 0) 1 9 := ⟨by decide +kernel, rfl⟩
set_option maxRecDepth 100000 in
theorem d_Text_isNextSemicolon_9 : Dc m_Text_isNextSemicolon 9 (.getfield 15) 3 12 := ⟨by decide +kernel, rfl⟩
set_option maxRecDepth 100000 in
theorem d_Text_isNextSemicolon_12 : Dj m_Text_isNextSemicolon 12 (.if_icmp .ge) 15 29 := ⟨17, by decide +kernel, rfl, by decide⟩
set_option maxRecDepth 100000 in
theorem d_Text_isNextSemicolon_15 : Dc m_Text_isNextSemicolon 15 (.aload_n 0) 1 16 := ⟨by decide +kernel, rfl⟩
set_option maxRecDepth 100000 in
theorem d_Text_isNextSemicolon_16 : Dc m_Text_isNextSemicolon 16 (.getfield 9) 3 19 := ⟨by decide +kernel, rfl⟩
set_option maxRecDepth 100000 in
theorem d_Text_isNextSemicolon_19 : Dc m_Text_isNextSemicolon 19 (.aload_n 0) 1 20 := ⟨by decide +kernel, rfl⟩
set_option maxRecDepth 100000 in
theorem d_Text_isNextSemicolon_20 : Dc m_Text_isNextSemicolon 20 (.getfield 19) 3 23 := ⟨by decide +kernel, rfl⟩
set_option maxRecDepth 100000 in
theorem d_Text_isNextSemicolon_23 : Dc m_Text_isNextSemicolon 23 .baload 1 24 := ⟨by decide +kernel, rfl⟩
set_option maxRecDepth 100000 in
theorem d_Text_isNextSemicolon_24 : Dc m_Text_isNextSemicolon 24 (.bipush (59)) 2 26 := ⟨by decide +kernel, rfl⟩
set_option maxRecDepth 100000 in
theorem d_Text_isNextSemicolon_26 : Dj m_Text_isNextSemicolon 26 (.if_icmp .eq) 29 31 := ⟨5, by decide +kernel, rfl, by decide⟩
set_option maxRecDepth 100000 in
theorem d_Text_isNextSemicolon_29 : Dc m_Text_isNextSemicolon 29 (.iconst 0) 1 30 := ⟨by decide +kernel, rfl⟩
set_option maxRecDepth 100000 in
theorem d_Text_isNextSemicolon_30 : Dc m_Text_isNextSemicolon 30 .ireturn 1 31 := ⟨by decide +kernel, rfl⟩
set_option maxRecDepth 100000 in
theorem d_Text_isNextSemicolon_31 : Dc m_Text_isNextSemicolon 31 (.aload_n 0) 1 32 := ⟨by decide +kernel, rfl⟩
set_option maxRecDepth 100000 in
theorem d_Text_isNextSemicolon_32 : Dc m_Text_isNextSemicolon 32 .dup 1 33 := ⟨by decide +kernel, rfl⟩
set_option maxRecDepth 100000 in
theorem d_Text_isNextSemicolon_33 : Dc m_Text_isNextSemicolon 33 (.getfield 19) 3 36 := ⟨by decide +kernel, rfl⟩
set_option maxRecDepth 100000 in
theorem d_Text_isNextSemicolon_36 : Dc m_Text_isNextSemicolon 36 (.iconst 1) 1 37 := ⟨by decide +kernel, rfl⟩
set_option maxRecDepth 100000 in
theorem d_Text_isNextSemicolon_37 : Dc m_Text_isNextSemicolon 37 .iadd 1 38 := ⟨by decide +kernel, rfl⟩
set_option maxRecDepth 100000 in
theorem d_Text_isNextSemicolon_38 : Dc m_Text_isNextSemicolon 38 (.putfield 19) 3 41 := ⟨by decide +kernel, rfl⟩
set_option maxRecDepth 100000 in
theorem d_Text_isNextSemicolon_41 : Dc m_Text_isNextSemicolon 41 (.iconst 1) 1 42 := ⟨by decide +kernel, rfl⟩
set_option maxRecDepth 100000 in
theorem d_Text_isNextSemicolon_42 : Dc m_Text_isNextSemicolon 42 .ireturn 1 43 := ⟨by decide +kernel, rfl⟩
set_option maxRecDepth 100000 in
theorem d_Text_endOfRow_0 : Dc m_Text_endOfRow 0 (.aload_n 0) 1 1 := ⟨by decide +kernel, rfl⟩
set_option maxRecDepth 100000 in
theorem d_Text_endOfRow_1 : Dc m_Text_endOfRow 1 (.getfield 19) 3 4 := ⟨by decide +kernel, rfl⟩
set_option maxRecDepth 100000 in
theorem d_Text_endOfRow_4 : Dc m_Text_endOfRow 4 (.istore_n 3) 1 5 := ⟨by decide +kernel, rfl⟩
set_option maxRecDepth 100000 in
theorem d_Text_endOfRow_5 : Dc m_Text_endOfRow 5 (.iload_n 3) 1 6 := ⟨by decide +kernel, rfl⟩
set_option maxRecDepth 100000 in
theorem d_Text_endOfRow_6 : Dc m_Text_endOfRow 6 (.aload_n 0) 1 7 := ⟨by decide +kernel, rfl⟩
set_option maxRecDepth 100000 in
theorem d_Text_endOfRow_7 : Dc m_Text_endOfRow 7 (.getfield 15) 3 10 := ⟨by decide +kernel, rfl⟩
set_option maxRecDepth 100000 in
theorem d_Text_endOfRow_10 : Dj m_Text_endOfRow 10 (.if_icmp .ge) 13 39 := ⟨29, by decide +kernel, rfl, by decide⟩
set_option maxRecDepth 100000 in
theorem d_Text_endOfRow_13 : Dc m_Text_endOfRow 13 (.aload_n 0) 1 14 := ⟨by decide +kernel, rfl⟩
set_option maxRecDepth 100000 in
theorem d_Text_endOfRow_14 : Dc m_Text_endOfRow 14 (.getfield 9) 3 17 := ⟨by decide +kernel, rfl⟩
set_option maxRecDepth 100000 in
theorem d_Text_endOfRow_17 : Dc m_Text_endOfRow 17 (.iload_n 3) 1 18 := ⟨by decide +kernel, rfl⟩
set_option maxRecDepth 100000 in
theorem d_Text_endOfRow_18 : Dc m_Text_endOfRow 18 .baload 1 19 := ⟨by decide +kernel, rfl⟩
set_option maxRecDepth 100000 in
theorem d_Text_endOfRow_19 : Dc m_Text_endOfRow 19 (.iload_n 1) 1 20 := ⟨by decide +kernel, rfl⟩
set_option maxRecDepth 100000 in
theorem d_Text_endOfRow_20 : Dj m_Text_endOfRow 20 (.if_icmp .lt) 23 39 := ⟨19, by decide +kernel, rfl, by decide⟩
set_option maxRecDepth 100000 in
theorem d_Text_endOfRow_23 : Dc m_Text_endOfRow 23 (.aload_n 0) 1 24 := ⟨by decide +kernel, rfl⟩
set_option maxRecDepth 100000 in
theorem d_Text_endOfRow_24 : Dc m_Text_endOfRow 24 (.getfield 9) 3 27 := ⟨by decide +kernel, rfl⟩
set_option maxRecDepth 100000 in
theorem d_Text_endOfRow_27 : Dc m_Text_endOfRow 27 (.iload_n 3) 1 28 := ⟨by decide +kernel, rfl⟩
set_option maxRecDepth 100000 in
theorem d_Text_endOfRow_28 : Dc m_Text_endOfRow 28 .baload 1 29 := ⟨by decide +kernel, rfl⟩
set_option maxRecDepth 100000 in
theorem d_Text_endOfRow_29 : Dc m_Text_endOfRow 29 (.iload_n 2) 1 30 := ⟨by decide +kernel, rfl⟩
set_option maxRecDepth 100000 in
theorem d_Text_endOfRow_30 : Dj m_Text_endOfRow 30 (.if_icmp .gt) 33 39 := ⟨9, by decide +kernel, rfl, by decide⟩
set_option maxRecDepth 100000 in
theorem d_Text_endOfRow_33 : Dc m_Text_endOfRow 33 (.iinc 3 (1)) 3 36 := ⟨by decide +kernel, rfl⟩
set_option maxRecDepth 100000 in
theorem d_Text_endOfRow_36 : Dj m_Text_endOfRow 36 .goto 39 5 := ⟨-31, by decide +kernel, rfl, by decide⟩
set_option maxRecDepth 100000 in
theorem d_Text_endOfRow_39 : Dc m_Text_endOfRow 39 (.iload_n 3) 1 40 := ⟨by decide +kernel, rfl⟩
set_option maxRecDepth 100000 in
theorem d_Text_endOfRow_40 : Dc m_Text_endOfRow 40 .ireturn 1 41 := ⟨by decide +kernel, rfl⟩
set_option maxRecDepth 100000 in
theorem d_Text_skipBlanks_0 : Dc m_Text_skipBlanks 0 (.aload_n 0) 1 1 := ⟨by decide +kernel, rfl⟩
set_option maxRecDepth 100000 in
theorem d_Text_skipBlanks_1 : Dc m_Text_skipBlanks 1 (.getfield 19) 3 4 := ⟨by decide +kernel, rfl⟩
set_option maxRecDepth 100000 in
theorem d_Text_skipBlanks_4 : Dc m_Text_skipBlanks 4 (.aload_n 0) 1 5 := ⟨by decide +kernel, rfl⟩
set_option maxRecDepth 100000 in
theorem d_Text_skipBlanks_5 : Dc m_Text_skipBlanks 5 (.getfield 15) 3 8 := ⟨by decide +kernel, rfl⟩
set_option maxRecDepth 100000 in
theorem d_Text_skipBlanks_8 : Dj m_Text_skipBlanks 8 (.if_icmp .ge) 11 38 := ⟨30, by decide +kernel, rfl, by decide⟩
set_option maxRecDepth 100000 in
theorem d_Text_skipBlanks_11 : Dc m_Text_skipBlanks 11 (.aload_n 0) 1 12 := ⟨by decide +kernel, rfl⟩
set_option maxRecDepth 100000 in
theorem d_Text_skipBlanks_12 : Dc m_Text_skipBlanks 12 (.getfield 9) 3 15 := ⟨by decide +kernel, rfl⟩
set_option maxRecDepth 100000 in
theorem d_Text_skipBlanks_15 : Dc m_Text_skipBlanks 15 (.aload_n 0) 1 16 := ⟨by decide +kernel, rfl⟩
set_option maxRecDepth 100000 in
theorem d_Text_skipBlanks_16 : Dc m_Text_skipBlanks 16 (.getfield 19) 3 19 := ⟨by decide +kernel, rfl⟩
set_option maxRecDepth 100000 in
theorem d_Text_skipBlanks_19 : Dc m_Text_skipBlanks 19 .baload 1 20 := ⟨by decide +kernel, rfl⟩
set_option maxRecDepth 100000 in
theorem d_Text_skipBlanks_20 : Dc m_Text_skipBlanks 20 (.bipush (32)) 2 22 := ⟨by decide +kernel, rfl⟩
set_option maxRecDepth 100000 in
theorem d_Text_skipBlanks_22 : Dj m_Text_skipBlanks 22 (.if_icmp .ne) 25 38 := ⟨16, by decide +kernel, rfl, by decide⟩
set_option maxRecDepth 100000 in
theorem d_Text_skipBlanks_25 : Dc m_Text_skipBlanks 25 (.aload_n 0) 1 26 := ⟨by decide +kernel, rfl⟩
set_option maxRecDepth 100000 in
theorem d_Text_skipBlanks_26 : Dc m_Text_skipBlanks 26 .dup 1 27 := ⟨by decide +kernel, rfl⟩
set_option maxRecDepth 100000 in
theorem d_Text_skipBlanks_27 : Dc m_Text_skipBlanks 27 (.getfield 19) 3 30 := ⟨by decide +kernel, rfl⟩
set_option maxRecDepth 100000 in
theorem d_Text_skipBlanks_30 : Dc m_Text_skipBlanks 30 (.iconst 1) 1 31 := ⟨by decide +kernel, rfl⟩
set_option maxRecDepth 100000 in
theorem d_Text_skipBlanks_31 : Dc m_Text_skipBlanks 31 .iadd 1 32 := ⟨by decide +kernel, rfl⟩
set_option maxRecDepth 100000 in
theorem d_Text_skipBlanks_32 : Dc m_Text_skipBlanks 32 (.putfield 19) 3 35 := ⟨by decide +kernel, rfl⟩
set_option maxRecDepth 100000 in
theorem d_Text_skipBlanks_35 : Dj m_Text_skipBlanks 35 .goto 38 0 := ⟨-35, by decide +kernel, rfl, by decide⟩
set_option maxRecDepth 100000 in
theorem d_Text_skipBlanks_38 : Dc m_Text_skipBlanks 38 .return_ 1 39 := ⟨by decide +kernel, rfl⟩
end
