section
-- PART A of kit/laws/SKELETON (a starting text)
/-- a private method of a class that the tables say can be made, by its rows of tables_1 -/
def lw_okq (q : MethodName × Nat) : Prop := (q.1.cls ≠ "java/lang/invoke/MethodHandle" ∧ q.1.cls ≠ "java/lang/invoke/VarHandle") ∧ Cond.instantiable q.1.cls q.2 ∈ tables_1 ∧ Cond.privateMethod q.1 ∈ tables_1 ∧ Cond.instanceMethod q.1 ∈ tables_1
theorem lw_p0 : lw_okq (⟨"SevenEights$Text", "skipBlanks", "()V"⟩, 3) := ⟨⟨by decide +kernel, by decide +kernel⟩, List.mem_of_getElem? (i := 116) (by decide +kernel), List.mem_of_getElem? (i := 336) (by decide +kernel), List.mem_of_getElem? (i := 337) (by decide +kernel)⟩
theorem lw_p1 : lw_okq (⟨"SevenEights$Text", "readItem", "(LSevenEights$Lesson;)Z"⟩, 3) := ⟨⟨by decide +kernel, by decide +kernel⟩, List.mem_of_getElem? (i := 116) (by decide +kernel), List.mem_of_getElem? (i := 340) (by decide +kernel), List.mem_of_getElem? (i := 341) (by decide +kernel)⟩
theorem lw_p2 : lw_okq (⟨"SevenEights$Text", "isNextName", "(Ljava/lang/String;)Z"⟩, 3) := ⟨⟨by decide +kernel, by decide +kernel⟩, List.mem_of_getElem? (i := 116) (by decide +kernel), List.mem_of_getElem? (i := 345) (by decide +kernel), List.mem_of_getElem? (i := 346) (by decide +kernel)⟩
theorem lw_p3 : lw_okq (⟨"SevenEights$Text", "endOfRow", "(CC)I"⟩, 3) := ⟨⟨by decide +kernel, by decide +kernel⟩, List.mem_of_getElem? (i := 116) (by decide +kernel), List.mem_of_getElem? (i := 349) (by decide +kernel), List.mem_of_getElem? (i := 350) (by decide +kernel)⟩
theorem lw_p4 : lw_okq (⟨"SevenEights$Text", "readAsk", "(LSevenEights$Lesson;)Z"⟩, 3) := ⟨⟨by decide +kernel, by decide +kernel⟩, List.mem_of_getElem? (i := 116) (by decide +kernel), List.mem_of_getElem? (i := 401) (by decide +kernel), List.mem_of_getElem? (i := 402) (by decide +kernel)⟩
theorem lw_p5 : lw_okq (⟨"SevenEights$Text", "readPair", "()I"⟩, 3) := ⟨⟨by decide +kernel, by decide +kernel⟩, List.mem_of_getElem? (i := 116) (by decide +kernel), List.mem_of_getElem? (i := 405) (by decide +kernel), List.mem_of_getElem? (i := 406) (by decide +kernel)⟩
theorem lw_p6 : lw_okq (⟨"SevenEights$Text", "readNumber", "(II)I"⟩, 3) := ⟨⟨by decide +kernel, by decide +kernel⟩, List.mem_of_getElem? (i := 116) (by decide +kernel), List.mem_of_getElem? (i := 409) (by decide +kernel), List.mem_of_getElem? (i := 410) (by decide +kernel)⟩
theorem lw_p7 : lw_okq (⟨"SevenEights$Text", "isNextSemicolon", "()Z"⟩, 3) := ⟨⟨by decide +kernel, by decide +kernel⟩, List.mem_of_getElem? (i := 116) (by decide +kernel), List.mem_of_getElem? (i := 423) (by decide +kernel), List.mem_of_getElem? (i := 424) (by decide +kernel)⟩
theorem lw_p8 : lw_okq (⟨"SevenEights$Text", "readTell", "(LSevenEights$Lesson;)Z"⟩, 3) := ⟨⟨by decide +kernel, by decide +kernel⟩, List.mem_of_getElem? (i := 116) (by decide +kernel), List.mem_of_getElem? (i := 432) (by decide +kernel), List.mem_of_getElem? (i := 433) (by decide +kernel)⟩
theorem lw_p9 : lw_okq (⟨"SevenEights$Text", "readRest", "(LSevenEights$Lesson;)Z"⟩, 3) := ⟨⟨by decide +kernel, by decide +kernel⟩, List.mem_of_getElem? (i := 116) (by decide +kernel), List.mem_of_getElem? (i := 437) (by decide +kernel), List.mem_of_getElem? (i := 438) (by decide +kernel)⟩
theorem lw_p10 : lw_okq (⟨"SevenEights$Answer", "become", "(IIII)V"⟩, 4) := ⟨⟨by decide +kernel, by decide +kernel⟩, List.mem_of_getElem? (i := 139) (by decide +kernel), List.mem_of_getElem? (i := 571) (by decide +kernel), List.mem_of_getElem? (i := 572) (by decide +kernel)⟩
theorem lw_p11 : lw_okq (⟨"SevenEights", "knownSet", "(LSevenEights$Learner;I)J"⟩, 14) := ⟨⟨by decide +kernel, by decide +kernel⟩, List.mem_of_getElem? (i := 21) (by decide +kernel), List.mem_of_getElem? (i := 633) (by decide +kernel), List.mem_of_getElem? (i := 634) (by decide +kernel)⟩
theorem lw_p12 : lw_okq (⟨"SevenEights$Plan", "offer", "(II)V"⟩, 5) := ⟨⟨by decide +kernel, by decide +kernel⟩, List.mem_of_getElem? (i := 164) (by decide +kernel), List.mem_of_getElem? (i := 676) (by decide +kernel), List.mem_of_getElem? (i := 677) (by decide +kernel)⟩
theorem lw_p13 : lw_okq (⟨"SevenEights", "howManyKnow", "(II)I"⟩, 14) := ⟨⟨by decide +kernel, by decide +kernel⟩, List.mem_of_getElem? (i := 21) (by decide +kernel), List.mem_of_getElem? (i := 693) (by decide +kernel), List.mem_of_getElem? (i := 694) (by decide +kernel)⟩
theorem lw_p14 : lw_okq (⟨"SevenEights", "countSlips", "(LSevenEights$Learner;I)V"⟩, 14) := ⟨⟨by decide +kernel, by decide +kernel⟩, List.mem_of_getElem? (i := 21) (by decide +kernel), List.mem_of_getElem? (i := 701) (by decide +kernel), List.mem_of_getElem? (i := 702) (by decide +kernel)⟩
theorem lw_p15 : lw_okq (⟨"SevenEights", "fillRows", "(LSevenEights$Rows;LSevenEights$Learner;)V"⟩, 14) := ⟨⟨by decide +kernel, by decide +kernel⟩, List.mem_of_getElem? (i := 21) (by decide +kernel), List.mem_of_getElem? (i := 729) (by decide +kernel), List.mem_of_getElem? (i := 730) (by decide +kernel)⟩
def lw_privs_1 : List (MethodName × Nat) := [(⟨"SevenEights$Text", "skipBlanks", "()V"⟩, 3), (⟨"SevenEights$Text", "readItem", "(LSevenEights$Lesson;)Z"⟩, 3), (⟨"SevenEights$Text", "isNextName", "(Ljava/lang/String;)Z"⟩, 3), (⟨"SevenEights$Text", "endOfRow", "(CC)I"⟩, 3), (⟨"SevenEights$Text", "readAsk", "(LSevenEights$Lesson;)Z"⟩, 3), (⟨"SevenEights$Text", "readPair", "()I"⟩, 3), (⟨"SevenEights$Text", "readNumber", "(II)I"⟩, 3), (⟨"SevenEights$Text", "isNextSemicolon", "()Z"⟩, 3), (⟨"SevenEights$Text", "readTell", "(LSevenEights$Lesson;)Z"⟩, 3), (⟨"SevenEights$Text", "readRest", "(LSevenEights$Lesson;)Z"⟩, 3), (⟨"SevenEights$Answer", "become", "(IIII)V"⟩, 4), (⟨"SevenEights", "knownSet", "(LSevenEights$Learner;I)J"⟩, 14), (⟨"SevenEights$Plan", "offer", "(II)V"⟩, 5), (⟨"SevenEights", "howManyKnow", "(II)I"⟩, 14), (⟨"SevenEights", "countSlips", "(LSevenEights$Learner;I)V"⟩, 14), (⟨"SevenEights", "fillRows", "(LSevenEights$Rows;LSevenEights$Learner;)V"⟩, 14)]
theorem lw_r1 : ∀ q ∈ lw_privs_1, lw_okq q := List.forall_mem_cons.mpr ⟨lw_p0, List.forall_mem_cons.mpr ⟨lw_p1, List.forall_mem_cons.mpr ⟨lw_p2, List.forall_mem_cons.mpr ⟨lw_p3, List.forall_mem_cons.mpr ⟨lw_p4, List.forall_mem_cons.mpr ⟨lw_p5, List.forall_mem_cons.mpr ⟨lw_p6, List.forall_mem_cons.mpr ⟨lw_p7, List.forall_mem_cons.mpr ⟨lw_p8, List.forall_mem_cons.mpr ⟨lw_p9, List.forall_mem_cons.mpr ⟨lw_p10, List.forall_mem_cons.mpr ⟨lw_p11, List.forall_mem_cons.mpr ⟨lw_p12, List.forall_mem_cons.mpr ⟨lw_p13, List.forall_mem_cons.mpr ⟨lw_p14, List.forall_mem_cons.mpr ⟨lw_p15, fun _ h => absurd h List.not_mem_nil⟩⟩⟩⟩⟩⟩⟩⟩⟩⟩⟩⟩⟩⟩⟩⟩
theorem lw_p16 : lw_okq (⟨"SevenEightsModel", "place", "(II)I"⟩, 41) := ⟨⟨by decide +kernel, by decide +kernel⟩, List.mem_of_getElem? (i := 884) (by decide +kernel), List.mem_of_getElem? (i := 1058) (by decide +kernel), List.mem_of_getElem? (i := 1059) (by decide +kernel)⟩
theorem lw_p17 : lw_okq (⟨"SevenEightsModel", "isLearner", "(I)Z"⟩, 41) := ⟨⟨by decide +kernel, by decide +kernel⟩, List.mem_of_getElem? (i := 884) (by decide +kernel), List.mem_of_getElem? (i := 1066) (by decide +kernel), List.mem_of_getElem? (i := 1067) (by decide +kernel)⟩
theorem lw_p18 : lw_okq (⟨"SevenEightsModel", "kindOf", "(I)I"⟩, 41) := ⟨⟨by decide +kernel, by decide +kernel⟩, List.mem_of_getElem? (i := 884) (by decide +kernel), List.mem_of_getElem? (i := 1070) (by decide +kernel), List.mem_of_getElem? (i := 1071) (by decide +kernel)⟩
theorem lw_p19 : lw_okq (⟨"SevenEightsModel", "aOf", "(I)I"⟩, 41) := ⟨⟨by decide +kernel, by decide +kernel⟩, List.mem_of_getElem? (i := 884) (by decide +kernel), List.mem_of_getElem? (i := 1074) (by decide +kernel), List.mem_of_getElem? (i := 1075) (by decide +kernel)⟩
theorem lw_p20 : lw_okq (⟨"SevenEightsModel", "firmInAll", "(I)I"⟩, 41) := ⟨⟨by decide +kernel, by decide +kernel⟩, List.mem_of_getElem? (i := 884) (by decide +kernel), List.mem_of_getElem? (i := 1078) (by decide +kernel), List.mem_of_getElem? (i := 1079) (by decide +kernel)⟩
theorem lw_p21 : lw_okq (⟨"SevenEightsModel", "firmOf", "(II)I"⟩, 41) := ⟨⟨by decide +kernel, by decide +kernel⟩, List.mem_of_getElem? (i := 884) (by decide +kernel), List.mem_of_getElem? (i := 1082) (by decide +kernel), List.mem_of_getElem? (i := 1083) (by decide +kernel)⟩
theorem lw_p22 : lw_okq (⟨"SevenEightsModel", "boxOf", "(II)I"⟩, 41) := ⟨⟨by decide +kernel, by decide +kernel⟩, List.mem_of_getElem? (i := 884) (by decide +kernel), List.mem_of_getElem? (i := 1090) (by decide +kernel), List.mem_of_getElem? (i := 1091) (by decide +kernel)⟩
theorem lw_p23 : lw_okq (⟨"SevenEightsModel", "rightsOf", "(II)I"⟩, 41) := ⟨⟨by decide +kernel, by decide +kernel⟩, List.mem_of_getElem? (i := 884) (by decide +kernel), List.mem_of_getElem? (i := 1094) (by decide +kernel), List.mem_of_getElem? (i := 1095) (by decide +kernel)⟩
theorem lw_p24 : lw_okq (⟨"SevenEightsModel", "dueOf", "(II)I"⟩, 41) := ⟨⟨by decide +kernel, by decide +kernel⟩, List.mem_of_getElem? (i := 884) (by decide +kernel), List.mem_of_getElem? (i := 1098) (by decide +kernel), List.mem_of_getElem? (i := 1099) (by decide +kernel)⟩
theorem lw_p25 : lw_okq (⟨"SevenEightsModel", "latestOf", "(II)I"⟩, 41) := ⟨⟨by decide +kernel, by decide +kernel⟩, List.mem_of_getElem? (i := 884) (by decide +kernel), List.mem_of_getElem? (i := 1102) (by decide +kernel), List.mem_of_getElem? (i := 1103) (by decide +kernel)⟩
theorem lw_p26 : lw_okq (⟨"SevenEightsModel", "feelOf", "(III)I"⟩, 41) := ⟨⟨by decide +kernel, by decide +kernel⟩, List.mem_of_getElem? (i := 884) (by decide +kernel), List.mem_of_getElem? (i := 1129) (by decide +kernel), List.mem_of_getElem? (i := 1130) (by decide +kernel)⟩
theorem lw_p27 : lw_okq (⟨"SevenEightsModel", "says", "(III)V"⟩, 41) := ⟨⟨by decide +kernel, by decide +kernel⟩, List.mem_of_getElem? (i := 884) (by decide +kernel), List.mem_of_getElem? (i := 1140) (by decide +kernel), List.mem_of_getElem? (i := 1141) (by decide +kernel)⟩
theorem lw_p28 : lw_okq (⟨"SevenEightsModel", "isAtOnce", "(III)Z"⟩, 41) := ⟨⟨by decide +kernel, by decide +kernel⟩, List.mem_of_getElem? (i := 884) (by decide +kernel), List.mem_of_getElem? (i := 1144) (by decide +kernel), List.mem_of_getElem? (i := 1145) (by decide +kernel)⟩
theorem lw_p29 : lw_okq (⟨"SevenEightsModel", "wayFrom", "(III)I"⟩, 41) := ⟨⟨by decide +kernel, by decide +kernel⟩, List.mem_of_getElem? (i := 884) (by decide +kernel), List.mem_of_getElem? (i := 1151) (by decide +kernel), List.mem_of_getElem? (i := 1152) (by decide +kernel)⟩
theorem lw_p30 : lw_okq (⟨"SevenEightsModel", "stepOf", "(I)I"⟩, 41) := ⟨⟨by decide +kernel, by decide +kernel⟩, List.mem_of_getElem? (i := 884) (by decide +kernel), List.mem_of_getElem? (i := 1155) (by decide +kernel), List.mem_of_getElem? (i := 1156) (by decide +kernel)⟩
theorem lw_p31 : lw_okq (⟨"SevenEightsModel", "slipTo", "(III)I"⟩, 41) := ⟨⟨by decide +kernel, by decide +kernel⟩, List.mem_of_getElem? (i := 884) (by decide +kernel), List.mem_of_getElem? (i := 1159) (by decide +kernel), List.mem_of_getElem? (i := 1160) (by decide +kernel)⟩
def lw_privs_2 : List (MethodName × Nat) := [(⟨"SevenEightsModel", "place", "(II)I"⟩, 41), (⟨"SevenEightsModel", "isLearner", "(I)Z"⟩, 41), (⟨"SevenEightsModel", "kindOf", "(I)I"⟩, 41), (⟨"SevenEightsModel", "aOf", "(I)I"⟩, 41), (⟨"SevenEightsModel", "firmInAll", "(I)I"⟩, 41), (⟨"SevenEightsModel", "firmOf", "(II)I"⟩, 41), (⟨"SevenEightsModel", "boxOf", "(II)I"⟩, 41), (⟨"SevenEightsModel", "rightsOf", "(II)I"⟩, 41), (⟨"SevenEightsModel", "dueOf", "(II)I"⟩, 41), (⟨"SevenEightsModel", "latestOf", "(II)I"⟩, 41), (⟨"SevenEightsModel", "feelOf", "(III)I"⟩, 41), (⟨"SevenEightsModel", "says", "(III)V"⟩, 41), (⟨"SevenEightsModel", "isAtOnce", "(III)Z"⟩, 41), (⟨"SevenEightsModel", "wayFrom", "(III)I"⟩, 41), (⟨"SevenEightsModel", "stepOf", "(I)I"⟩, 41), (⟨"SevenEightsModel", "slipTo", "(III)I"⟩, 41)]
theorem lw_r2 : ∀ q ∈ lw_privs_2, lw_okq q := List.forall_mem_cons.mpr ⟨lw_p16, List.forall_mem_cons.mpr ⟨lw_p17, List.forall_mem_cons.mpr ⟨lw_p18, List.forall_mem_cons.mpr ⟨lw_p19, List.forall_mem_cons.mpr ⟨lw_p20, List.forall_mem_cons.mpr ⟨lw_p21, List.forall_mem_cons.mpr ⟨lw_p22, List.forall_mem_cons.mpr ⟨lw_p23, List.forall_mem_cons.mpr ⟨lw_p24, List.forall_mem_cons.mpr ⟨lw_p25, List.forall_mem_cons.mpr ⟨lw_p26, List.forall_mem_cons.mpr ⟨lw_p27, List.forall_mem_cons.mpr ⟨lw_p28, List.forall_mem_cons.mpr ⟨lw_p29, List.forall_mem_cons.mpr ⟨lw_p30, List.forall_mem_cons.mpr ⟨lw_p31, fun _ h => absurd h List.not_mem_nil⟩⟩⟩⟩⟩⟩⟩⟩⟩⟩⟩⟩⟩⟩⟩⟩
theorem lw_p32 : lw_okq (⟨"SevenEightsModel", "said", "(I)I"⟩, 41) := ⟨⟨by decide +kernel, by decide +kernel⟩, List.mem_of_getElem? (i := 884) (by decide +kernel), List.mem_of_getElem? (i := 1163) (by decide +kernel), List.mem_of_getElem? (i := 1164) (by decide +kernel)⟩
theorem lw_p33 : lw_okq (⟨"SevenEightsModel", "asked", "(III)I"⟩, 41) := ⟨⟨by decide +kernel, by decide +kernel⟩, List.mem_of_getElem? (i := 884) (by decide +kernel), List.mem_of_getElem? (i := 1171) (by decide +kernel), List.mem_of_getElem? (i := 1172) (by decide +kernel)⟩
theorem lw_p34 : lw_okq (⟨"SevenEightsModel", "firmBecomes", "(III)V"⟩, 41) := ⟨⟨by decide +kernel, by decide +kernel⟩, List.mem_of_getElem? (i := 884) (by decide +kernel), List.mem_of_getElem? (i := 1175) (by decide +kernel), List.mem_of_getElem? (i := 1176) (by decide +kernel)⟩
theorem lw_p35 : lw_okq (⟨"SevenEightsModel", "isTold", "(II)V"⟩, 41) := ⟨⟨by decide +kernel, by decide +kernel⟩, List.mem_of_getElem? (i := 884) (by decide +kernel), List.mem_of_getElem? (i := 1183) (by decide +kernel), List.mem_of_getElem? (i := 1184) (by decide +kernel)⟩
theorem lw_p36 : lw_okq (⟨"SevenEightsModel", "nightGoes", "()V"⟩, 41) := ⟨⟨by decide +kernel, by decide +kernel⟩, List.mem_of_getElem? (i := 884) (by decide +kernel), List.mem_of_getElem? (i := 1191) (by decide +kernel), List.mem_of_getElem? (i := 1192) (by decide +kernel)⟩
theorem lw_p37 : lw_okq (⟨"SevenEightsModel", "knownSet", "(II)J"⟩, 41) := ⟨⟨by decide +kernel, by decide +kernel⟩, List.mem_of_getElem? (i := 884) (by decide +kernel), List.mem_of_getElem? (i := 1203) (by decide +kernel), List.mem_of_getElem? (i := 1204) (by decide +kernel)⟩
theorem lw_p38 : lw_okq (⟨"SevenEightsModel", "isKnown", "(III)Z"⟩, 41) := ⟨⟨by decide +kernel, by decide +kernel⟩, List.mem_of_getElem? (i := 884) (by decide +kernel), List.mem_of_getElem? (i := 1207) (by decide +kernel), List.mem_of_getElem? (i := 1208) (by decide +kernel)⟩
theorem lw_p39 : lw_okq (⟨"SevenEightsModel", "lends", "()V"⟩, 41) := ⟨⟨by decide +kernel, by decide +kernel⟩, List.mem_of_getElem? (i := 884) (by decide +kernel), List.mem_of_getElem? (i := 1215) (by decide +kernel), List.mem_of_getElem? (i := 1216) (by decide +kernel)⟩
theorem lw_p40 : lw_okq (⟨"SevenEightsModel", "findBehind", "(II)V"⟩, 41) := ⟨⟨by decide +kernel, by decide +kernel⟩, List.mem_of_getElem? (i := 884) (by decide +kernel), List.mem_of_getElem? (i := 1240) (by decide +kernel), List.mem_of_getElem? (i := 1241) (by decide +kernel)⟩
theorem lw_p41 : lw_okq (⟨"SevenEightsModel", "firmBehind", "(III)I"⟩, 41) := ⟨⟨by decide +kernel, by decide +kernel⟩, List.mem_of_getElem? (i := 884) (by decide +kernel), List.mem_of_getElem? (i := 1244) (by decide +kernel), List.mem_of_getElem? (i := 1245) (by decide +kernel)⟩
theorem lw_p42 : lw_okq (⟨"SevenEightsModel", "advance", "()V"⟩, 41) := ⟨⟨by decide +kernel, by decide +kernel⟩, List.mem_of_getElem? (i := 884) (by decide +kernel), List.mem_of_getElem? (i := 1269) (by decide +kernel), List.mem_of_getElem? (i := 1270) (by decide +kernel)⟩
theorem lw_p43 : lw_okq (⟨"SevenEightsModel", "byteAt", "(I)I"⟩, 41) := ⟨⟨by decide +kernel, by decide +kernel⟩, List.mem_of_getElem? (i := 884) (by decide +kernel), List.mem_of_getElem? (i := 1273) (by decide +kernel), List.mem_of_getElem? (i := 1274) (by decide +kernel)⟩
theorem lw_p44 : lw_okq (⟨"SevenEightsModel", "wantItem", "(I)V"⟩, 41) := ⟨⟨by decide +kernel, by decide +kernel⟩, List.mem_of_getElem? (i := 884) (by decide +kernel), List.mem_of_getElem? (i := 1285) (by decide +kernel), List.mem_of_getElem? (i := 1286) (by decide +kernel)⟩
theorem lw_p45 : lw_okq (⟨"SevenEightsModel", "isWord", "(J)Z"⟩, 41) := ⟨⟨by decide +kernel, by decide +kernel⟩, List.mem_of_getElem? (i := 884) (by decide +kernel), List.mem_of_getElem? (i := 1290) (by decide +kernel), List.mem_of_getElem? (i := 1291) (by decide +kernel)⟩
theorem lw_p46 : lw_okq (⟨"SevenEightsModel", "wantNumber", "(II)I"⟩, 41) := ⟨⟨by decide +kernel, by decide +kernel⟩, List.mem_of_getElem? (i := 884) (by decide +kernel), List.mem_of_getElem? (i := 1296) (by decide +kernel), List.mem_of_getElem? (i := 1297) (by decide +kernel)⟩
theorem lw_p47 : lw_okq (⟨"SevenEightsModel", "isMark", "(I)Z"⟩, 41) := ⟨⟨by decide +kernel, by decide +kernel⟩, List.mem_of_getElem? (i := 884) (by decide +kernel), List.mem_of_getElem? (i := 1301) (by decide +kernel), List.mem_of_getElem? (i := 1302) (by decide +kernel)⟩
def lw_privs_3 : List (MethodName × Nat) := [(⟨"SevenEightsModel", "said", "(I)I"⟩, 41), (⟨"SevenEightsModel", "asked", "(III)I"⟩, 41), (⟨"SevenEightsModel", "firmBecomes", "(III)V"⟩, 41), (⟨"SevenEightsModel", "isTold", "(II)V"⟩, 41), (⟨"SevenEightsModel", "nightGoes", "()V"⟩, 41), (⟨"SevenEightsModel", "knownSet", "(II)J"⟩, 41), (⟨"SevenEightsModel", "isKnown", "(III)Z"⟩, 41), (⟨"SevenEightsModel", "lends", "()V"⟩, 41), (⟨"SevenEightsModel", "findBehind", "(II)V"⟩, 41), (⟨"SevenEightsModel", "firmBehind", "(III)I"⟩, 41), (⟨"SevenEightsModel", "advance", "()V"⟩, 41), (⟨"SevenEightsModel", "byteAt", "(I)I"⟩, 41), (⟨"SevenEightsModel", "wantItem", "(I)V"⟩, 41), (⟨"SevenEightsModel", "isWord", "(J)Z"⟩, 41), (⟨"SevenEightsModel", "wantNumber", "(II)I"⟩, 41), (⟨"SevenEightsModel", "isMark", "(I)Z"⟩, 41)]
theorem lw_r3 : ∀ q ∈ lw_privs_3, lw_okq q := List.forall_mem_cons.mpr ⟨lw_p32, List.forall_mem_cons.mpr ⟨lw_p33, List.forall_mem_cons.mpr ⟨lw_p34, List.forall_mem_cons.mpr ⟨lw_p35, List.forall_mem_cons.mpr ⟨lw_p36, List.forall_mem_cons.mpr ⟨lw_p37, List.forall_mem_cons.mpr ⟨lw_p38, List.forall_mem_cons.mpr ⟨lw_p39, List.forall_mem_cons.mpr ⟨lw_p40, List.forall_mem_cons.mpr ⟨lw_p41, List.forall_mem_cons.mpr ⟨lw_p42, List.forall_mem_cons.mpr ⟨lw_p43, List.forall_mem_cons.mpr ⟨lw_p44, List.forall_mem_cons.mpr ⟨lw_p45, List.forall_mem_cons.mpr ⟨lw_p46, List.forall_mem_cons.mpr ⟨lw_p47, fun _ h => absurd h List.not_mem_nil⟩⟩⟩⟩⟩⟩⟩⟩⟩⟩⟩⟩⟩⟩⟩⟩
theorem lw_p48 : lw_okq (⟨"SevenEightsModel", "does", "(II)I"⟩, 41) := ⟨⟨by decide +kernel, by decide +kernel⟩, List.mem_of_getElem? (i := 884) (by decide +kernel), List.mem_of_getElem? (i := 1309) (by decide +kernel), List.mem_of_getElem? (i := 1310) (by decide +kernel)⟩
theorem lw_p49 : lw_okq (⟨"SevenEightsModel", "findRows", "(I)V"⟩, 41) := ⟨⟨by decide +kernel, by decide +kernel⟩, List.mem_of_getElem? (i := 884) (by decide +kernel), List.mem_of_getElem? (i := 1330) (by decide +kernel), List.mem_of_getElem? (i := 1331) (by decide +kernel)⟩
theorem lw_p50 : lw_okq (⟨"SevenEightsModel", "isRow", "(II)Z"⟩, 41) := ⟨⟨by decide +kernel, by decide +kernel⟩, List.mem_of_getElem? (i := 884) (by decide +kernel), List.mem_of_getElem? (i := 1338) (by decide +kernel), List.mem_of_getElem? (i := 1339) (by decide +kernel)⟩
theorem lw_p51 : lw_okq (⟨"SevenEightsModel", "lacksSort", "(II)I"⟩, 41) := ⟨⟨by decide +kernel, by decide +kernel⟩, List.mem_of_getElem? (i := 884) (by decide +kernel), List.mem_of_getElem? (i := 1357) (by decide +kernel), List.mem_of_getElem? (i := 1358) (by decide +kernel)⟩
theorem lw_p52 : lw_okq (⟨"SevenEightsModel", "isHeld", "(II)Z"⟩, 41) := ⟨⟨by decide +kernel, by decide +kernel⟩, List.mem_of_getElem? (i := 884) (by decide +kernel), List.mem_of_getElem? (i := 1377) (by decide +kernel), List.mem_of_getElem? (i := 1378) (by decide +kernel)⟩
theorem lw_p53 : lw_okq (⟨"SevenEightsModel", "kindOn", "(I)I"⟩, 41) := ⟨⟨by decide +kernel, by decide +kernel⟩, List.mem_of_getElem? (i := 884) (by decide +kernel), List.mem_of_getElem? (i := 1385) (by decide +kernel), List.mem_of_getElem? (i := 1386) (by decide +kernel)⟩
theorem lw_p54 : lw_okq (⟨"SevenEightsModel", "saysIt", "(I)I"⟩, 41) := ⟨⟨by decide +kernel, by decide +kernel⟩, List.mem_of_getElem? (i := 884) (by decide +kernel), List.mem_of_getElem? (i := 1396) (by decide +kernel), List.mem_of_getElem? (i := 1397) (by decide +kernel)⟩
theorem lw_p55 : lw_okq (⟨"SevenEightsModel", "parrotSays", "(I)I"⟩, 41) := ⟨⟨by decide +kernel, by decide +kernel⟩, List.mem_of_getElem? (i := 884) (by decide +kernel), List.mem_of_getElem? (i := 1400) (by decide +kernel), List.mem_of_getElem? (i := 1401) (by decide +kernel)⟩
theorem lw_p56 : lw_okq (⟨"SevenEightsModel", "ran", "(I)V"⟩, 41) := ⟨⟨by decide +kernel, by decide +kernel⟩, List.mem_of_getElem? (i := 884) (by decide +kernel), List.mem_of_getElem? (i := 1404) (by decide +kernel), List.mem_of_getElem? (i := 1405) (by decide +kernel)⟩
theorem lw_p57 : lw_okq (⟨"SevenEightsModel", "plainSays", "(I)I"⟩, 41) := ⟨⟨by decide +kernel, by decide +kernel⟩, List.mem_of_getElem? (i := 884) (by decide +kernel), List.mem_of_getElem? (i := 1408) (by decide +kernel), List.mem_of_getElem? (i := 1409) (by decide +kernel)⟩
theorem lw_p58 : lw_okq (⟨"SevenEightsModel", "learnsIt", "(I)I"⟩, 41) := ⟨⟨by decide +kernel, by decide +kernel⟩, List.mem_of_getElem? (i := 884) (by decide +kernel), List.mem_of_getElem? (i := 1412) (by decide +kernel), List.mem_of_getElem? (i := 1413) (by decide +kernel)⟩
theorem lw_p59 : lw_okq (⟨"SevenEightsModel", "plainLearns", "(I)I"⟩, 41) := ⟨⟨by decide +kernel, by decide +kernel⟩, List.mem_of_getElem? (i := 884) (by decide +kernel), List.mem_of_getElem? (i := 1416) (by decide +kernel), List.mem_of_getElem? (i := 1417) (by decide +kernel)⟩
theorem lw_p60 : lw_okq (⟨"SevenEightsModel", "sharesIt", "(I)I"⟩, 41) := ⟨⟨by decide +kernel, by decide +kernel⟩, List.mem_of_getElem? (i := 884) (by decide +kernel), List.mem_of_getElem? (i := 1420) (by decide +kernel), List.mem_of_getElem? (i := 1421) (by decide +kernel)⟩
theorem lw_p61 : lw_okq (⟨"SevenEightsModel", "plainShares", "(I)I"⟩, 41) := ⟨⟨by decide +kernel, by decide +kernel⟩, List.mem_of_getElem? (i := 884) (by decide +kernel), List.mem_of_getElem? (i := 1424) (by decide +kernel), List.mem_of_getElem? (i := 1425) (by decide +kernel)⟩
theorem lw_p62 : lw_okq (⟨"SevenEightsModel", "tellsIt", "(I)I"⟩, 41) := ⟨⟨by decide +kernel, by decide +kernel⟩, List.mem_of_getElem? (i := 884) (by decide +kernel), List.mem_of_getElem? (i := 1428) (by decide +kernel), List.mem_of_getElem? (i := 1429) (by decide +kernel)⟩
theorem lw_p63 : lw_okq (⟨"SevenEightsModel", "plainTells", "(I)I"⟩, 41) := ⟨⟨by decide +kernel, by decide +kernel⟩, List.mem_of_getElem? (i := 884) (by decide +kernel), List.mem_of_getElem? (i := 1432) (by decide +kernel), List.mem_of_getElem? (i := 1433) (by decide +kernel)⟩
def lw_privs_4 : List (MethodName × Nat) := [(⟨"SevenEightsModel", "does", "(II)I"⟩, 41), (⟨"SevenEightsModel", "findRows", "(I)V"⟩, 41), (⟨"SevenEightsModel", "isRow", "(II)Z"⟩, 41), (⟨"SevenEightsModel", "lacksSort", "(II)I"⟩, 41), (⟨"SevenEightsModel", "isHeld", "(II)Z"⟩, 41), (⟨"SevenEightsModel", "kindOn", "(I)I"⟩, 41), (⟨"SevenEightsModel", "saysIt", "(I)I"⟩, 41), (⟨"SevenEightsModel", "parrotSays", "(I)I"⟩, 41), (⟨"SevenEightsModel", "ran", "(I)V"⟩, 41), (⟨"SevenEightsModel", "plainSays", "(I)I"⟩, 41), (⟨"SevenEightsModel", "learnsIt", "(I)I"⟩, 41), (⟨"SevenEightsModel", "plainLearns", "(I)I"⟩, 41), (⟨"SevenEightsModel", "sharesIt", "(I)I"⟩, 41), (⟨"SevenEightsModel", "plainShares", "(I)I"⟩, 41), (⟨"SevenEightsModel", "tellsIt", "(I)I"⟩, 41), (⟨"SevenEightsModel", "plainTells", "(I)I"⟩, 41)]
theorem lw_r4 : ∀ q ∈ lw_privs_4, lw_okq q := List.forall_mem_cons.mpr ⟨lw_p48, List.forall_mem_cons.mpr ⟨lw_p49, List.forall_mem_cons.mpr ⟨lw_p50, List.forall_mem_cons.mpr ⟨lw_p51, List.forall_mem_cons.mpr ⟨lw_p52, List.forall_mem_cons.mpr ⟨lw_p53, List.forall_mem_cons.mpr ⟨lw_p54, List.forall_mem_cons.mpr ⟨lw_p55, List.forall_mem_cons.mpr ⟨lw_p56, List.forall_mem_cons.mpr ⟨lw_p57, List.forall_mem_cons.mpr ⟨lw_p58, List.forall_mem_cons.mpr ⟨lw_p59, List.forall_mem_cons.mpr ⟨lw_p60, List.forall_mem_cons.mpr ⟨lw_p61, List.forall_mem_cons.mpr ⟨lw_p62, List.forall_mem_cons.mpr ⟨lw_p63, fun _ h => absurd h List.not_mem_nil⟩⟩⟩⟩⟩⟩⟩⟩⟩⟩⟩⟩⟩⟩⟩⟩
theorem lw_p64 : lw_okq (⟨"SevenEightsModel", "moveAll", "(Z)V"⟩, 41) := ⟨⟨by decide +kernel, by decide +kernel⟩, List.mem_of_getElem? (i := 884) (by decide +kernel), List.mem_of_getElem? (i := 1448) (by decide +kernel), List.mem_of_getElem? (i := 1449) (by decide +kernel)⟩
theorem lw_p65 : lw_okq (⟨"SevenEightsModel", "moveRow", "([IIZ)V"⟩, 41) := ⟨⟨by decide +kernel, by decide +kernel⟩, List.mem_of_getElem? (i := 884) (by decide +kernel), List.mem_of_getElem? (i := 1452) (by decide +kernel), List.mem_of_getElem? (i := 1453) (by decide +kernel)⟩
def lw_privs_5 : List (MethodName × Nat) := [(⟨"SevenEightsModel", "moveAll", "(Z)V"⟩, 41), (⟨"SevenEightsModel", "moveRow", "([IIZ)V"⟩, 41)]
theorem lw_r5 : ∀ q ∈ lw_privs_5, lw_okq q := List.forall_mem_cons.mpr ⟨lw_p64, List.forall_mem_cons.mpr ⟨lw_p65, fun _ h => absurd h List.not_mem_nil⟩⟩
def lw_privs : List (MethodName × Nat) := lw_privs_1 ++ (lw_privs_2 ++ (lw_privs_3 ++ (lw_privs_4 ++ (lw_privs_5))))
def lw_tbl : List Cond := k2_sels lw_privs ++ tables_1
theorem lw_privs_ok : ∀ q ∈ lw_privs, lw_okq q := by
  show ∀ q ∈ lw_privs_1 ++ (lw_privs_2 ++ (lw_privs_3 ++ (lw_privs_4 ++ (lw_privs_5)))), lw_okq q
  exact List.forall_mem_append.mpr ⟨lw_r1, List.forall_mem_append.mpr ⟨lw_r2, List.forall_mem_append.mpr ⟨lw_r3, List.forall_mem_append.mpr ⟨lw_r4, lw_r5⟩⟩⟩⟩
end
section
def R_Answer : String := "SevenEights$Answer"
def F_Answer : u_T := fun k => match k with
  | 0 => ("SevenEights$Answer", "said", "I", false)
  | 1 => ("SevenEights$Answer", "how", "I", false)
  | 2 => ("SevenEights$Answer", "seconds", "I", false)
  | _ => ("SevenEights$Answer", "by", "I", false)
def t_Answer : Nat → FieldType := fun k => match k with
  | 0 => .int
  | 1 => .int
  | 2 => .int
  | _ => .int
theorem n_Answer : ∀ a, a < 4 → ∀ b, b < 4 → a ≠ b → (F_Answer a).2.1 ≠ (F_Answer b).2.1 := by decide +kernel
theorem t_Answer_ok : ∀ k, k < 4 → parseFieldDescriptor (F_Answer k).2.2.1 = some (t_Answer k) := by decide +kernel
def R_Doer : String := "SevenEights$Doer"
def F_Doer : u_T := fun k => match k with
  | 0 => ("SevenEights$Doer", "kind", "I", false)
  | 1 => ("SevenEights$Doer", "n", "I", false)
  | 2 => ("SevenEights$Doer", "a", "I", false)
  | 3 => ("SevenEights$Doer", "isParted", "Z", false)
  | 4 => ("SevenEights$Doer", "bodies", "[I", true)
  | _ => ("SevenEights$Doer", "count", "I", false)
def t_Doer : Nat → FieldType := fun k => match k with
  | 0 => .int
  | 1 => .int
  | 2 => .int
  | 3 => .boolean
  | 4 => .array .int
  | _ => .int
theorem n_Doer : ∀ a, a < 6 → ∀ b, b < 6 → a ≠ b → (F_Doer a).2.1 ≠ (F_Doer b).2.1 := by decide +kernel
theorem t_Doer_ok : ∀ k, k < 6 → parseFieldDescriptor (F_Doer k).2.2.1 = some (t_Doer k) := by decide +kernel
def R_Learner : String := "SevenEights$Learner"
def F_Learner : u_T := fun k => match k with
  | 0 => ("SevenEights$Learner", "kind", "I", false)
  | 1 => ("SevenEights$Learner", "a", "I", false)
  | 2 => ("SevenEights$Learner", "firm", "[I", true)
  | 3 => ("SevenEights$Learner", "rights", "[I", true)
  | _ => ("SevenEights$Learner", "latest", "[I", true)
def t_Learner : Nat → FieldType := fun k => match k with
  | 0 => .int
  | 1 => .int
  | 2 => .array .int
  | 3 => .array .int
  | _ => .array .int
theorem n_Learner : ∀ a, a < 5 → ∀ b, b < 5 → a ≠ b → (F_Learner a).2.1 ≠ (F_Learner b).2.1 := by decide +kernel
theorem t_Learner_ok : ∀ k, k < 5 → parseFieldDescriptor (F_Learner k).2.2.1 = some (t_Learner k) := by decide +kernel
def R_Lesson : String := "SevenEights$Lesson"
def F_Lesson : u_T := fun k => match k with
  | 0 => ("SevenEights$Lesson", "sorts", "[I", true)
  | 1 => ("SevenEights$Lesson", "about", "[I", true)
  | 2 => ("SevenEights$Lesson", "seconds", "[I", true)
  | _ => ("SevenEights$Lesson", "count", "I", false)
def t_Lesson : Nat → FieldType := fun k => match k with
  | 0 => .array .int
  | 1 => .array .int
  | 2 => .array .int
  | _ => .int
theorem n_Lesson : ∀ a, a < 4 → ∀ b, b < 4 → a ≠ b → (F_Lesson a).2.1 ≠ (F_Lesson b).2.1 := by decide +kernel
theorem t_Lesson_ok : ∀ k, k < 4 → parseFieldDescriptor (F_Lesson k).2.2.1 = some (t_Lesson k) := by decide +kernel
def R_Plan : String := "SevenEights$Plan"
def F_Plan : u_T := fun k => match k with
  | 0 => ("SevenEights$Plan", "once", "[I", true)
  | 1 => ("SevenEights$Plan", "twice", "[I", true)
  | 2 => ("SevenEights$Plan", "untold", "I", false)
  | 3 => ("SevenEights$Plan", "gain", "I", false)
  | _ => ("SevenEights$Plan", "first", "I", false)
def t_Plan : Nat → FieldType := fun k => match k with
  | 0 => .array .int
  | 1 => .array .int
  | 2 => .int
  | 3 => .int
  | _ => .int
theorem n_Plan : ∀ a, a < 5 → ∀ b, b < 5 → a ≠ b → (F_Plan a).2.1 ≠ (F_Plan b).2.1 := by decide +kernel
theorem t_Plan_ok : ∀ k, k < 5 → parseFieldDescriptor (F_Plan k).2.2.1 = some (t_Plan k) := by decide +kernel
def R_Rows : String := "SevenEights$Rows"
def F_Rows : u_T := fun k => match k with
  | 0 => ("SevenEights$Rows", "numbers", "[I", true)
  | _ => ("SevenEights$Rows", "count", "I", false)
def t_Rows : Nat → FieldType := fun k => match k with
  | 0 => .array .int
  | _ => .int
theorem n_Rows : ∀ a, a < 2 → ∀ b, b < 2 → a ≠ b → (F_Rows a).2.1 ≠ (F_Rows b).2.1 := by decide +kernel
theorem t_Rows_ok : ∀ k, k < 2 → parseFieldDescriptor (F_Rows k).2.2.1 = some (t_Rows k) := by decide +kernel
def R_School : String := "SevenEights$School"
def F_School : u_T := fun k => match k with
  | 0 => ("SevenEights$School", "learners", "[LSevenEights$Learner;", true)
  | 1 => ("SevenEights$School", "count", "I", false)
  | 2 => ("SevenEights$School", "laws", "[I", true)
  | 3 => ("SevenEights$School", "day", "I", false)
  | 4 => ("SevenEights$School", "z", "I", false)
  | _ => ("SevenEights$School", "lesson", "LSevenEights$Lesson;", true)
def t_School : Nat → FieldType := fun k => match k with
  | 0 => .array (.object "SevenEights$Learner")
  | 1 => .int
  | 2 => .array .int
  | 3 => .int
  | 4 => .int
  | _ => .object "SevenEights$Lesson"
theorem n_School : ∀ a, a < 6 → ∀ b, b < 6 → a ≠ b → (F_School a).2.1 ≠ (F_School b).2.1 := by decide +kernel
theorem t_School_ok : ∀ k, k < 6 → parseFieldDescriptor (F_School k).2.2.1 = some (t_School k) := by decide +kernel
def R_Sheet : String := "SevenEights$Sheet"
def F_Sheet : u_T := fun k => match k with
  | 0 => ("SevenEights$Sheet", "sort", "I", false)
  | 1 => ("SevenEights$Sheet", "length", "I", false)
  | _ => ("SevenEights$Sheet", "items", "[J", true)
def t_Sheet : Nat → FieldType := fun k => match k with
  | 0 => .int
  | 1 => .int
  | _ => .array .long
theorem n_Sheet : ∀ a, a < 3 → ∀ b, b < 3 → a ≠ b → (F_Sheet a).2.1 ≠ (F_Sheet b).2.1 := by decide +kernel
theorem t_Sheet_ok : ∀ k, k < 3 → parseFieldDescriptor (F_Sheet k).2.2.1 = some (t_Sheet k) := by decide +kernel
def R_Shelf : String := "SevenEights$Shelf"
def F_Shelf : u_T := fun k => match k with
  | 0 => ("SevenEights$Shelf", "learner", "I", false)
  | 1 => ("SevenEights$Shelf", "sort", "I", false)
  | _ => ("SevenEights$Shelf", "length", "I", false)
def t_Shelf : Nat → FieldType := fun k => match k with
  | 0 => .int
  | 1 => .int
  | _ => .int
theorem n_Shelf : ∀ a, a < 3 → ∀ b, b < 3 → a ≠ b → (F_Shelf a).2.1 ≠ (F_Shelf b).2.1 := by decide +kernel
theorem t_Shelf_ok : ∀ k, k < 3 → parseFieldDescriptor (F_Shelf k).2.2.1 = some (t_Shelf k) := by decide +kernel
def R_Text : String := "SevenEights$Text"
def F_Text : u_T := fun k => match k with
  | 0 => ("SevenEights$Text", "bytes", "[B", true)
  | 1 => ("SevenEights$Text", "length", "I", false)
  | _ => ("SevenEights$Text", "place", "I", false)
def t_Text : Nat → FieldType := fun k => match k with
  | 0 => .array .byte
  | 1 => .int
  | _ => .int
theorem n_Text : ∀ a, a < 3 → ∀ b, b < 3 → a ≠ b → (F_Text a).2.1 ≠ (F_Text b).2.1 := by decide +kernel
theorem t_Text_ok : ∀ k, k < 3 → parseFieldDescriptor (F_Text k).2.2.1 = some (t_Text k) := by decide +kernel
def R_S : String := "SevenEights"
def F_S : u_T := fun k => match k with
  | 0 => ("SevenEights", "school", "LSevenEights$School;", true)
  | 1 => ("SevenEights", "kept", "LSevenEights$School;", true)
  | 2 => ("SevenEights", "isKept", "Z", false)
  | 3 => ("SevenEights", "tape", "LSevenEights$Text;", true)
  | 4 => ("SevenEights", "spareLesson", "LSevenEights$Lesson;", true)
  | 5 => ("SevenEights", "spareLearner", "LSevenEights$Learner;", true)
  | 6 => ("SevenEights", "answer", "LSevenEights$Answer;", true)
  | 7 => ("SevenEights", "plan", "LSevenEights$Plan;", true)
  | 8 => ("SevenEights", "slips", "[I", true)
  | 9 => ("SevenEights", "rows", "LSevenEights$Rows;", true)
  | 10 => ("SevenEights", "dueRows", "LSevenEights$Rows;", true)
  | 11 => ("SevenEights", "sheets", "[LSevenEights$Sheet;", true)
  | 12 => ("SevenEights", "shelves", "[LSevenEights$Shelf;", true)
  | _ => ("SevenEights", "doer", "LSevenEights$Doer;", true)
def t_S : Nat → FieldType := fun k => match k with
  | 0 => .object "SevenEights$School"
  | 1 => .object "SevenEights$School"
  | 2 => .boolean
  | 3 => .object "SevenEights$Text"
  | 4 => .object "SevenEights$Lesson"
  | 5 => .object "SevenEights$Learner"
  | 6 => .object "SevenEights$Answer"
  | 7 => .object "SevenEights$Plan"
  | 8 => .array .int
  | 9 => .object "SevenEights$Rows"
  | 10 => .object "SevenEights$Rows"
  | 11 => .array (.object "SevenEights$Sheet")
  | 12 => .array (.object "SevenEights$Shelf")
  | _ => .object "SevenEights$Doer"
theorem n_S : ∀ a, a < 14 → ∀ b, b < 14 → a ≠ b → (F_S a).2.1 ≠ (F_S b).2.1 := by decide +kernel
theorem t_S_ok : ∀ k, k < 14 → parseFieldDescriptor (F_S k).2.2.1 = some (t_S k) := by decide +kernel
def R_M : String := "SevenEightsModel"
def F_M : u_T := fun k => match k with
  | 0 => ("SevenEightsModel", "row", "[I", true)
  | 1 => ("SevenEightsModel", "at", "I", false)
  | 2 => ("SevenEightsModel", "laws", "[I", true)
  | 3 => ("SevenEightsModel", "mostOf", "[I", true)
  | 4 => ("SevenEightsModel", "z", "I", false)
  | 5 => ("SevenEightsModel", "how", "I", false)
  | 6 => ("SevenEightsModel", "by", "I", false)
  | 7 => ("SevenEightsModel", "seconds", "I", false)
  | 8 => ("SevenEightsModel", "behind", "[I", true)
  | 9 => ("SevenEightsModel", "drawn", "[I", true)
  | 10 => ("SevenEightsModel", "tape", "[I", true)
  | 11 => ("SevenEightsModel", "tapeMany", "I", false)
  | 12 => ("SevenEightsModel", "sort", "I", false)
  | 13 => ("SevenEightsModel", "begins", "I", false)
  | 14 => ("SevenEightsModel", "tokenEnds", "I", false)
  | 15 => ("SevenEightsModel", "word", "J", false)
  | 16 => ("SevenEightsModel", "value", "I", false)
  | 17 => ("SevenEightsModel", "good", "Z", false)
  | 18 => ("SevenEightsModel", "items", "I", false)
  | 19 => ("SevenEightsModel", "lesson", "[I", true)
  | 20 => ("SevenEightsModel", "fresh", "[I", true)
  | 21 => ("SevenEightsModel", "rows", "[I", true)
  | 22 => ("SevenEightsModel", "must", "[I", true)
  | 23 => ("SevenEightsModel", "rowMany", "I", false)
  | 24 => ("SevenEightsModel", "mustMany", "I", false)
  | 25 => ("SevenEightsModel", "sorts", "[I", true)
  | 26 => ("SevenEightsModel", "sizes", "[I", true)
  | 27 => ("SevenEightsModel", "sheets", "[J", true)
  | 28 => ("SevenEightsModel", "held", "[I", true)
  | 29 => ("SevenEightsModel", "heldNumber", "[I", true)
  | 30 => ("SevenEightsModel", "heldSize", "[I", true)
  | 31 => ("SevenEightsModel", "kind", "I", false)
  | 32 => ("SevenEightsModel", "ownNumber", "I", false)
  | 33 => ("SevenEightsModel", "own", "I", false)
  | 34 => ("SevenEightsModel", "traced", "[I", true)
  | 35 => ("SevenEightsModel", "bodies", "I", false)
  | 36 => ("SevenEightsModel", "isParted", "Z", false)
  | 37 => ("SevenEightsModel", "isKept", "Z", false)
  | 38 => ("SevenEightsModel", "keptRow", "[I", true)
  | 39 => ("SevenEightsModel", "movedTo", "I", false)
  | _ => ("SevenEightsModel", "single", "[I", true)
def t_M : Nat → FieldType := fun k => match k with
  | 0 => .array .int
  | 1 => .int
  | 2 => .array .int
  | 3 => .array .int
  | 4 => .int
  | 5 => .int
  | 6 => .int
  | 7 => .int
  | 8 => .array .int
  | 9 => .array .int
  | 10 => .array .int
  | 11 => .int
  | 12 => .int
  | 13 => .int
  | 14 => .int
  | 15 => .long
  | 16 => .int
  | 17 => .boolean
  | 18 => .int
  | 19 => .array .int
  | 20 => .array .int
  | 21 => .array .int
  | 22 => .array .int
  | 23 => .int
  | 24 => .int
  | 25 => .array .int
  | 26 => .array .int
  | 27 => .array .long
  | 28 => .array .int
  | 29 => .array .int
  | 30 => .array .int
  | 31 => .int
  | 32 => .int
  | 33 => .int
  | 34 => .array .int
  | 35 => .int
  | 36 => .boolean
  | 37 => .boolean
  | 38 => .array .int
  | 39 => .int
  | _ => .array .int
theorem n_M : ∀ a, a < 41 → ∀ b, b < 41 → a ≠ b → (F_M a).2.1 ≠ (F_M b).2.1 := by decide +kernel
theorem t_M_ok : ∀ k, k < 41 → parseFieldDescriptor (F_M k).2.2.1 = some (t_M k) := by decide +kernel
def kl : List vw_C := [(R_Answer, F_Answer, 4), (R_Doer, F_Doer, 6), (R_Learner, F_Learner, 5), (R_Lesson, F_Lesson, 4), (R_Plan, F_Plan, 5), (R_Rows, F_Rows, 2), (R_School, F_School, 6), (R_Sheet, F_Sheet, 3), (R_Shelf, F_Shelf, 3), (R_Text, F_Text, 3), (R_S, F_S, 14), (R_M, F_M, 41)]
/-- a method: name, bytes, locals, answer -/
abbrev MT : Type := MethodName × ByteArray × Nat × Option FieldType
def m_Answer_init : MT := (⟨"SevenEights$Answer", "<init>", "()V"⟩, prog_2_method_1_code, 1, none)
def m_Answer_find : MT := (⟨"SevenEights$Answer", "find", "(LSevenEights$Learner;II[I)V"⟩, prog_2_method_2_code, 8, none)
def m_Answer_isProduct : MT := (⟨"SevenEights$Answer", "isProduct", "()Z"⟩, prog_2_method_3_code, 1, (some .boolean))
def m_Answer_become : MT := (⟨"SevenEights$Answer", "become", "(IIII)V"⟩, prog_2_method_4_code, 5, none)
def m_Answer_wayRound : MT := (⟨"SevenEights$Answer", "wayRound", "(LSevenEights$Learner;III)I"⟩, prog_2_method_5_code, 8, (some .int))
def m_Answer_firmestTied : MT := (⟨"SevenEights$Answer", "firmestTied", "(LSevenEights$Learner;II)I"⟩, prog_2_method_6_code, 8, (some .int))
def m_Doer_init : MT := (⟨"SevenEights$Doer", "<init>", "()V"⟩, prog_3_method_1_code, 1, none)
def m_Doer_clear : MT := (⟨"SevenEights$Doer", "clear", "()V"⟩, prog_3_method_2_code, 1, none)
def m_Doer_become : MT := (⟨"SevenEights$Doer", "become", "(III)V"⟩, prog_3_method_3_code, 4, none)
def m_Doer_bodyOf : MT := (⟨"SevenEights$Doer", "bodyOf", "(I)I"⟩, prog_3_method_4_code, 2, (some .int))
def m_Doer_begin : MT := (⟨"SevenEights$Doer", "begin", "(I)Z"⟩, prog_3_method_5_code, 2, (some .boolean))
def m_Doer_partEvenly : MT := (⟨"SevenEights$Doer", "partEvenly", "(I)I"⟩, prog_3_method_6_code, 3, (some .int))
def m_Learner_init : MT := (⟨"SevenEights$Learner", "<init>", "()V"⟩, prog_4_method_1_code, 1, none)
def m_Learner_start : MT := (⟨"SevenEights$Learner", "start", "(II)V"⟩, prog_4_method_2_code, 4, none)
def m_Learner_copyFrom : MT := (⟨"SevenEights$Learner", "copyFrom", "(LSevenEights$Learner;)V"⟩, prog_4_method_3_code, 2, none)
def m_Learner_firmSum : MT := (⟨"SevenEights$Learner", "firmSum", "()I"⟩, prog_4_method_4_code, 3, (some .int))
def m_Learner_feeling : MT := (⟨"SevenEights$Learner", "feeling", "(II)I"⟩, prog_4_method_5_code, 3, (some .int))
def m_Learner_takes : MT := (⟨"SevenEights$Learner", "takes", "(II)I"⟩, prog_4_method_6_code, 3, (some .int))
def m_Learner_isAtOnce : MT := (⟨"SevenEights$Learner", "isAtOnce", "(III)Z"⟩, prog_4_method_7_code, 5, (some .boolean))
def m_Learner_takesBy : MT := (⟨"SevenEights$Learner", "takesBy", "(I)I"⟩, prog_4_method_8_code, 1, (some .int))
def m_Learner_step : MT := (⟨"SevenEights$Learner", "step", "()I"⟩, prog_4_method_9_code, 1, (some .int))
def m_Learner_hear : MT := (⟨"SevenEights$Learner", "hear", "(I)V"⟩, prog_4_method_10_code, 2, none)
def m_Learner_keepAnswer : MT := (⟨"SevenEights$Learner", "keepAnswer", "(LSevenEights$Answer;II)V"⟩, prog_4_method_11_code, 4, none)
def m_Learner_sleep : MT := (⟨"SevenEights$Learner", "sleep", "(II)V"⟩, prog_4_method_12_code, 4, none)
def m_Learner_box : MT := (⟨"SevenEights$Learner", "box", "(I)I"⟩, prog_4_method_13_code, 2, (some .int))
def m_Learner_due : MT := (⟨"SevenEights$Learner", "due", "(I)I"⟩, prog_4_method_14_code, 2, (some .int))
def m_Lesson_init : MT := (⟨"SevenEights$Lesson", "<init>", "()V"⟩, prog_5_method_1_code, 1, none)
def m_Lesson_append : MT := (⟨"SevenEights$Lesson", "append", "(III)V"⟩, prog_5_method_2_code, 4, none)
def m_Lesson_copyFrom : MT := (⟨"SevenEights$Lesson", "copyFrom", "(LSevenEights$Lesson;)V"⟩, prog_5_method_3_code, 2, none)
def m_Plan_init : MT := (⟨"SevenEights$Plan", "<init>", "()V"⟩, prog_6_method_1_code, 1, none)
def m_Plan_weigh : MT := (⟨"SevenEights$Plan", "weigh", "(LSevenEights$Learner;II)V"⟩, prog_6_method_2_code, 9, none)
def m_Plan_chooseOne : MT := (⟨"SevenEights$Plan", "chooseOne", "()V"⟩, prog_6_method_3_code, 2, none)
def m_Plan_chooseTwo : MT := (⟨"SevenEights$Plan", "chooseTwo", "()V"⟩, prog_6_method_4_code, 3, none)
def m_Plan_offer : MT := (⟨"SevenEights$Plan", "offer", "(II)V"⟩, prog_6_method_5_code, 3, none)
def m_Rows_init : MT := (⟨"SevenEights$Rows", "<init>", "()V"⟩, prog_7_method_1_code, 1, none)
def m_Rows_append : MT := (⟨"SevenEights$Rows", "append", "(III)V"⟩, prog_7_method_2_code, 4, none)
def m_Rows_placeOf : MT := (⟨"SevenEights$Rows", "placeOf", "(II)I"⟩, prog_7_method_3_code, 3, (some .int))
def m_Rows_isSameAt : MT := (⟨"SevenEights$Rows", "isSameAt", "(ILSevenEights$Rows;)Z"⟩, prog_7_method_4_code, 4, (some .boolean))
def m_School_init : MT := (⟨"SevenEights$School", "<init>", "()V"⟩, prog_8_method_1_code, 2, none)
def m_School_learnerAt : MT := (⟨"SevenEights$School", "learnerAt", "(I)LSevenEights$Learner;"⟩, prog_8_method_2_code, 2, (some (.object "SevenEights$Learner")))
def m_School_admit : MT := (⟨"SevenEights$School", "admit", "(II)I"⟩, prog_8_method_3_code, 4, (some .int))
def m_School_rest : MT := (⟨"SevenEights$School", "rest", "(I)V"⟩, prog_8_method_4_code, 3, none)
def m_School_copyFrom : MT := (⟨"SevenEights$School", "copyFrom", "(LSevenEights$School;)V"⟩, prog_8_method_5_code, 3, none)
def m_Sheet_init : MT := (⟨"SevenEights$Sheet", "<init>", "()V"⟩, prog_9_method_1_code, 1, none)
def m_Sheet_isMissing : MT := (⟨"SevenEights$Sheet", "isMissing", "()Z"⟩, prog_9_method_2_code, 1, (some .boolean))
def m_Sheet_lose : MT := (⟨"SevenEights$Sheet", "lose", "()V"⟩, prog_9_method_3_code, 1, none)
def m_Sheet_become : MT := (⟨"SevenEights$Sheet", "become", "(II)V"⟩, prog_9_method_4_code, 4, none)
def m_Sheet_narrowed : MT := (⟨"SevenEights$Sheet", "narrowed", "(I)J"⟩, prog_9_method_5_code, 2, (some .long))
def m_Shelf_init : MT := (⟨"SevenEights$Shelf", "<init>", "()V"⟩, prog_10_method_1_code, 1, none)
def m_Shelf_holdsRow : MT := (⟨"SevenEights$Shelf", "holdsRow", "()Z"⟩, prog_10_method_2_code, 1, (some .boolean))
def m_Shelf_holdNothing : MT := (⟨"SevenEights$Shelf", "holdNothing", "()V"⟩, prog_10_method_3_code, 1, none)
def m_Shelf_holdLearner : MT := (⟨"SevenEights$Shelf", "holdLearner", "(I)V"⟩, prog_10_method_4_code, 2, none)
def m_Shelf_holdRow : MT := (⟨"SevenEights$Shelf", "holdRow", "(LSevenEights$Sheet;)V"⟩, prog_10_method_5_code, 2, none)
def m_Text_init : MT := (⟨"SevenEights$Text", "<init>", "()V"⟩, prog_11_method_1_code, 1, none)
def m_Text_append : MT := (⟨"SevenEights$Text", "append", "(B)V"⟩, prog_11_method_2_code, 2, none)
def m_Text_readInto : MT := (⟨"SevenEights$Text", "readInto", "(LSevenEights$Lesson;)Z"⟩, prog_11_method_3_code, 3, (some .boolean))
def m_Text_readItem : MT := (⟨"SevenEights$Text", "readItem", "(LSevenEights$Lesson;)Z"⟩, prog_11_method_4_code, 2, (some .boolean))
def m_Text_readAsk : MT := (⟨"SevenEights$Text", "readAsk", "(LSevenEights$Lesson;)Z"⟩, prog_11_method_5_code, 4, (some .boolean))
def m_Text_readTell : MT := (⟨"SevenEights$Text", "readTell", "(LSevenEights$Lesson;)Z"⟩, prog_11_method_6_code, 3, (some .boolean))
def m_Text_readRest : MT := (⟨"SevenEights$Text", "readRest", "(LSevenEights$Lesson;)Z"⟩, prog_11_method_7_code, 3, (some .boolean))
def m_Text_readPair : MT := (⟨"SevenEights$Text", "readPair", "()I"⟩, prog_11_method_8_code, 3, (some .int))
def m_Text_readNumber : MT := (⟨"SevenEights$Text", "readNumber", "(II)I"⟩, prog_11_method_9_code, 7, (some .int))
def m_Text_isNextName : MT := (⟨"SevenEights$Text", "isNextName", "(Ljava/lang/String;)Z"⟩, prog_11_method_10_code, 4, (some .boolean))
def m_Text_isNextSemicolon : MT := (⟨"SevenEights$Text", "isNextSemicolon", "()Z"⟩, prog_11_method_11_code, 1, (some .boolean))
def m_Text_endOfRow : MT := (⟨"SevenEights$Text", "endOfRow", "(CC)I"⟩, prog_11_method_12_code, 4, (some .int))
def m_Text_skipBlanks : MT := (⟨"SevenEights$Text", "skipBlanks", "()V"⟩, prog_11_method_13_code, 1, none)
def m_S_init : MT := (⟨"SevenEights", "<init>", "()V"⟩, prog_1_method_1_code, 2, none)
def m_S_feed : MT := (⟨"SevenEights", "feed", "(JI)I"⟩, prog_1_method_2_code, 5, (some .int))
def m_S_lesson : MT := (⟨"SevenEights", "lesson", "()I"⟩, prog_1_method_3_code, 3, (some .int))
def m_S_learner : MT := (⟨"SevenEights", "learner", "(II)I"⟩, prog_1_method_4_code, 3, (some .int))
def m_S_learnerOf : MT := (⟨"SevenEights", "learnerOf", "(II)I"⟩, prog_1_method_5_code, 4, (some .int))
def m_S_pair : MT := (⟨"SevenEights", "pair", "(II)I"⟩, prog_1_method_6_code, 3, (some .int))
def m_S_pairOf : MT := (⟨"SevenEights", "pairOf", "(II)I"⟩, prog_1_method_7_code, 3, (some .int))
def m_S_tied : MT := (⟨"SevenEights", "tied", "(I)J"⟩, prog_1_method_8_code, 6, (some .long))
def m_S_head : MT := (⟨"SevenEights", "head", "(III)I"⟩, prog_1_method_9_code, 5, (some .int))
def m_S_firm : MT := (⟨"SevenEights", "firm", "(III)I"⟩, prog_1_method_10_code, 6, (some .int))
def m_S_rights : MT := (⟨"SevenEights", "rights", "(III)I"⟩, prog_1_method_11_code, 6, (some .int))
def m_S_set : MT := (⟨"SevenEights", "set", "(II)I"⟩, prog_1_method_12_code, 4, (some .int))
def m_S_day : MT := (⟨"SevenEights", "day", "()I"⟩, prog_1_method_13_code, 1, (some .int))
def m_S_feel : MT := (⟨"SevenEights", "feel", "(III)I"⟩, prog_1_method_14_code, 5, (some .int))
def m_S_would : MT := (⟨"SevenEights", "would", "(IIII)I"⟩, prog_1_method_15_code, 6, (some .int))
def m_S_ask : MT := (⟨"SevenEights", "ask", "(III)I"⟩, prog_1_method_16_code, 5, (some .int))
def m_S_tell : MT := (⟨"SevenEights", "tell", "(II)I"⟩, prog_1_method_17_code, 4, (some .int))
def m_S_nights : MT := (⟨"SevenEights", "nights", "(I)I"⟩, prog_1_method_18_code, 2, (some .int))
def m_S_card : MT := (⟨"SevenEights", "card", "(I)I"⟩, prog_1_method_19_code, 5, (some .int))
def m_S_known : MT := (⟨"SevenEights", "known", "(II)J"⟩, prog_1_method_20_code, 4, (some .long))
def m_S_friday : MT := (⟨"SevenEights", "friday", "(III)J"⟩, prog_1_method_21_code, 5, (some .long))
def m_S_odds : MT := (⟨"SevenEights", "odds", "(II)I"⟩, prog_1_method_22_code, 6, (some .int))
def m_S_best : MT := (⟨"SevenEights", "best", "(IIII)I"⟩, prog_1_method_23_code, 6, (some .int))
def m_S_till : MT := (⟨"SevenEights", "till", "(III)I"⟩, prog_1_method_24_code, 7, (some .int))
def m_S_hardest : MT := (⟨"SevenEights", "hardest", "(I)I"⟩, prog_1_method_25_code, 6, (some .int))
def m_S_draws : MT := (⟨"SevenEights", "draws", "(III)I"⟩, prog_1_method_26_code, 7, (some .int))
def m_S_give : MT := (⟨"SevenEights", "give", "(I)I"⟩, prog_1_method_27_code, 6, (some .int))
def m_S_item : MT := (⟨"SevenEights", "item", "(II)I"⟩, prog_1_method_28_code, 3, (some .int))
def m_S_seed : MT := (⟨"SevenEights", "seed", "(I)I"⟩, prog_1_method_29_code, 3, (some .int))
def m_S_draw : MT := (⟨"SevenEights", "draw", "(II)I"⟩, prog_1_method_30_code, 7, (some .int))
def m_S_prove : MT := (⟨"SevenEights", "prove", "(I)I"⟩, prog_1_method_31_code, 3, (some .int))
def m_S_row : MT := (⟨"SevenEights", "row", "(II)I"⟩, prog_1_method_32_code, 4, (some .int))
def m_S_alterRow : MT := (⟨"SevenEights", "alterRow", "(III)I"⟩, prog_1_method_33_code, 6, (some .int))
def m_S_judge : MT := (⟨"SevenEights", "judge", "(I)I"⟩, prog_1_method_34_code, 4, (some .int))
def m_S_firms : MT := (⟨"SevenEights", "firms", "(IIIII)I"⟩, prog_1_method_35_code, 10, (some .int))
def m_S_sheet : MT := (⟨"SevenEights", "sheet", "(III)I"⟩, prog_1_method_36_code, 4, (some .int))
def m_S_put : MT := (⟨"SevenEights", "put", "(III)I"⟩, prog_1_method_37_code, 5, (some .int))
def m_S_number : MT := (⟨"SevenEights", "number", "(III)I"⟩, prog_1_method_38_code, 5, (some .int))
def m_S_shelf : MT := (⟨"SevenEights", "shelf", "(III)I"⟩, prog_1_method_39_code, 4, (some .int))
def m_S_taken : MT := (⟨"SevenEights", "taken", "(II)I"⟩, prog_1_method_40_code, 7, (some .int))
def m_S_act : MT := (⟨"SevenEights", "act", "(III)I"⟩, prog_1_method_41_code, 7, (some .int))
def m_S_trace : MT := (⟨"SevenEights", "trace", "(I)I"⟩, prog_1_method_42_code, 2, (some .int))
def m_S_many : MT := (⟨"SevenEights", "many", "(I)I"⟩, prog_1_method_43_code, 2, (some .int))
def m_S_keep : MT := (⟨"SevenEights", "keep", "()I"⟩, prog_1_method_44_code, 1, (some .int))
def m_S_again : MT := (⟨"SevenEights", "again", "()I"⟩, prog_1_method_45_code, 1, (some .int))
def m_S_isWithin : MT := (⟨"SevenEights", "isWithin", "(II)Z"⟩, prog_1_method_46_code, 2, (some .boolean))
def m_S_isPair : MT := (⟨"SevenEights", "isPair", "(I)Z"⟩, prog_1_method_47_code, 1, (some .boolean))
def m_S_isSeconds : MT := (⟨"SevenEights", "isSeconds", "(I)Z"⟩, prog_1_method_48_code, 1, (some .boolean))
def m_S_isSheet : MT := (⟨"SevenEights", "isSheet", "(I)Z"⟩, prog_1_method_49_code, 1, (some .boolean))
def m_S_isShelf : MT := (⟨"SevenEights", "isShelf", "(I)Z"⟩, prog_1_method_50_code, 1, (some .boolean))
def m_S_pairAt : MT := (⟨"SevenEights", "pairAt", "(II)I"⟩, prog_1_method_51_code, 4, (some .int))
def m_S_product : MT := (⟨"SevenEights", "product", "(I)I"⟩, prog_1_method_52_code, 1, (some .int))
def m_S_nextDoor : MT := (⟨"SevenEights", "nextDoor", "(II)I"⟩, prog_1_method_53_code, 4, (some .int))
def m_S_firmAtFirst : MT := (⟨"SevenEights", "firmAtFirst", "(I)I"⟩, prog_1_method_54_code, 3, (some .int))
def m_S_firmWhenTold : MT := (⟨"SevenEights", "firmWhenTold", "(I)I"⟩, prog_1_method_55_code, 1, (some .int))
def m_S_firmBehindNights : MT := (⟨"SevenEights", "firmBehindNights", "(IIII)I"⟩, prog_1_method_56_code, 6, (some .int))
def m_S_commonDivisor : MT := (⟨"SevenEights", "commonDivisor", "(II)I"⟩, prog_1_method_57_code, 3, (some .int))
def m_S_isUnder : MT := (⟨"SevenEights", "isUnder", "(II)Z"⟩, prog_1_method_58_code, 4, (some .boolean))
def m_S_knownSet : MT := (⟨"SevenEights", "knownSet", "(LSevenEights$Learner;I)J"⟩, prog_1_method_59_code, 6, (some .long))
def m_S_memberAt : MT := (⟨"SevenEights", "memberAt", "(JI)I"⟩, prog_1_method_60_code, 5, (some .int))
def m_S_howManyKnow : MT := (⟨"SevenEights", "howManyKnow", "(II)I"⟩, prog_1_method_61_code, 5, (some .int))
def m_S_countSlips : MT := (⟨"SevenEights", "countSlips", "(LSevenEights$Learner;I)V"⟩, prog_1_method_62_code, 4, none)
def m_S_fillRows : MT := (⟨"SevenEights", "fillRows", "(LSevenEights$Rows;LSevenEights$Learner;)V"⟩, prog_1_method_63_code, 7, none)
def m_S_run : MT := (⟨"SevenEights", "run", "(LSevenEights$Doer;III)I"⟩, prog_1_method_64_code, 7, (some .int))
def m_M_init : MT := (⟨"SevenEightsModel", "<init>", "()V"⟩, prog_13_method_1_code, 1, none)
def m_M_in : MT := (⟨"SevenEightsModel", "in", "(III)Z"⟩, prog_13_method_2_code, 3, (some .boolean))
def m_M_isLearner : MT := (⟨"SevenEightsModel", "isLearner", "(I)Z"⟩, prog_13_method_3_code, 2, (some .boolean))
def m_M_isPair : MT := (⟨"SevenEightsModel", "isPair", "(I)Z"⟩, prog_13_method_4_code, 1, (some .boolean))
def m_M_isTime : MT := (⟨"SevenEightsModel", "isTime", "(I)Z"⟩, prog_13_method_5_code, 1, (some .boolean))
def m_M_isSide : MT := (⟨"SevenEightsModel", "isSide", "(I)Z"⟩, prog_13_method_6_code, 1, (some .boolean))
def m_M_lesser : MT := (⟨"SevenEightsModel", "lesser", "(I)I"⟩, prog_13_method_7_code, 3, (some .int))
def m_M_greater : MT := (⟨"SevenEightsModel", "greater", "(I)I"⟩, prog_13_method_8_code, 3, (some .int))
def m_M_pairBy : MT := (⟨"SevenEightsModel", "pairBy", "(II)I"⟩, prog_13_method_9_code, 6, (some .int))
def m_M_product : MT := (⟨"SevenEightsModel", "product", "(I)I"⟩, prog_13_method_10_code, 1, (some .int))
def m_M_firmAtFirst : MT := (⟨"SevenEightsModel", "firmAtFirst", "(I)I"⟩, prog_13_method_11_code, 3, (some .int))
def m_M_bitOf : MT := (⟨"SevenEightsModel", "bitOf", "(I)J"⟩, prog_13_method_12_code, 1, (some .long))
def m_M_tiedTo : MT := (⟨"SevenEightsModel", "tiedTo", "(I)J"⟩, prog_13_method_13_code, 3, (some .long))
def m_M_pair : MT := (⟨"SevenEightsModel", "pair", "(II)I"⟩, prog_13_method_14_code, 3, (some .int))
def m_M_pairOf : MT := (⟨"SevenEightsModel", "pairOf", "(II)I"⟩, prog_13_method_15_code, 3, (some .int))
def m_M_tied : MT := (⟨"SevenEightsModel", "tied", "(I)J"⟩, prog_13_method_16_code, 2, (some .long))
def m_M_place : MT := (⟨"SevenEightsModel", "place", "(II)I"⟩, prog_13_method_17_code, 3, (some .int))
def m_M_firmOf : MT := (⟨"SevenEightsModel", "firmOf", "(II)I"⟩, prog_13_method_18_code, 3, (some .int))
def m_M_rightsOf : MT := (⟨"SevenEightsModel", "rightsOf", "(II)I"⟩, prog_13_method_19_code, 3, (some .int))
def m_M_latestOf : MT := (⟨"SevenEightsModel", "latestOf", "(II)I"⟩, prog_13_method_20_code, 3, (some .int))
def m_M_kindOf : MT := (⟨"SevenEightsModel", "kindOf", "(I)I"⟩, prog_13_method_21_code, 2, (some .int))
def m_M_aOf : MT := (⟨"SevenEightsModel", "aOf", "(I)I"⟩, prog_13_method_22_code, 2, (some .int))
def m_M_learner : MT := (⟨"SevenEightsModel", "learner", "(II)I"⟩, prog_13_method_23_code, 5, (some .int))
def m_M_firmInAll : MT := (⟨"SevenEightsModel", "firmInAll", "(I)I"⟩, prog_13_method_24_code, 4, (some .int))
def m_M_learnerOf : MT := (⟨"SevenEightsModel", "learnerOf", "(II)I"⟩, prog_13_method_25_code, 3, (some .int))
def m_M_boxOf : MT := (⟨"SevenEightsModel", "boxOf", "(II)I"⟩, prog_13_method_26_code, 4, (some .int))
def m_M_dueOf : MT := (⟨"SevenEightsModel", "dueOf", "(II)I"⟩, prog_13_method_27_code, 3, (some .int))
def m_M_head : MT := (⟨"SevenEightsModel", "head", "(III)I"⟩, prog_13_method_28_code, 4, (some .int))
def m_M_firm : MT := (⟨"SevenEightsModel", "firm", "(III)I"⟩, prog_13_method_29_code, 5, (some .int))
def m_M_rights : MT := (⟨"SevenEightsModel", "rights", "(III)I"⟩, prog_13_method_30_code, 5, (some .int))
def m_M_set : MT := (⟨"SevenEightsModel", "set", "(II)I"⟩, prog_13_method_31_code, 5, (some .int))
def m_M_day : MT := (⟨"SevenEightsModel", "day", "()I"⟩, prog_13_method_32_code, 1, (some .int))
def m_M_kept : MT := (⟨"SevenEightsModel", "kept", "(I)I"⟩, prog_13_method_33_code, 1, (some .int))
def m_M_feelOf : MT := (⟨"SevenEightsModel", "feelOf", "(III)I"⟩, prog_13_method_34_code, 5, (some .int))
def m_M_feel : MT := (⟨"SevenEightsModel", "feel", "(III)I"⟩, prog_13_method_35_code, 4, (some .int))
def m_M_takesBy : MT := (⟨"SevenEightsModel", "takesBy", "(I)I"⟩, prog_13_method_36_code, 1, (some .int))
def m_M_isAtOnce : MT := (⟨"SevenEightsModel", "isAtOnce", "(III)Z"⟩, prog_13_method_37_code, 5, (some .boolean))
def m_M_stepOf : MT := (⟨"SevenEightsModel", "stepOf", "(I)I"⟩, prog_13_method_38_code, 2, (some .int))
def m_M_wayFrom : MT := (⟨"SevenEightsModel", "wayFrom", "(III)I"⟩, prog_13_method_39_code, 7, (some .int))
def m_M_slipTo : MT := (⟨"SevenEightsModel", "slipTo", "(III)I"⟩, prog_13_method_40_code, 8, (some .int))
def m_M_says : MT := (⟨"SevenEightsModel", "says", "(III)V"⟩, prog_13_method_41_code, 6, none)
def m_M_said : MT := (⟨"SevenEightsModel", "said", "(I)I"⟩, prog_13_method_42_code, 2, (some .int))
def m_M_would : MT := (⟨"SevenEightsModel", "would", "(IIII)I"⟩, prog_13_method_43_code, 5, (some .int))
def m_M_firmBecomes : MT := (⟨"SevenEightsModel", "firmBecomes", "(III)V"⟩, prog_13_method_44_code, 4, none)
def m_M_asked : MT := (⟨"SevenEightsModel", "asked", "(III)I"⟩, prog_13_method_45_code, 5, (some .int))
def m_M_isTold : MT := (⟨"SevenEightsModel", "isTold", "(II)V"⟩, prog_13_method_46_code, 4, none)
def m_M_nightGoes : MT := (⟨"SevenEightsModel", "nightGoes", "()V"⟩, prog_13_method_47_code, 4, none)
def m_M_ask : MT := (⟨"SevenEightsModel", "ask", "(III)I"⟩, prog_13_method_48_code, 4, (some .int))
def m_M_tell : MT := (⟨"SevenEightsModel", "tell", "(II)I"⟩, prog_13_method_49_code, 3, (some .int))
def m_M_nights : MT := (⟨"SevenEightsModel", "nights", "(I)I"⟩, prog_13_method_50_code, 3, (some .int))
def m_M_card : MT := (⟨"SevenEightsModel", "card", "(I)I"⟩, prog_13_method_51_code, 4, (some .int))
def m_M_isKnown : MT := (⟨"SevenEightsModel", "isKnown", "(III)Z"⟩, prog_13_method_52_code, 4, (some .boolean))
def m_M_knownSet : MT := (⟨"SevenEightsModel", "knownSet", "(II)J"⟩, prog_13_method_53_code, 6, (some .long))
def m_M_known : MT := (⟨"SevenEightsModel", "known", "(II)J"⟩, prog_13_method_54_code, 3, (some .long))
def m_M_lends : MT := (⟨"SevenEightsModel", "lends", "()V"⟩, prog_13_method_55_code, 2, none)
def m_M_all : MT := (⟨"SevenEightsModel", "all", "()J"⟩, prog_13_method_56_code, 0, (some .long))
def m_M_friday : MT := (⟨"SevenEightsModel", "friday", "(III)J"⟩, prog_13_method_57_code, 6, (some .long))
def m_M_ones : MT := (⟨"SevenEightsModel", "ones", "(J)I"⟩, prog_13_method_58_code, 5, (some .int))
def m_M_partOf : MT := (⟨"SevenEightsModel", "partOf", "(III)I"⟩, prog_13_method_59_code, 6, (some .int))
def m_M_odds : MT := (⟨"SevenEightsModel", "odds", "(II)I"⟩, prog_13_method_60_code, 5, (some .int))
def m_M_firmBehind : MT := (⟨"SevenEightsModel", "firmBehind", "(III)I"⟩, prog_13_method_61_code, 6, (some .int))
def m_M_findBehind : MT := (⟨"SevenEightsModel", "findBehind", "(II)V"⟩, prog_13_method_62_code, 6, none)
def m_M_best : MT := (⟨"SevenEightsModel", "best", "(IIII)I"⟩, prog_13_method_63_code, 12, (some .int))
def m_M_till : MT := (⟨"SevenEightsModel", "till", "(III)I"⟩, prog_13_method_64_code, 6, (some .int))
def m_M_hardest : MT := (⟨"SevenEightsModel", "hardest", "(I)I"⟩, prog_13_method_65_code, 7, (some .int))
def m_M_draws : MT := (⟨"SevenEightsModel", "draws", "(III)I"⟩, prog_13_method_66_code, 6, (some .int))
def m_M_feed : MT := (⟨"SevenEightsModel", "feed", "(JI)I"⟩, prog_13_method_67_code, 5, (some .int))
def m_M_byteAt : MT := (⟨"SevenEightsModel", "byteAt", "(I)I"⟩, prog_13_method_68_code, 2, (some .int))
def m_M_isLetter : MT := (⟨"SevenEightsModel", "isLetter", "(I)Z"⟩, prog_13_method_69_code, 1, (some .boolean))
def m_M_isDigit : MT := (⟨"SevenEightsModel", "isDigit", "(I)Z"⟩, prog_13_method_70_code, 1, (some .boolean))
def m_M_advance : MT := (⟨"SevenEightsModel", "advance", "()V"⟩, prog_13_method_71_code, 2, none)
def m_M_isWord : MT := (⟨"SevenEightsModel", "isWord", "(J)Z"⟩, prog_13_method_72_code, 3, (some .boolean))
def m_M_isMark : MT := (⟨"SevenEightsModel", "isMark", "(I)Z"⟩, prog_13_method_73_code, 2, (some .boolean))
def m_M_wantNumber : MT := (⟨"SevenEightsModel", "wantNumber", "(II)I"⟩, prog_13_method_74_code, 4, (some .int))
def m_M_wantItem : MT := (⟨"SevenEightsModel", "wantItem", "(I)V"⟩, prog_13_method_75_code, 6, none)
def m_M_lesson : MT := (⟨"SevenEightsModel", "lesson", "()I"⟩, prog_13_method_76_code, 3, (some .int))
def m_M_does : MT := (⟨"SevenEightsModel", "does", "(II)I"⟩, prog_13_method_77_code, 5, (some .int))
def m_M_give : MT := (⟨"SevenEightsModel", "give", "(I)I"⟩, prog_13_method_78_code, 5, (some .int))
def m_M_item : MT := (⟨"SevenEightsModel", "item", "(II)I"⟩, prog_13_method_79_code, 3, (some .int))
def m_M_seed : MT := (⟨"SevenEightsModel", "seed", "(I)I"⟩, prog_13_method_80_code, 3, (some .int))
def m_M_draw : MT := (⟨"SevenEightsModel", "draw", "(II)I"⟩, prog_13_method_81_code, 7, (some .int))
def m_M_findRows : MT := (⟨"SevenEightsModel", "findRows", "(I)V"⟩, prog_13_method_82_code, 4, none)
def m_M_prove : MT := (⟨"SevenEightsModel", "prove", "(I)I"⟩, prog_13_method_83_code, 3, (some .int))
def m_M_isRow : MT := (⟨"SevenEightsModel", "isRow", "(II)Z"⟩, prog_13_method_84_code, 3, (some .boolean))
def m_M_row : MT := (⟨"SevenEightsModel", "row", "(II)I"⟩, prog_13_method_85_code, 3, (some .int))
def m_M_alterRow : MT := (⟨"SevenEightsModel", "alterRow", "(III)I"⟩, prog_13_method_86_code, 5, (some .int))
def m_M_judge : MT := (⟨"SevenEightsModel", "judge", "(I)I"⟩, prog_13_method_87_code, 5, (some .int))
def m_M_firms : MT := (⟨"SevenEightsModel", "firms", "(IIIII)I"⟩, prog_13_method_88_code, 10, (some .int))
def m_M_isShelf : MT := (⟨"SevenEightsModel", "isShelf", "(I)Z"⟩, prog_13_method_89_code, 1, (some .boolean))
def m_M_sheet : MT := (⟨"SevenEightsModel", "sheet", "(III)I"⟩, prog_13_method_90_code, 5, (some .int))
def m_M_put : MT := (⟨"SevenEightsModel", "put", "(III)I"⟩, prog_13_method_91_code, 4, (some .int))
def m_M_lacksSort : MT := (⟨"SevenEightsModel", "lacksSort", "(II)I"⟩, prog_13_method_92_code, 3, (some .int))
def m_M_number : MT := (⟨"SevenEightsModel", "number", "(III)I"⟩, prog_13_method_93_code, 5, (some .int))
def m_M_isHeld : MT := (⟨"SevenEightsModel", "isHeld", "(II)Z"⟩, prog_13_method_94_code, 3, (some .boolean))
def m_M_shelf : MT := (⟨"SevenEightsModel", "shelf", "(III)I"⟩, prog_13_method_95_code, 4, (some .int))
def m_M_kindOn : MT := (⟨"SevenEightsModel", "kindOn", "(I)I"⟩, prog_13_method_96_code, 2, (some .int))
def m_M_isUnder : MT := (⟨"SevenEightsModel", "isUnder", "(II)Z"⟩, prog_13_method_97_code, 2, (some .boolean))
def m_M_taken : MT := (⟨"SevenEightsModel", "taken", "(II)I"⟩, prog_13_method_98_code, 4, (some .int))
def m_M_ran : MT := (⟨"SevenEightsModel", "ran", "(I)V"⟩, prog_13_method_99_code, 2, none)
def m_M_plainSays : MT := (⟨"SevenEightsModel", "plainSays", "(I)I"⟩, prog_13_method_100_code, 2, (some .int))
def m_M_parrotSays : MT := (⟨"SevenEightsModel", "parrotSays", "(I)I"⟩, prog_13_method_101_code, 2, (some .int))
def m_M_saysIt : MT := (⟨"SevenEightsModel", "saysIt", "(I)I"⟩, prog_13_method_102_code, 2, (some .int))
def m_M_plainLearns : MT := (⟨"SevenEightsModel", "plainLearns", "(I)I"⟩, prog_13_method_103_code, 2, (some .int))
def m_M_learnsIt : MT := (⟨"SevenEightsModel", "learnsIt", "(I)I"⟩, prog_13_method_104_code, 3, (some .int))
def m_M_plainShares : MT := (⟨"SevenEightsModel", "plainShares", "(I)I"⟩, prog_13_method_105_code, 2, (some .int))
def m_M_sharesIt : MT := (⟨"SevenEightsModel", "sharesIt", "(I)I"⟩, prog_13_method_106_code, 3, (some .int))
def m_M_plainTells : MT := (⟨"SevenEightsModel", "plainTells", "(I)I"⟩, prog_13_method_107_code, 2, (some .int))
def m_M_tellsIt : MT := (⟨"SevenEightsModel", "tellsIt", "(I)I"⟩, prog_13_method_108_code, 3, (some .int))
def m_M_act : MT := (⟨"SevenEightsModel", "act", "(III)I"⟩, prog_13_method_109_code, 6, (some .int))
def m_M_trace : MT := (⟨"SevenEightsModel", "trace", "(I)I"⟩, prog_13_method_110_code, 2, (some .int))
def m_M_many : MT := (⟨"SevenEightsModel", "many", "(I)I"⟩, prog_13_method_111_code, 2, (some .int))
def m_M_moveRow : MT := (⟨"SevenEightsModel", "moveRow", "([IIZ)V"⟩, prog_13_method_112_code, 5, none)
def m_M_moveAll : MT := (⟨"SevenEightsModel", "moveAll", "(Z)V"⟩, prog_13_method_113_code, 2, none)
def m_M_keep : MT := (⟨"SevenEightsModel", "keep", "()I"⟩, prog_13_method_114_code, 1, (some .int))
def m_M_again : MT := (⟨"SevenEightsModel", "again", "()I"⟩, prog_13_method_115_code, 1, (some .int))
def m_JLong_bitCount : MT := (⟨"java/lang/Long", "bitCount", "(J)I"⟩, prog_14_method_50_code, 2, (some .int))
def m_JMath_max : MT := (⟨"java/lang/Math", "max", "(II)I"⟩, prog_15_method_65_code, 2, (some .int))
def m_JMath_min : MT := (⟨"java/lang/Math", "min", "(II)I"⟩, prog_15_method_69_code, 2, (some .int))
def m_JString_charAt : MT := (⟨"java/lang/String", "charAt", "(I)C"⟩, prog_16_method_56_code, 2, (some .char))
def m_JString_checkIndex : MT := (⟨"java/lang/String", "checkIndex", "(II)V"⟩, prog_16_method_155_code, 2, none)
def m_JString_coder : MT := (⟨"java/lang/String", "coder", "()B"⟩, prog_16_method_152_code, 1, (some .byte))
def m_JString_isLatin1 : MT := (⟨"java/lang/String", "isLatin1", "()Z"⟩, prog_16_method_154_code, 1, (some .boolean))
def m_JString_length : MT := (⟨"java/lang/String", "length", "()I"⟩, prog_16_method_54_code, 1, (some .int))
def m_JLatin_charAt : MT := (⟨"java/lang/StringLatin1", "charAt", "([BI)C"⟩, prog_17_method_2_code, 2, (some .char))
def m_L_law : MT := (x, code, maxLocals, ret)
end
section
/-! The memory of both objects: ints and longs by cell and slot; the cells' shapes are fixed (no call makes a cell). -/
abbrev Me : Type := (Nat → Nat → Int32) × (Nat → Nat → Int64)
/-- an object: the number of its class, codes of its fields (0 int, 1 long, r + 2 the cell r); an array: its type (0 int, 1 byte, 2 long, 3 .. of references), length, and for references the first cell and the stride -/
abbrev Sp : Type := (Nat × List Nat) ⊕ (Nat × Nat × Nat × Nat)
def shp : List Sp := [.inl (10, [3, 26, 0, 49, 51, 55, 59, 60, 63, 64, 66, 68, 69, 70]),
  .inl (6, [4, 0, 5, 0, 0, 6]),
  .inr (3, 4, 8, 4),
  .inr (0, 3, 0, 0),
  .inl (3, [7, 8, 9, 0]),
  .inr (0, 12, 0, 0),
  .inr (0, 12, 0, 0),
  .inr (0, 12, 0, 0),
  .inl (2, [0, 0, 11, 12, 13]),
  .inr (0, 36, 0, 0),
  .inr (0, 36, 0, 0),
  .inr (0, 36, 0, 0),
  .inl (2, [0, 0, 15, 16, 17]),
  .inr (0, 36, 0, 0),
  .inr (0, 36, 0, 0),
  .inr (0, 36, 0, 0),
  .inl (2, [0, 0, 19, 20, 21]),
  .inr (0, 36, 0, 0),
  .inr (0, 36, 0, 0),
  .inr (0, 36, 0, 0),
  .inl (2, [0, 0, 23, 24, 25]),
  .inr (0, 36, 0, 0),
  .inr (0, 36, 0, 0),
  .inr (0, 36, 0, 0),
  .inl (6, [27, 0, 28, 0, 0, 29]),
  .inr (3, 4, 31, 4),
  .inr (0, 3, 0, 0),
  .inl (3, [30, 31, 32, 0]),
  .inr (0, 12, 0, 0),
  .inr (0, 12, 0, 0),
  .inr (0, 12, 0, 0),
  .inl (2, [0, 0, 34, 35, 36]),
  .inr (0, 36, 0, 0),
  .inr (0, 36, 0, 0),
  .inr (0, 36, 0, 0),
  .inl (2, [0, 0, 38, 39, 40]),
  .inr (0, 36, 0, 0),
  .inr (0, 36, 0, 0),
  .inr (0, 36, 0, 0),
  .inl (2, [0, 0, 42, 43, 44]),
  .inr (0, 36, 0, 0),
  .inr (0, 36, 0, 0),
  .inr (0, 36, 0, 0),
  .inl (2, [0, 0, 46, 47, 48]),
  .inr (0, 36, 0, 0),
  .inr (0, 36, 0, 0),
  .inr (0, 36, 0, 0),
  .inl (9, [50, 0, 0]),
  .inr (1, 200, 0, 0),
  .inl (3, [52, 53, 54, 0]),
  .inr (0, 12, 0, 0),
  .inr (0, 12, 0, 0),
  .inr (0, 12, 0, 0),
  .inl (2, [0, 0, 56, 57, 58]),
  .inr (0, 36, 0, 0),
  .inr (0, 36, 0, 0),
  .inr (0, 36, 0, 0),
  .inl (0, [0, 0, 0, 0]),
  .inl (4, [61, 62, 0, 0, 0]),
  .inr (0, 36, 0, 0),
  .inr (0, 36, 0, 0),
  .inr (0, 36, 0, 0),
  .inl (5, [65, 0]),
  .inr (0, 36, 0, 0),
  .inl (5, [67, 0]),
  .inr (0, 36, 0, 0),
  .inr (4, 4, 70, 2),
  .inr (5, 4, 78, 1),
  .inl (1, [0, 0, 0, 0, 71, 0]),
  .inr (0, 30, 0, 0),
  .inl (7, [0, 0, 73]),
  .inr (2, 40, 0, 0),
  .inl (7, [0, 0, 75]),
  .inr (2, 40, 0, 0),
  .inl (7, [0, 0, 77]),
  .inr (2, 40, 0, 0),
  .inl (7, [0, 0, 79]),
  .inr (2, 40, 0, 0),
  .inl (8, [0, 0, 0]),
  .inl (8, [0, 0, 0]),
  .inl (8, [0, 0, 0]),
  .inl (8, [0, 0, 0]),
  .inl (11, [85, 0, 86, 87, 0, 0, 0, 0, 88, 89, 90, 0, 0, 0, 0, 1, 0, 0, 0, 91, 92, 93, 94, 0, 0, 95, 96, 97, 98, 99, 100, 0, 0, 0, 101, 0, 0, 0, 102, 0, 103]),
  .inr (0, 884, 0, 0),
  .inr (0, 3, 0, 0),
  .inr (0, 3, 0, 0),
  .inr (0, 108, 0, 0),
  .inr (0, 36, 0, 0),
  .inr (0, 200, 0, 0),
  .inr (0, 36, 0, 0),
  .inr (0, 36, 0, 0),
  .inr (0, 36, 0, 0),
  .inr (0, 36, 0, 0),
  .inr (0, 4, 0, 0),
  .inr (0, 4, 0, 0),
  .inr (2, 160, 0, 0),
  .inr (0, 4, 0, 0),
  .inr (0, 4, 0, 0),
  .inr (0, 4, 0, 0),
  .inr (0, 30, 0, 0),
  .inr (0, 490, 0, 0),
  .inr (0, 2, 0, 0)]
def fv (b0 : Nat) (μ : Me) (c j k : Nat) : Value := match k with
  | 0 => .int (μ.1 c j)
  | 1 => .long (μ.2 c j)
  | r + 2 => .ref (b0 + r)
def fvs (b0 : Nat) (μ : Me) (c : Nat) (fks : List Nat) : List Value := fks.mapIdx (fun j k => fv b0 μ c j k)
def av (b0 : Nat) (μ : Me) (c : Nat) (q : Nat × Nat × Nat × Nat) : vp_A := (q.2.1, match q.1 with
  | 0 => .inl (μ.1 c)
  | 1 => .inl (μ.1 c)
  | 2 => .inr (.inl (μ.2 c))
  | _ => .inr (.inr (.inr (.inr (fun j => some (b0 + (q.2.2.1 + q.2.2.2 * j)))))))
def ea (b0 : Nat) (cA : Nat → ClassId) (μ : Me) (c : Nat) (sp : Sp) : va_E := match sp with
  | .inl q => .inr (q.1, fvs b0 μ c q.2)
  | .inr q => .inl (cA q.1, av b0 μ c q)
def wl (b0 : Nat) (cA : Nat → ClassId) (μ : Me) : va_W := shp.mapIdx (fun c sp => (b0 + c, ea b0 cA μ c sp))
def Ab (b0 : Nat) : Nat → Prop := fun q => b0 ≤ q
/-- a row of ints set; one int; one long; a row of longs -/
def rI (μ : Me) (c : Nat) (f : Nat → Int32) : Me := (fun c' => if c' = c then f else μ.1 c', μ.2)
def uI (μ : Me) (c j : Nat) (v : Int32) : Me := rI μ c (upd (μ.1 c) j v)
def rL (μ : Me) (c : Nat) (f : Nat → Int64) : Me := (μ.1, fun c' => if c' = c then f else μ.2 c')
def uL (μ : Me) (c j : Nat) (v : Int64) : Me := rL μ c (vp_updL (μ.2 c) j v)
theorem wl_get {b0 : Nat} {cA : Nat → ClassId} {μ : Me} {c : Nat} {sp : Sp} (h : shp[c]? = some sp) : (wl b0 cA μ)[c]? = some (b0 + c, ea b0 cA μ c sp) := by
  simp [wl, List.getElem?_mapIdx, h]
theorem wl_D {b0 : Nat} {cA : Nat → ClassId} {μ : Me} : va_D (Ab b0) (wl b0 cA μ) := by
  refine ⟨fun i j p q hi hj hpq => ?_, fun k q hk => ?_⟩
  · simp only [wl, List.getElem?_mapIdx, Option.map_eq_some_iff] at hi hj
    obtain ⟨a, -, rfl⟩ := hi
    obtain ⟨b, -, rfl⟩ := hj
    simp only at hpq
    omega
  · simp only [wl, List.getElem?_mapIdx, Option.map_eq_some_iff] at hk
    obtain ⟨a, -, rfl⟩ := hk
    exact Nat.le_add_right _ _
theorem ea_rI_ne {b0 : Nat} {cA : Nat → ClassId} {μ : Me} {c c' : Nat} {f : Nat → Int32} {sp : Sp} (h : c' ≠ c) : ea b0 cA (rI μ c f) c' sp = ea b0 cA μ c' sp := by
  have e1 : (rI μ c f).1 c' = μ.1 c' := by simp [rI, h]
  have e2 : (rI μ c f).2 = μ.2 := rfl
  cases sp with
  | inl q => simp only [ea, fvs, fv, e1, e2]
  | inr q => simp only [ea, av, e1, e2]
theorem ea_rL_ne {b0 : Nat} {cA : Nat → ClassId} {μ : Me} {c c' : Nat} {f : Nat → Int64} {sp : Sp} (h : c' ≠ c) : ea b0 cA (rL μ c f) c' sp = ea b0 cA μ c' sp := by
  have e1 : (rL μ c f).2 c' = μ.2 c' := by simp [rL, h]
  have e2 : (rL μ c f).1 = μ.1 := rfl
  cases sp with
  | inl q => simp only [ea, fvs, fv, e1, e2]
  | inr q => simp only [ea, av, e1, e2]
theorem wl_set {b0 : Nat} {cA : Nat → ClassId} {μ μ' : Me} {c : Nat} {sp : Sp} {e : va_E} (h : shp[c]? = some sp) (he : e = ea b0 cA μ' c sp) (hne : ∀ (c' : Nat) (sp' : Sp), c' ≠ c → ea b0 cA μ' c' sp' = ea b0 cA μ c' sp') : (wl b0 cA μ).set c (b0 + c, e) = wl b0 cA μ' := by
  apply List.ext_getElem?
  intro i
  by_cases hi : i = c
  · subst hi
    have hl : i < (wl b0 cA μ).length := (List.getElem?_eq_some_iff.mp (wl_get (b0 := b0) (cA := cA) (μ := μ) h)).1
    rw [List.getElem?_set_self hl, wl_get h, he]
  · rw [List.getElem?_set_ne (Ne.symm hi)]
    simp only [wl, List.getElem?_mapIdx]
    cases shp[i]? with
    | none => rfl
    | some s2 => simp only [Option.map_some]; rw [hne i s2 hi]
theorem fvs_set {b0 : Nat} {μ : Me} {c k : Nat} {fks : List Nat} {v : Int32} (h : fks[k]? = some 0) : (fvs b0 μ c fks).set k (.int v) = fvs b0 (uI μ c k v) c fks := by
  apply List.ext_getElem?
  intro i
  have hl : k < (fvs b0 μ c fks).length := by simp [fvs]; exact (List.getElem?_eq_some_iff.mp h).1
  by_cases hi : i = k
  · subst hi
    rw [List.getElem?_set_self hl]
    simp [fvs, List.getElem?_mapIdx, h, fv, uI, rI, upd]
  · rw [List.getElem?_set_ne (Ne.symm hi)]
    simp only [fvs, List.getElem?_mapIdx]
    cases fks[i]? with
    | none => rfl
    | some s2 =>
      simp only [Option.map_some]
      rcases s2 with _ | _ | r
      · simp [fv, uI, rI, upd, hi]
      · simp [fv, uI, rI]
      · simp [fv]
theorem fvs_setL {b0 : Nat} {μ : Me} {c k : Nat} {fks : List Nat} {v : Int64} (h : fks[k]? = some 1) : (fvs b0 μ c fks).set k (.long v) = fvs b0 (uL μ c k v) c fks := by
  apply List.ext_getElem?
  intro i
  have hl : k < (fvs b0 μ c fks).length := by simp [fvs]; exact (List.getElem?_eq_some_iff.mp h).1
  by_cases hi : i = k
  · subst hi
    rw [List.getElem?_set_self hl]
    simp [fvs, List.getElem?_mapIdx, h, fv, uL, rL, vp_updL]
  · rw [List.getElem?_set_ne (Ne.symm hi)]
    simp only [fvs, List.getElem?_mapIdx]
    cases fks[i]? with
    | none => rfl
    | some s2 =>
      simp only [Option.map_some]
      rcases s2 with _ | _ | r
      · simp [fv, uL, rL]
      · simp [fv, uL, rL, vp_updL, hi]
      · simp [fv]
theorem fvs_get {b0 : Nat} {μ : Me} {c k z : Nat} {fks : List Nat} (h : fks[k]? = some z) : (fvs b0 μ c fks)[k]? = some (fv b0 μ c k z) := by
  simp [fvs, List.getElem?_mapIdx, h]
/-- every reference field names a cell -/
theorem shp_ref : ∀ (c ci : Nat) (fks : List Nat) (k r : Nat), shp[c]? = some (.inl (ci, fks)) → fks[k]? = some (r + 2) → r < 1000 := by
  intro c ci fks k r h1 h2
  have h3 : shp.all (fun sp => match sp with | .inl q => q.2.all (fun z => decide (z < 1000)) | .inr q => decide (q.2.1 ≤ 884 ∧ q.2.2.1 + q.2.2.2 * 4 < 1000)) = true := by decide +kernel
  have h4 := List.all_eq_true.mp h3 _ (List.mem_of_getElem? h1)
  have h5 := List.all_eq_true.mp h4 _ (List.mem_of_getElem? h2)
  have := of_decide_eq_true h5
  omega
theorem shp_lt {c : Nat} {sp : Sp} (h : shp[c]? = some sp) : c < 102 := (List.getElem?_eq_some_iff.mp h).1
theorem shp_len : ∀ (c t n b s : Nat), shp[c]? = some (.inr (t, n, b, s)) → n ≤ 884 ∧ b + s * 4 < 1000 := by
  intro c t n b s h1
  have h3 : shp.all (fun sp => match sp with | .inl q => q.2.all (fun z => decide (z < 1000)) | .inr q => decide (q.2.1 ≤ 884 ∧ q.2.2.1 + q.2.2.2 * 4 < 1000)) = true := by decide +kernel
  have h4 := List.all_eq_true.mp h3 _ (List.mem_of_getElem? h1)
  exact of_decide_eq_true h4
theorem rI_ne {μ : Me} {c c' : Nat} {f : Nat → Int32} (h : c' ≠ c) : (rI μ c f).1 c' = μ.1 c' := by simp [rI, h]
theorem rI_eq {μ : Me} {c : Nat} {f : Nat → Int32} : (rI μ c f).1 c = f := by simp [rI]
theorem rI_2 {μ : Me} {c : Nat} {f : Nat → Int32} : (rI μ c f).2 = μ.2 := rfl
theorem uI_ne {μ : Me} {c c' j : Nat} {v : Int32} (h : c' ≠ c) : (uI μ c j v).1 c' = μ.1 c' := rI_ne h
theorem uI_eq {μ : Me} {c j : Nat} {v : Int32} : (uI μ c j v).1 c = upd (μ.1 c) j v := rI_eq
theorem uI_2 {μ : Me} {c j : Nat} {v : Int32} : (uI μ c j v).2 = μ.2 := rfl
theorem uI_at {μ : Me} {c j : Nat} {v : Int32} : (uI μ c j v).1 c j = v := by rw [uI_eq]; simp [upd]
theorem uI_off {μ : Me} {c j k : Nat} {v : Int32} (h : k ≠ j) : (uI μ c j v).1 c k = μ.1 c k := by rw [uI_eq]; simp [upd, h]
theorem rL_ne {μ : Me} {c c' : Nat} {f : Nat → Int64} (h : c' ≠ c) : (rL μ c f).2 c' = μ.2 c' := by simp [rL, h]
theorem rL_eq {μ : Me} {c : Nat} {f : Nat → Int64} : (rL μ c f).2 c = f := by simp [rL]
theorem uL_1 {μ : Me} {c j : Nat} {v : Int64} : (uL μ c j v).1 = μ.1 := rfl
theorem uL_ne {μ : Me} {c c' j : Nat} {v : Int64} (h : c' ≠ c) : (uL μ c j v).2 c' = μ.2 c' := rL_ne h
theorem uL_eq {μ : Me} {c j : Nat} {v : Int64} : (uL μ c j v).2 c = vp_updL (μ.2 c) j v := rL_eq
end
section
def nwm : List (String × Nat × MethodName × String) := [("SevenEights$School", 33, ⟨"SevenEights$Lesson", "<init>", "()V"⟩, "SevenEights"), ("SevenEights$School", 38, ⟨"SevenEights$Learner", "<init>", "()V"⟩, "SevenEights"), ("SevenEights", 25, ⟨"SevenEights$Text", "<init>", "()V"⟩, "SevenEights"), ("SevenEights", 32, ⟨"SevenEights$Lesson", "<init>", "()V"⟩, "SevenEights"), ("SevenEights", 39, ⟨"SevenEights$Learner", "<init>", "()V"⟩, "SevenEights"), ("SevenEights", 46, ⟨"SevenEights$Answer", "<init>", "()V"⟩, "SevenEights"), ("SevenEights", 53, ⟨"SevenEights$Plan", "<init>", "()V"⟩, "SevenEights"), ("SevenEights", 64, ⟨"SevenEights$Rows", "<init>", "()V"⟩, "SevenEights"), ("SevenEights", 86, ⟨"SevenEights$Doer", "<init>", "()V"⟩, "SevenEights"), ("SevenEights", 91, ⟨"SevenEights$Sheet", "<init>", "()V"⟩, "SevenEights"), ("SevenEights", 92, ⟨"SevenEights$Shelf", "<init>", "()V"⟩, "SevenEights"), ("SevenEights$Text", 71, ⟨"SevenEights", "pairAt", "(II)I"⟩, "SevenEights"), ("SevenEights$Learner", 28, ⟨"SevenEights", "firmAtFirst", "(I)I"⟩, "SevenEights"), ("SevenEights$Answer", 30, ⟨"SevenEights", "product", "(I)I"⟩, "SevenEights"), ("SevenEights$Answer", 60, ⟨"SevenEights", "nextDoor", "(II)I"⟩, "SevenEights"), ("SevenEights$Learner", 53, ⟨"SevenEights", "firmWhenTold", "(I)I"⟩, "SevenEights"), ("SevenEights$Learner", 68, ⟨"SevenEights", "firmBehindNights", "(IIII)I"⟩, "SevenEights"), ("SevenEights$Plan", 36, ⟨"SevenEights", "firmWhenTold", "(I)I"⟩, "SevenEights"), ("SevenEights$Plan", 40, ⟨"SevenEights", "firmBehindNights", "(IIII)I"⟩, "SevenEights"), ("SevenEights$Rows", 19, ⟨"SevenEights", "isWithin", "(II)Z"⟩, "SevenEights")]
def nwf : List (String × Nat × String × String × String × String) := [("SevenEights$Doer", 32, "SevenEights", "SAYS_BODY", "[I", "SevenEights"), ("SevenEights$Doer", 35, "SevenEights", "LEARNS_BODY", "[I", "SevenEights"), ("SevenEights$Doer", 38, "SevenEights", "SHARES_BODY", "[I", "SevenEights"), ("SevenEights$Doer", 41, "SevenEights", "TELLS_BODY", "[I", "SevenEights")]
def stn (k : Nat) : String := (["LESSER", "GREATER", "LAW_MOST", "UNDER", "SAYS_BODY", "LEARNS_BODY", "SHARES_BODY", "TELLS_BODY"] : List String).getD k ""
def sta (k : Nat) : List Int32 := ([[2, 2, 2, 2, 2, 2, 2, 2, 3, 3, 3, 3, 3, 3, 3, 4, 4, 4, 4, 4, 4, 5, 5, 5, 5, 5, 6, 6, 6, 6, 7, 7, 7, 8, 8, 9], [2, 3, 4, 5, 6, 7, 8, 9, 3, 4, 5, 6, 7, 8, 9, 4, 5, 6, 7, 8, 9, 5, 6, 7, 8, 9, 6, 7, 8, 9, 7, 8, 9, 8, 9, 9], [50, 100, 100], [-9, 0, 0, 2, 1, 0], [10, 10, 30, 40, 51, 10], [11, 20, 11, 41, 20, 11], [12, 12, 12, 12, 50, 61], [13, 13, 31, 31, 13, 60]] : List (List Int32)).getD k []
def ssx (k : Nat) : String × Nat := ([("ask", 34), ("in", 57), ("tell", 43), ("rest", 48)] : List (String × Nat)).getD k ("", 0)
def ssl : List Nat := [3, 2, 4, 4]
def ssb : List (List Int32) := [[97, 115, 107], [105, 110], [116, 101, 108, 108], [114, 101, 115, 116]]
/-- the words of the tables that last -/
def gtb : List Cond := lw_tbl.filter goodWord
theorem gtb_good : GoodIn gtb gtb := fun _ h => ⟨h, good_of_word (List.mem_filter.mp h).2⟩
theorem gi {w : Cond} (i : Nat) (h : tables_1[i]? = some w) (g : goodWord w = true) : w ∈ gtb := List.mem_filter.mpr ⟨List.mem_append_right _ (List.mem_of_getElem? h), g⟩
theorem gs {q : MethodName × Nat} (i : Nat) (h : lw_privs[i]? = some q) (g : goodWord (Cond.selects q.1.cls q.1 q.1) = true) : Cond.selects q.1.cls q.1 q.1 ∈ gtb := List.mem_filter.mpr ⟨List.mem_append_left _ (List.mem_map.mpr ⟨q, List.mem_of_getElem? h, rfl⟩), g⟩
def wsm (mt : MT) : List Cond := .code mt.1 mt.2.1 mt.2.2.1 mt.2.2.2 :: gtb
def rmD (d : Nat) : Room := { frames := d, cells := 0, slots := 0, locals := 64 * d }
abbrev flr : Value := .retAddr 0
/-- abstract references: below 1000 a cell; above: what was there before -/
def cv (b0 : Nat) (ta : Nat → Nat) (v : Value) : Value := match v with
  | .ref n => .ref (if n < 1000 then b0 + n else ta n)
  | v => v
theorem cv_cat (b0 : Nat) (ta : Nat → Nat) (v : Value) : (cv b0 ta v).category = v.category := by cases v <;> rfl
theorem cv_cats (b0 : Nat) (ta : Nat → Nat) (st : List Value) : ((st.map (cv b0 ta)).map fun v => v.category).sum = (st.map fun v => v.category).sum := by
  rw [List.map_map]
  congr 1
  apply List.map_congr_left
  intro v _
  exact cv_cat b0 ta v
def tyl (cA : Nat → ClassId) : List (ClassId × FieldType) := [(cA 0, .int), (cA 1, .byte), (cA 2, .long), (cA 3, .object R_Learner), (cA 4, .object R_Sheet), (cA 5, .object R_Shelf)]
def Kx (X : Nat × (Nat → Int32)) (D : va_G) (cA : Nat → ClassId) (ta : Nat → Nat) (b0 : Nat) (U : State) : Prop :=
  va_K D kl (tyl cA) U ∧ (∀ q ∈ nwm, va_Nw (.methodLinkNest q.1 q.2.1 q.2.2.1 q.2.2.2) U) ∧ (∀ q ∈ nwf, va_Nw (.fieldLinkNest q.1 q.2.1 q.2.2.1 q.2.2.2.1 q.2.2.2.2.1 q.2.2.2.2.2) U) ∧
  (∀ k, k < 8 → va_Z "SevenEights" (stn k) "[I" (.ref (ta (1000 + k))) (Ab b0) U U.heap ∧ va_T .int (ta (1000 + k)) (sta k).length (fun j => .int ((sta k).getD j 0)) (Ab b0) U U.heap) ∧
  (∀ k, k < 4 → vk_R "SevenEights$Text" (ssx k).2 (ssx k).1 (ta (2000 + k)) U) ∧ vk_S 4 ssl ssb (fun i => ta (2000 + i)) (fun i => ta (2100 + i)) (Ab b0) U U.heap ∧
  va_Z "java/lang/String" "COMPACT_STRINGS" "Z" (.int 1) (Ab b0) U U.heap ∧ va_X (ta 3000) X.1 X.2 U U.heap ∧ ta 3000 < U.heap.size ∧ ta 3000 < b0
theorem Kx.move {X : Nat × (Nat → Int32)} {D : va_G} {cA : Nat → ClassId} {ta : Nat → Nat} {b0 : Nat} {s U : State} {H : Heap} {locs : List Loc} (h : Kx X D cA ta b0 s) (hS : va_S (Ab b0) s.heap H locs) (hU : U.heap = H) (hW : s.WarmedH U.vm) : Kx X D cA ta b0 U := by
  obtain ⟨h1, h2, h3, h4, h5, h6, h7, h8, h9, h10⟩ := h
  subst hU
  have al := hW.alike
  refine ⟨va_K.moved al h1, fun q hq => va_Nw.warmM hW (h2 q hq), fun q hq => va_Nw.warmF hW (h3 q hq), fun k hk => ⟨((h4 k hk).1.kept hS.2.1).moved al, ((h4 k hk).2.kept hS.2.1).moved al⟩, fun k hk => (h5 k hk).warm hW, (h6.kept hS.2.1).moved al, (h7.kept hS.2.1).moved al, (h8.kept (hS.2.1 _ h9 ?_)).moved al, Nat.lt_of_lt_of_le h9 hS.1, h10⟩
  exact fun z => absurd (show b0 ≤ ta 3000 from z) (by omega)
theorem Kx.calling {X : Nat × (Nat → Int32)} {D : va_G} {cA : Nat → ClassId} {ta : Nat → Nat} {b0 : Nat} {U : State} (g : JFrame) (mk : MethodId) (a : Array Value) (h : Kx X D cA ta b0 U) : Kx X D cA ta b0 (U.calling g mk a) := by
  obtain ⟨h1, h2, h3, h4, h5, h6, h7, h8, h9, h10⟩ := h
  have al : U.vm.Alike (U.calling g mk a).vm := Vm.Alike.refl U.vm
  exact ⟨va_K.moved al h1, fun q hq => (h2 q hq).same rfl rfl, fun q hq => (h3 q hq).same rfl rfl, fun k hk => ⟨(h4 k hk).1.moved al, (h4 k hk).2.moved al⟩, fun k hk => (h5 k hk).same rfl, h6.moved al, h7.moved al, h8.moved al, h9, h10⟩
/-- the locals by place; flr: not known -/
def Lh (b0 : Nat) (ta : Nat → Nat) (lsA : Array Slot) (n : Nat) (ls : List Value) : Prop := lsA.size = n ∧ lv_wf lsA ∧ ∀ (i : Nat) (v : Value), ls[i]? = some v → v ≠ flr → lsA[i]? = some (.val (cv b0 ta v))
def kil (w : Value) : Value := match w with
  | .long _ => flr
  | .double _ => flr
  | w => w
def st1 : List Value → Nat → Value → List Value
  | [], _, _ => []
  | _ :: r, 0, v => v :: r
  | w :: r, 1, v => kil w :: st1 r 0 v
  | w :: r, i + 2, v => w :: st1 r (i + 1) v
def st2 : List Value → Nat → Value → List Value
  | [], _, _ => []
  | [_], 0, v => [v]
  | _ :: _ :: r, 0, v => v :: flr :: r
  | w :: r, 1, v => kil w :: st2 r 0 v
  | w :: r, i + 2, v => w :: st2 r (i + 1) v
theorem kil_ne {w v : Value} (h : kil w = v) (hv : v ≠ flr) : w = v ∧ w.category = 1 := by
  cases w <;> simp_all [kil, Value.category]
theorem st1_get : ∀ (ls : List Value) (i : Nat) (v w : Value) (j : Nat), (st1 ls i v)[j]? = some w → w ≠ flr → (j = i ∧ w = v) ∨ (j ≠ i ∧ ls[j]? = some w ∧ ¬ (j + 1 = i ∧ w.category = 2))
  | [], _, _, _, j, h, _ => by simp [st1] at h
  | a :: r, 0, v, w, j, h, hw => by
    cases j with
    | zero => simp [st1] at h; exact Or.inl ⟨rfl, h.symm⟩
    | succ j => simp [st1] at h; exact Or.inr ⟨by omega, by simpa using h, by omega⟩
  | a :: r, 1, v, w, j, h, hw => by
    cases j with
    | zero =>
      simp only [st1, List.getElem?_cons_zero, Option.some.injEq] at h
      obtain ⟨h1, h2⟩ := kil_ne h hw
      exact Or.inr ⟨by omega, by simp [h1], fun z => by rw [← h1] at z; omega⟩
    | succ j =>
      simp only [st1, List.getElem?_cons_succ] at h
      rcases st1_get r 0 v w j h hw with ⟨h1, h2⟩ | ⟨h1, h2, h3⟩
      · exact Or.inl ⟨by omega, h2⟩
      · exact Or.inr ⟨by omega, by simpa using h2, by omega⟩
  | a :: r, i + 2, v, w, j, h, hw => by
    cases j with
    | zero => simp [st1] at h; exact Or.inr ⟨by omega, by simp [h], by omega⟩
    | succ j =>
      simp only [st1, List.getElem?_cons_succ] at h
      rcases st1_get r (i + 1) v w j h hw with ⟨h1, h2⟩ | ⟨h1, h2, h3⟩
      · exact Or.inl ⟨by omega, h2⟩
      · exact Or.inr ⟨by omega, by simpa using h2, fun z => h3 ⟨by omega, z.2⟩⟩
theorem st2_get : ∀ (ls : List Value) (i : Nat) (v w : Value) (j : Nat), (st2 ls i v)[j]? = some w → w ≠ flr → (j = i ∧ w = v) ∨ (j ≠ i ∧ j ≠ i + 1 ∧ ls[j]? = some w ∧ ¬ (j + 1 = i ∧ w.category = 2))
  | [], _, _, _, j, h, _ => by simp [st2] at h
  | [a], 0, v, w, j, h, hw => by
    cases j with
    | zero => simp [st2] at h; exact Or.inl ⟨rfl, h.symm⟩
    | succ j => simp [st2] at h
  | a :: b :: r, 0, v, w, j, h, hw => by
    rcases j with _ | _ | j
    · simp [st2] at h; exact Or.inl ⟨rfl, h.symm⟩
    · simp [st2] at h; exact absurd h.symm hw
    · simp [st2] at h; exact Or.inr ⟨by omega, by omega, by simpa using h, by omega⟩
  | a :: r, 1, v, w, j, h, hw => by
    cases j with
    | zero =>
      simp only [st2, List.getElem?_cons_zero, Option.some.injEq] at h
      obtain ⟨h1, h2⟩ := kil_ne h hw
      exact Or.inr ⟨by omega, by omega, by simp [h1], fun z => by rw [← h1] at z; omega⟩
    | succ j =>
      simp only [st2, List.getElem?_cons_succ] at h
      rcases st2_get r 0 v w j h hw with ⟨h1, h2⟩ | ⟨h1, h4, h2, h3⟩
      · exact Or.inl ⟨by omega, h2⟩
      · exact Or.inr ⟨by omega, by omega, by simpa using h2, by omega⟩
  | a :: r, i + 2, v, w, j, h, hw => by
    cases j with
    | zero => simp [st2] at h; exact Or.inr ⟨by omega, by omega, by simp [h], by omega⟩
    | succ j =>
      simp only [st2, List.getElem?_cons_succ] at h
      rcases st2_get r (i + 1) v w j h hw with ⟨h1, h2⟩ | ⟨h1, h4, h2, h3⟩
      · exact Or.inl ⟨by omega, h2⟩
      · exact Or.inr ⟨by omega, by omega, by simpa using h2, fun z => h3 ⟨by omega, z.2⟩⟩
def lvl (b0 : Nat) (ta : Nat → Nat) (ls : List Value) : List (Nat × Value) := (ls.zipIdx.filter (fun q => decide (q.1 ≠ flr))).map (fun q => (q.2, cv b0 ta q.1))
theorem Lh.has {b0 : Nat} {ta : Nat → Nat} {lsA : Array Slot} {n : Nat} {ls : List Value} (h : Lh b0 ta lsA n ls) : lv_has lsA n (lvl b0 ta ls) := by
  refine ⟨h.1, h.2.1, fun q hq => ?_⟩
  simp only [lvl, List.mem_map, List.mem_filter, decide_eq_true_eq] at hq
  obtain ⟨⟨v, i⟩, ⟨h1, h2⟩, rfl⟩ := hq
  exact h.2.2 i v (by simpa using List.mem_zipIdx_iff_getElem?.mp h1) h2
theorem lvl_mem {b0 : Nat} {ta : Nat → Nat} {ls : List Value} {j : Nat} {w : Value} (h : ls[j]? = some w) (hw : w ≠ flr) : (j, cv b0 ta w) ∈ lvl b0 ta ls := by
  simp only [lvl, List.mem_map, List.mem_filter, decide_eq_true_eq]
  exact ⟨(w, j), ⟨List.mem_zipIdx_iff_getElem?.mpr (by simpa using h), hw⟩, rfl⟩
theorem Lh.st1 {b0 : Nat} {ta : Nat → Nat} {lsA : Array Slot} {n i : Nat} {ls : List Value} {v : Value} (h : lv_has lsA n ((i, cv b0 ta v) :: (lvl b0 ta ls).filter (fun q => !(q.1 == i) && !(q.1 + 1 == i && q.2.category == 2)))) : Lh b0 ta lsA n (st1 ls i v) := by
  refine ⟨h.1, h.2.1, fun j w hj hw => ?_⟩
  rcases st1_get ls i v w j hj hw with ⟨rfl, rfl⟩ | ⟨h1, h2, h3⟩
  · exact h.2.2 _ (List.mem_cons_self)
  · refine h.2.2 (j, cv b0 ta w) (List.mem_cons_of_mem _ (List.mem_filter.mpr ⟨lvl_mem h2 hw, ?_⟩))
    simp only [cv_cat, Bool.and_eq_true, Bool.not_eq_true', beq_eq_false_iff_ne, ne_eq, Bool.and_eq_false_iff]
    refine ⟨h1, ?_⟩
    by_cases hz : j + 1 = i
    · exact Or.inr (fun z => h3 ⟨hz, z⟩)
    · exact Or.inl hz
theorem Lh.st2 {b0 : Nat} {ta : Nat → Nat} {lsA : Array Slot} {n i : Nat} {ls : List Value} {v : Value} (h : lv_has lsA n ((i, cv b0 ta v) :: (lvl b0 ta ls).filter (fun q => !(q.1 == i) && (!(q.1 == i + 1) && !(q.1 + 1 == i && q.2.category == 2))))) : Lh b0 ta lsA n (st2 ls i v) := by
  refine ⟨h.1, h.2.1, fun j w hj hw => ?_⟩
  rcases st2_get ls i v w j hj hw with ⟨rfl, rfl⟩ | ⟨h1, h4, h2, h3⟩
  · exact h.2.2 _ (List.mem_cons_self)
  · refine h.2.2 (j, cv b0 ta w) (List.mem_cons_of_mem _ (List.mem_filter.mpr ⟨lvl_mem h2 hw, ?_⟩))
    simp only [cv_cat, Bool.and_eq_true, Bool.not_eq_true', beq_eq_false_iff_ne, ne_eq, Bool.and_eq_false_iff]
    refine ⟨h1, h4, ?_⟩
    by_cases hz : j + 1 = i
    · exact Or.inr (fun z => h3 ⟨hz, z⟩)
    · exact Or.inl hz
/-- what stays while a method runs -/
def Cx (X : Nat × (Nat → Int32)) (mt : MT) (d : Nat) (p : Program) (R : Room) (s : State) (m : MethodId) (args : Array Value) (c : Code) (D : va_G) (cA : Nat → ClassId) (ta : Nat → Nat) (b0 cells slots : Nat) : Prop :=
  p.tables.exec = Jvm.exec ∧ c.code = mt.2.1 ∧ c.maxLocals = mt.2.2.1 ∧ s.vm.findClass mt.1.cls = some m.cls ∧ (∀ w ∈ gtb, w.before args s = true) ∧ Kx X D cA ta b0 s ∧ d ≤ R.frames ∧ 64 * d ≤ R.locals ∧ cells ≤ R.cells ∧ slots ≤ R.slots
/-- at a return: the answer and the instruction fit -/
def Rt (mt : MT) (pc : Nat) (r : Option Value) : Prop := (r = none ∧ mt.2.2.2 = none ∧ decode mt.2.1 pc = .ok (.return_, 1)) ∨ (∃ (v : Int32) (ty : FieldType), r = some (.int v) ∧ mt.2.2.2 = some ty ∧ narrow ty (.int v) = .int v ∧ decode mt.2.1 pc = .ok (.ireturn, 1)) ∨ (∃ v : Int64, r = some (.long v) ∧ mt.2.2.2 = some .long ∧ decode mt.2.1 pc = .ok (.lreturn, 1)) ∨ ((r = some .null ∨ ∃ n, r = some (.ref n)) ∧ (∃ n, mt.2.2.2 = some (.object n)) ∧ decode mt.2.1 pc = .ok (.areturn, 1))
/-- from here the method comes to a return with Q -/
def Wa (X : Nat × (Nat → Int32)) (mt : MT) (d pc : Nat) (ls st : List Value) (μ : Me) (Q : Option Value → Me → Prop) : Prop :=
  ∀ (p : Program) (l : Launch) (e : Env) (R : Room) (s : State) (m : MethodId) (args : Array Value) (below : List Frame) (meth : Method) (c : Code) (D : va_G) (cA : Nat → ClassId) (ta : Nat → Nat) (b0 : Nat) (H : Heap) (locs : List Loc) (lsA : Array Slot) (cells slots : Nat) (Fin : State → Prop),
    Cx X mt d p R s m args c D cA ta b0 cells slots → va_P D kl (wl b0 cA μ) H → va_S (Ab b0) s.heap H locs → Lh b0 ta lsA mt.2.2.1 ls →
    (∀ (r : Option Value) (μ' : Me) (H' : Heap) (locs' : List Loc) (pc' : Nat) (lsA' : Array Slot), Q r μ' → va_P D kl (wl b0 cA μ') H' → va_S (Ab b0) s.heap H' locs' → Rt mt pc' r → W p l e R s m args below meth c H' locs' cells slots Fin (F0 m pc' lsA' (r.toList.map (cv b0 ta)))) →
    W p l e R s m args below meth c H locs cells slots Fin (F0 m pc lsA (st.map (cv b0 ta)))
def Pcx (X : Nat × (Nat → Int32)) (D : va_G) (cA : Nat → ClassId) (ta : Nat → Nat) (b0 : Nat) (avs : List Value) (μ : Me) : Array Value → State → Prop := va_Pc (avs.map (cv b0 ta)) (fun U => va_P D kl (wl b0 cA μ) U.heap ∧ Kx X D cA ta b0 U)
def Qcx (D : va_G) (cA : Nat → ClassId) (ta : Nat → Nat) (b0 : Nat) (post : Option Value → Me → Prop) : Array Value → State → Outcome → State → Prop := fun _ st oc t => (∃ (r : Option Value) (μ' : Me), oc = .returned (r.map (cv b0 ta)) ∧ post r μ' ∧ va_P D kl (wl b0 cA μ') t.heap) ∧ va_F (Ab b0) st t
/-- a method's contract: from the memory μ, with these arguments, it returns with post -/
def Ct (mt : MT) (d : Nat) (avs : List Value) (μ : Me) (post : Option Value → Me → Prop) : Prop :=
  ∀ (l : Launch) (X : Nat × (Nat → Int32)) (D : va_G) (cA : Nat → ClassId) (ta : Nat → Nat) (b0 : Nat), Met l mt.1 (wsm mt) (rmD d) (Pcx X D cA ta b0 avs μ) (Qcx D cA ta b0 post) 0 0 (Ab b0)
theorem Pcx.blind {X : Nat × (Nat → Int32)} {D : va_G} {cA : Nat → ClassId} {ta : Nat → Nat} {b0 : Nat} {avs : List Value} {μ : Me} : FrameBlind (Pcx X D cA ta b0 avs μ) := fun a U g mk q => ⟨q.1, q.2.1, q.2.2.calling g mk a⟩
def sl : List Value → List Value
  | [] => []
  | .long v :: r => .long v :: flr :: sl r
  | .double v :: r => .double v :: flr :: sl r
  | v :: r => v :: sl r
theorem lg_sl_cons (v : Value) (r : List Value) : lg_sl (v :: r) = (if v.category = 2 then [.val v, .second] else [.val v]) ++ lg_sl r := by simp [lg_sl]
theorem sl_len (b0 : Nat) (ta : Nat → Nat) : ∀ avs : List Value, (lg_sl (avs.map (cv b0 ta))).length = (sl avs).length
  | [] => rfl
  | v :: r => by
    have ih := sl_len b0 ta r
    rw [List.map_cons, lg_sl_cons]
    cases v <;> simp [cv, sl, Value.category, ih] <;> omega
theorem sl_at (b0 : Nat) (ta : Nat → Nat) : ∀ (avs : List Value) (i : Nat) (v : Value), (sl avs)[i]? = some v → v ≠ flr → (lg_sl (avs.map (cv b0 ta)))[i]? = some (.val (cv b0 ta v))
  | [], i, v, h, _ => by simp [sl] at h
  | a :: r, i, v, h, hv => by
    have ih := sl_at b0 ta r
    rw [List.map_cons, lg_sl_cons]
    cases a with
    | long z =>
      rcases i with _ | _ | i
      · simp [sl] at h; subst h; simp [cv, Value.category]
      · simp [sl] at h; exact absurd h.symm hv
      · simp [sl] at h; simpa [cv, Value.category] using ih i v h hv
    | double z =>
      rcases i with _ | _ | i
      · simp [sl] at h; subst h; simp [cv, Value.category]
      · simp [sl] at h; exact absurd h.symm hv
      · simp [sl] at h; simpa [cv, Value.category] using ih i v h hv
    | _ =>
      rcases i with _ | i
      · simp [sl] at h; subst h; simp [cv, Value.category]
      · simp [sl] at h; simpa [cv, Value.category] using ih i v h hv
theorem Ct.of {mt : MT} {d : Nat} {avs ls : List Value} {μ : Me} {post : Option Value → Me → Prop} (hp : plainName mt.1.cls = true) (hle : (sl avs).length ≤ mt.2.2.1) (hls : sl avs ++ List.replicate (mt.2.2.1 - (sl avs).length) flr = ls)
    (h : ∀ X, Wa X mt d 0 ls [] μ post) : Ct mt d avs μ post := by
  intro l X D cA ta b0
  refine Met.ofW (cc := mt.2.1) (maxL := mt.2.2.1) (ret := mt.2.2.2) hp rfl ?_
  intro p e s m args below meth c s₁ B hml hv
  obtain ⟨rfl, hP, hK⟩ := hv
  have hts := atoms_spec (ws := wsm mt) B.pre
  have hown : s.vm.findClass mt.1.cls = some m.cls := findClass_of_methodNamed B.named
  have hlocks := B.notSynchronized
  have hret := B.returns
  rw [lg_entry_eq]
  refine h X p l e _ s m _ below meth c D cA ta b0 s.heap [] _ 0 0 _ ⟨B.exec, B.bytes, hml, hown, fun w hw => hts w (List.mem_cons_of_mem _ hw), hK, Nat.le_refl _, Nat.le_refl _, Nat.le_refl _, Nat.le_refl _⟩ hP va_S.rf ?_ ?_
  · have hh := lv_entry (avs.map (cv b0 ta)) (n := mt.2.2.1) (by rw [sl_len]; exact hle)
    refine ⟨hh.1, hh.2.1, fun i v hi hv => ?_⟩
    rw [← hls] at hi
    by_cases hlt : i < (sl avs).length
    · rw [List.getElem?_append_left hlt] at hi
      have := sl_at b0 ta avs i v hi hv
      rw [List.getElem?_toArray, List.getElem?_append_left (by rw [sl_len]; exact hlt)]
      exact this
    · rw [List.getElem?_append_right (by omega)] at hi
      exact absurd (List.eq_of_mem_replicate (List.mem_of_getElem? hi)) hv
  · intro r μ' H' locs' pc' lsA' hQ hP' hS' hR
    have hfin : ∀ t : State, t.heap = H' → s.WarmedH t.vm → Qcx D cA ta b0 post (avs.map (cv b0 ta)).toArray s (.returned (r.map (cv b0 ta))) t := fun t ht _ => ⟨⟨r, μ', rfl, hQ, by rw [ht]; exact hP'⟩, hS'.F ht⟩
    rcases hR with ⟨rfl, h2, hd⟩ | ⟨v, ty, rfl, h2, hn, hd⟩ | ⟨v, rfl, h2, hd⟩ | ⟨hv, ⟨n, h2⟩, hd⟩
    · exact W.vret B.exec B.bytes (hret.trans h2) hfin hS'.2.2 hd hlocks
    · exact W.zret B.exec B.bytes (hret.trans h2) hn hfin hS'.2.2 hd hlocks
    · exact W.lret B.exec B.bytes (hret.trans h2) hfin hS'.2.2 hd hlocks
    · rcases hv with rfl | ⟨k, rfl⟩
      · exact W.aret B.exec B.bytes (hret.trans h2) (Or.inl ⟨n, rfl⟩) (Or.inl rfl) hfin hS'.2.2 hd hlocks
      · exact W.aret B.exec B.bytes (hret.trans h2) (Or.inl ⟨n, rfl⟩) (Or.inr ⟨_, rfl⟩) hfin hS'.2.2 hd hlocks
end
section
/-! the rules: an instruction, a row -/
def Dc (mt : MT) (pc : Nat) (i : Instr) (len n : Nat) : Prop := decode mt.2.1 pc = .ok (i, len) ∧ pc + len = n
def Dj (mt : MT) (pc : Nat) (i : Int → Instr) (n tgt : Nat) : Prop := ∃ off : Int, decode mt.2.1 pc = .ok (i off, 3) ∧ pc + 3 = n ∧ (pc : Int) + off = (tgt : Int)
section Rules
variable {X : Nat × (Nat → Int32)} {mt : MT} {d pc n : Nat} {ls st : List Value} {μ : Me} {Q : Option Value → Me → Prop}
theorem r_iadd {x y : Int32} (hd : Dc mt pc .iadd 1 n) (k : Wa X mt d n ls (.int (x + y) :: st) μ Q) : Wa X mt d pc ls (.int y :: .int x :: st) μ Q := by
  intro p l e R s m args below meth c D cA ta b0 H locs lsA cells slots Fin C hP hS hl hF
  obtain ⟨hd, rfl⟩ := hd
  exact lv_iadd C.1 C.2.1 hd (k p l e R s m args below meth c D cA ta b0 H locs lsA cells slots Fin C hP hS hl hF)
theorem r_isub {x y : Int32} (hd : Dc mt pc .isub 1 n) (k : Wa X mt d n ls (.int (x - y) :: st) μ Q) : Wa X mt d pc ls (.int y :: .int x :: st) μ Q := by
  intro p l e R s m args below meth c D cA ta b0 H locs lsA cells slots Fin C hP hS hl hF
  obtain ⟨hd, rfl⟩ := hd
  exact lv_isub C.1 C.2.1 hd (k p l e R s m args below meth c D cA ta b0 H locs lsA cells slots Fin C hP hS hl hF)
theorem r_imul {x y : Int32} (hd : Dc mt pc .imul 1 n) (k : Wa X mt d n ls (.int (x * y) :: st) μ Q) : Wa X mt d pc ls (.int y :: .int x :: st) μ Q := by
  intro p l e R s m args below meth c D cA ta b0 H locs lsA cells slots Fin C hP hS hl hF
  obtain ⟨hd, rfl⟩ := hd
  exact lv_imul C.1 C.2.1 hd (k p l e R s m args below meth c D cA ta b0 H locs lsA cells slots Fin C hP hS hl hF)
theorem r_iand {x y : Int32} (hd : Dc mt pc .iand 1 n) (k : Wa X mt d n ls (.int (x &&& y) :: st) μ Q) : Wa X mt d pc ls (.int y :: .int x :: st) μ Q := by
  intro p l e R s m args below meth c D cA ta b0 H locs lsA cells slots Fin C hP hS hl hF
  obtain ⟨hd, rfl⟩ := hd
  exact lv_iand C.1 C.2.1 hd (k p l e R s m args below meth c D cA ta b0 H locs lsA cells slots Fin C hP hS hl hF)
theorem r_ior {x y : Int32} (hd : Dc mt pc .ior 1 n) (k : Wa X mt d n ls (.int (x ||| y) :: st) μ Q) : Wa X mt d pc ls (.int y :: .int x :: st) μ Q := by
  intro p l e R s m args below meth c D cA ta b0 H locs lsA cells slots Fin C hP hS hl hF
  obtain ⟨hd, rfl⟩ := hd
  exact lv_ior C.1 C.2.1 hd (k p l e R s m args below meth c D cA ta b0 H locs lsA cells slots Fin C hP hS hl hF)
theorem r_ixor {x y : Int32} (hd : Dc mt pc .ixor 1 n) (k : Wa X mt d n ls (.int (x ^^^ y) :: st) μ Q) : Wa X mt d pc ls (.int y :: .int x :: st) μ Q := by
  intro p l e R s m args below meth c D cA ta b0 H locs lsA cells slots Fin C hP hS hl hF
  obtain ⟨hd, rfl⟩ := hd
  exact lv_ixor C.1 C.2.1 hd (k p l e R s m args below meth c D cA ta b0 H locs lsA cells slots Fin C hP hS hl hF)
theorem r_ishl {x y : Int32} (hd : Dc mt pc .ishl 1 n) (k : Wa X mt d n ls (.int (x <<< (y &&& 31)) :: st) μ Q) : Wa X mt d pc ls (.int y :: .int x :: st) μ Q := by
  intro p l e R s m args below meth c D cA ta b0 H locs lsA cells slots Fin C hP hS hl hF
  obtain ⟨hd, rfl⟩ := hd
  exact lv_ishl C.1 C.2.1 hd (k p l e R s m args below meth c D cA ta b0 H locs lsA cells slots Fin C hP hS hl hF)
theorem r_ishr {x y : Int32} (hd : Dc mt pc .ishr 1 n) (k : Wa X mt d n ls (.int (x >>> (y &&& 31)) :: st) μ Q) : Wa X mt d pc ls (.int y :: .int x :: st) μ Q := by
  intro p l e R s m args below meth c D cA ta b0 H locs lsA cells slots Fin C hP hS hl hF
  obtain ⟨hd, rfl⟩ := hd
  exact lv_ishr C.1 C.2.1 hd (k p l e R s m args below meth c D cA ta b0 H locs lsA cells slots Fin C hP hS hl hF)
theorem r_iushr {x y : Int32} (hd : Dc mt pc .iushr 1 n) (k : Wa X mt d n ls (.int ((x.toUInt32 >>> (y.toUInt32 &&& Int32.toUInt32 31)).toInt32) :: st) μ Q) : Wa X mt d pc ls (.int y :: .int x :: st) μ Q := by
  intro p l e R s m args below meth c D cA ta b0 H locs lsA cells slots Fin C hP hS hl hF
  obtain ⟨hd, rfl⟩ := hd
  exact lv_iushr C.1 C.2.1 hd rfl (k p l e R s m args below meth c D cA ta b0 H locs lsA cells slots Fin C hP hS hl hF)
theorem r_idiv {x y : Int32} (hd : Dc mt pc .idiv 1 n) (hy : ¬ y = 0) (k : Wa X mt d n ls (.int (x / y) :: st) μ Q) : Wa X mt d pc ls (.int y :: .int x :: st) μ Q := by
  intro p l e R s m args below meth c D cA ta b0 H locs lsA cells slots Fin C hP hS hl hF
  obtain ⟨hd, rfl⟩ := hd
  exact lv_idiv C.1 C.2.1 hd hy (k p l e R s m args below meth c D cA ta b0 H locs lsA cells slots Fin C hP hS hl hF)
theorem r_irem {x y : Int32} (hd : Dc mt pc .irem 1 n) (hy : ¬ y = 0) (k : Wa X mt d n ls (.int (x - x / y * y) :: st) μ Q) : Wa X mt d pc ls (.int y :: .int x :: st) μ Q := by
  intro p l e R s m args below meth c D cA ta b0 H locs lsA cells slots Fin C hP hS hl hF
  obtain ⟨hd, rfl⟩ := hd
  exact lv_irem C.1 C.2.1 hd hy (k p l e R s m args below meth c D cA ta b0 H locs lsA cells slots Fin C hP hS hl hF)
theorem r_ladd {x y : Int64} (hd : Dc mt pc .ladd 1 n) (k : Wa X mt d n ls (.long (x + y) :: st) μ Q) : Wa X mt d pc ls (.long y :: .long x :: st) μ Q := by
  intro p l e R s m args below meth c D cA ta b0 H locs lsA cells slots Fin C hP hS hl hF
  obtain ⟨hd, rfl⟩ := hd
  exact lv_ladd C.1 C.2.1 hd (k p l e R s m args below meth c D cA ta b0 H locs lsA cells slots Fin C hP hS hl hF)
theorem r_lsub {x y : Int64} (hd : Dc mt pc .lsub 1 n) (k : Wa X mt d n ls (.long (x - y) :: st) μ Q) : Wa X mt d pc ls (.long y :: .long x :: st) μ Q := by
  intro p l e R s m args below meth c D cA ta b0 H locs lsA cells slots Fin C hP hS hl hF
  obtain ⟨hd, rfl⟩ := hd
  exact lv_lsub C.1 C.2.1 hd (k p l e R s m args below meth c D cA ta b0 H locs lsA cells slots Fin C hP hS hl hF)
theorem r_lmul {x y : Int64} (hd : Dc mt pc .lmul 1 n) (k : Wa X mt d n ls (.long (x * y) :: st) μ Q) : Wa X mt d pc ls (.long y :: .long x :: st) μ Q := by
  intro p l e R s m args below meth c D cA ta b0 H locs lsA cells slots Fin C hP hS hl hF
  obtain ⟨hd, rfl⟩ := hd
  exact lv_lmul C.1 C.2.1 hd (k p l e R s m args below meth c D cA ta b0 H locs lsA cells slots Fin C hP hS hl hF)
theorem r_land {x y : Int64} (hd : Dc mt pc .land 1 n) (k : Wa X mt d n ls (.long (x &&& y) :: st) μ Q) : Wa X mt d pc ls (.long y :: .long x :: st) μ Q := by
  intro p l e R s m args below meth c D cA ta b0 H locs lsA cells slots Fin C hP hS hl hF
  obtain ⟨hd, rfl⟩ := hd
  exact lv_land C.1 C.2.1 hd (k p l e R s m args below meth c D cA ta b0 H locs lsA cells slots Fin C hP hS hl hF)
theorem r_lor {x y : Int64} (hd : Dc mt pc .lor 1 n) (k : Wa X mt d n ls (.long (x ||| y) :: st) μ Q) : Wa X mt d pc ls (.long y :: .long x :: st) μ Q := by
  intro p l e R s m args below meth c D cA ta b0 H locs lsA cells slots Fin C hP hS hl hF
  obtain ⟨hd, rfl⟩ := hd
  exact lv_lor C.1 C.2.1 hd (k p l e R s m args below meth c D cA ta b0 H locs lsA cells slots Fin C hP hS hl hF)
theorem r_lxor {x y : Int64} (hd : Dc mt pc .lxor 1 n) (k : Wa X mt d n ls (.long (x ^^^ y) :: st) μ Q) : Wa X mt d pc ls (.long y :: .long x :: st) μ Q := by
  intro p l e R s m args below meth c D cA ta b0 H locs lsA cells slots Fin C hP hS hl hF
  obtain ⟨hd, rfl⟩ := hd
  exact lv_lxor C.1 C.2.1 hd (k p l e R s m args below meth c D cA ta b0 H locs lsA cells slots Fin C hP hS hl hF)
theorem r_lshl {x : Int64} {y : Int32} (hd : Dc mt pc .lshl 1 n) (k : Wa X mt d n ls (.long (x <<< (y.toInt64 &&& 63)) :: st) μ Q) : Wa X mt d pc ls (.int y :: .long x :: st) μ Q := by
  intro p l e R s m args below meth c D cA ta b0 H locs lsA cells slots Fin C hP hS hl hF
  obtain ⟨hd, rfl⟩ := hd
  exact lv_lshl C.1 C.2.1 hd rfl (k p l e R s m args below meth c D cA ta b0 H locs lsA cells slots Fin C hP hS hl hF)
theorem r_lshr {x : Int64} {y : Int32} (hd : Dc mt pc .lshr 1 n) (k : Wa X mt d n ls (.long (x >>> (y.toInt64 &&& 63)) :: st) μ Q) : Wa X mt d pc ls (.int y :: .long x :: st) μ Q := by
  intro p l e R s m args below meth c D cA ta b0 H locs lsA cells slots Fin C hP hS hl hF
  obtain ⟨hd, rfl⟩ := hd
  exact lv_lshr C.1 C.2.1 hd rfl (k p l e R s m args below meth c D cA ta b0 H locs lsA cells slots Fin C hP hS hl hF)
theorem r_lushr {x : Int64} {y : Int32} (hd : Dc mt pc .lushr 1 n) (k : Wa X mt d n ls (.long ((x.toUInt64 >>> (y.toInt64.toUInt64 &&& Int64.toUInt64 63)).toInt64) :: st) μ Q) : Wa X mt d pc ls (.int y :: .long x :: st) μ Q := by
  intro p l e R s m args below meth c D cA ta b0 H locs lsA cells slots Fin C hP hS hl hF
  obtain ⟨hd, rfl⟩ := hd
  exact lv_lushr C.1 C.2.1 hd rfl (k p l e R s m args below meth c D cA ta b0 H locs lsA cells slots Fin C hP hS hl hF)
theorem r_lcmp {x y : Int64} (hd : Dc mt pc .lcmp 1 n) (k : Wa X mt d n ls (.int (lg_cmp x y) :: st) μ Q) : Wa X mt d pc ls (.long y :: .long x :: st) μ Q := by
  intro p l e R s m args below meth c D cA ta b0 H locs lsA cells slots Fin C hP hS hl hF
  obtain ⟨hd, rfl⟩ := hd
  exact W.lcmp C.1 C.2.1 hd (k p l e R s m args below meth c D cA ta b0 H locs lsA cells slots Fin C hP hS hl hF)
theorem r_i2l {x : Int32} (hd : Dc mt pc .i2l 1 n) (k : Wa X mt d n ls (.long x.toInt64 :: st) μ Q) : Wa X mt d pc ls (.int x :: st) μ Q := by
  intro p l e R s m args below meth c D cA ta b0 H locs lsA cells slots Fin C hP hS hl hF
  obtain ⟨hd, rfl⟩ := hd
  exact lv_i2l C.1 C.2.1 hd rfl (k p l e R s m args below meth c D cA ta b0 H locs lsA cells slots Fin C hP hS hl hF)
theorem r_l2i {x : Int64} (hd : Dc mt pc .l2i 1 n) (k : Wa X mt d n ls (.int x.toInt32 :: st) μ Q) : Wa X mt d pc ls (.long x :: st) μ Q := by
  intro p l e R s m args below meth c D cA ta b0 H locs lsA cells slots Fin C hP hS hl hF
  obtain ⟨hd, rfl⟩ := hd
  exact lv_l2i C.1 C.2.1 hd rfl (k p l e R s m args below meth c D cA ta b0 H locs lsA cells slots Fin C hP hS hl hF)
theorem r_i2b {x : Int32} (hd : Dc mt pc .i2b 1 n) (k : Wa X mt d n ls (.int x.toInt8.toInt32 :: st) μ Q) : Wa X mt d pc ls (.int x :: st) μ Q := by
  intro p l e R s m args below meth c D cA ta b0 H locs lsA cells slots Fin C hP hS hl hF
  obtain ⟨hd, rfl⟩ := hd
  exact lv_i2b C.1 C.2.1 hd rfl (k p l e R s m args below meth c D cA ta b0 H locs lsA cells slots Fin C hP hS hl hF)
theorem r_i2s {x : Int32} (hd : Dc mt pc .i2s 1 n) (k : Wa X mt d n ls (.int x.toInt16.toInt32 :: st) μ Q) : Wa X mt d pc ls (.int x :: st) μ Q := by
  intro p l e R s m args below meth c D cA ta b0 H locs lsA cells slots Fin C hP hS hl hF
  obtain ⟨hd, rfl⟩ := hd
  exact lv_i2s C.1 C.2.1 hd rfl (k p l e R s m args below meth c D cA ta b0 H locs lsA cells slots Fin C hP hS hl hF)
theorem r_iconst {z : Int} (v : Int32) (hd : Dc mt pc (.iconst z) 1 n) (hv : Int32.ofInt z = v) (k : Wa X mt d n ls (.int v :: st) μ Q) : Wa X mt d pc ls (st) μ Q := by
  intro p l e R s m args below meth c D cA ta b0 H locs lsA cells slots Fin C hP hS hl hF
  obtain ⟨hd, rfl⟩ := hd
  exact lv_iconst C.1 C.2.1 hd hv (k p l e R s m args below meth c D cA ta b0 H locs lsA cells slots Fin C hP hS hl hF)
theorem r_bipush {z : Int} (v : Int32) (hd : Dc mt pc (.bipush z) 2 n) (hv : (Int8.ofInt z).toInt32 = v) (k : Wa X mt d n ls (.int v :: st) μ Q) : Wa X mt d pc ls (st) μ Q := by
  intro p l e R s m args below meth c D cA ta b0 H locs lsA cells slots Fin C hP hS hl hF
  obtain ⟨hd, rfl⟩ := hd
  exact lv_bipush C.1 C.2.1 hd hv (k p l e R s m args below meth c D cA ta b0 H locs lsA cells slots Fin C hP hS hl hF)
theorem r_sipush {z : Int} (v : Int32) (hd : Dc mt pc (.sipush z) 3 n) (hv : (Int16.ofInt z).toInt32 = v) (k : Wa X mt d n ls (.int v :: st) μ Q) : Wa X mt d pc ls (st) μ Q := by
  intro p l e R s m args below meth c D cA ta b0 H locs lsA cells slots Fin C hP hS hl hF
  obtain ⟨hd, rfl⟩ := hd
  exact lv_sipush C.1 C.2.1 hd hv (k p l e R s m args below meth c D cA ta b0 H locs lsA cells slots Fin C hP hS hl hF)
theorem r_lconst {z : Fin 2} (v : Int64) (hd : Dc mt pc (.lconst z) 1 n) (hv : Int64.ofInt z.val = v) (k : Wa X mt d n ls (.long v :: st) μ Q) : Wa X mt d pc ls (st) μ Q := by
  intro p l e R s m args below meth c D cA ta b0 H locs lsA cells slots Fin C hP hS hl hF
  obtain ⟨hd, rfl⟩ := hd
  exact lv_lconst C.1 C.2.1 hd hv (k p l e R s m args below meth c D cA ta b0 H locs lsA cells slots Fin C hP hS hl hF)
theorem r_null  (hd : Dc mt pc .aconst_null 1 n) (k : Wa X mt d n ls (.null :: st) μ Q) : Wa X mt d pc ls (st) μ Q := by
  intro p l e R s m args below meth c D cA ta b0 H locs lsA cells slots Fin C hP hS hl hF
  obtain ⟨hd, rfl⟩ := hd
  exact lv_null C.1 C.2.1 hd (k p l e R s m args below meth c D cA ta b0 H locs lsA cells slots Fin C hP hS hl hF)
theorem r_dup {v : Value} (hd : Dc mt pc .dup 1 n) (hv : v.category = 1) (k : Wa X mt d n ls (v :: v :: st) μ Q) : Wa X mt d pc ls (v :: st) μ Q := by
  intro p l e R s m args below meth c D cA ta b0 H locs lsA cells slots Fin C hP hS hl hF
  obtain ⟨hd, rfl⟩ := hd
  exact lv_dup C.1 C.2.1 hd ((cv_cat b0 ta v).trans hv) (k p l e R s m args below meth c D cA ta b0 H locs lsA cells slots Fin C hP hS hl hF)
theorem r_pop {v : Value} (hd : Dc mt pc .pop 1 n) (hv : v.category = 1) (k : Wa X mt d n ls st μ Q) : Wa X mt d pc ls (v :: st) μ Q := by
  intro p l e R s m args below meth c D cA ta b0 H locs lsA cells slots Fin C hP hS hl hF
  obtain ⟨hd, rfl⟩ := hd
  exact lv_pop C.1 C.2.1 hd ((cv_cat b0 ta v).trans hv) (k p l e R s m args below meth c D cA ta b0 H locs lsA cells slots Fin C hP hS hl hF)
theorem r_dup_x1 {v w : Value} (hd : Dc mt pc .dup_x1 1 n) (hv : v.category = 1) (hw : w.category = 1) (k : Wa X mt d n ls (v :: w :: v :: st) μ Q) : Wa X mt d pc ls (v :: w :: st) μ Q := by
  intro p l e R s m args below meth c D cA ta b0 H locs lsA cells slots Fin C hP hS hl hF
  obtain ⟨hd, rfl⟩ := hd
  exact lv_dup_x1 C.1 C.2.1 hd ((cv_cat b0 ta v).trans hv) ((cv_cat b0 ta w).trans hw) (k p l e R s m args below meth c D cA ta b0 H locs lsA cells slots Fin C hP hS hl hF)
theorem r_dup2 {v w : Value} (hd : Dc mt pc .dup2 1 n) (hv : v.category = 1) (hw : w.category = 1) (k : Wa X mt d n ls (v :: w :: v :: w :: st) μ Q) : Wa X mt d pc ls (v :: w :: st) μ Q := by
  intro p l e R s m args below meth c D cA ta b0 H locs lsA cells slots Fin C hP hS hl hF
  obtain ⟨hd, rfl⟩ := hd
  exact lv_dup2_11 C.1 C.2.1 hd ((cv_cat b0 ta v).trans hv) ((cv_cat b0 ta w).trans hw) (k p l e R s m args below meth c D cA ta b0 H locs lsA cells slots Fin C hP hS hl hF)
theorem r_iload_n (i : Nat) {j : Fin 4} {x : Int32} (hd : Dc mt pc (.iload_n j) 1 n) (hj : (j : Nat) = i) (hi : ls[i]? = some (.int x)) (k : Wa X mt d n ls (.int x :: st) μ Q) : Wa X mt d pc ls st μ Q := by
  intro p l e R s m args below meth c D cA ta b0 H locs lsA cells slots Fin C hP hS hl hF
  obtain ⟨hd, rfl⟩ := hd
  exact lv_iload_n C.1 C.2.1 hd hj (hl.2.2 _ _ hi (by simp)) (k p l e R s m args below meth c D cA ta b0 H locs lsA cells slots Fin C hP hS hl hF)
theorem r_iload (i : Nat) {x : Int32} (hd : Dc mt pc (.iload i) 2 n) (hi : ls[i]? = some (.int x)) (k : Wa X mt d n ls (.int x :: st) μ Q) : Wa X mt d pc ls st μ Q := by
  intro p l e R s m args below meth c D cA ta b0 H locs lsA cells slots Fin C hP hS hl hF
  obtain ⟨hd, rfl⟩ := hd
  exact lv_iload C.1 C.2.1 hd (hl.2.2 _ _ hi (by simp)) (k p l e R s m args below meth c D cA ta b0 H locs lsA cells slots Fin C hP hS hl hF)
theorem r_istore_n (i : Nat) (ls1 : List Value) {j : Fin 4} {x : Int32} (hd : Dc mt pc (.istore_n j) 1 n) (hj : (j : Nat) = i) (hb : i < mt.2.2.1) (hs : st1 ls i (.int x) = ls1) (k : Wa X mt d n ls1 st μ Q) : Wa X mt d pc ls (.int x :: st) μ Q := by
  intro p l e R s m args below meth c D cA ta b0 H locs lsA cells slots Fin C hP hS hl hF
  obtain ⟨hd, rfl⟩ := hd
  subst hs
  exact lv_istore_n C.1 C.2.1 hd hj hl.has hb rfl (fun lsA1 hl1 => k p l e R s m args below meth c D cA ta b0 H locs lsA1 cells slots Fin C hP hS (Lh.st1 (v := .int x) hl1) hF)
theorem r_istore (i : Nat) (ls1 : List Value) {x : Int32} (hd : Dc mt pc (.istore i) 2 n) (hb : i < mt.2.2.1) (hs : st1 ls i (.int x) = ls1) (k : Wa X mt d n ls1 st μ Q) : Wa X mt d pc ls (.int x :: st) μ Q := by
  intro p l e R s m args below meth c D cA ta b0 H locs lsA cells slots Fin C hP hS hl hF
  obtain ⟨hd, rfl⟩ := hd
  subst hs
  exact lv_istore C.1 C.2.1 hd hl.has hb rfl (fun lsA1 hl1 => k p l e R s m args below meth c D cA ta b0 H locs lsA1 cells slots Fin C hP hS (Lh.st1 (v := .int x) hl1) hF)
theorem r_lload_n (i : Nat) {j : Fin 4} {x : Int64} (hd : Dc mt pc (.lload_n j) 1 n) (hj : (j : Nat) = i) (hi : ls[i]? = some (.long x)) (k : Wa X mt d n ls (.long x :: st) μ Q) : Wa X mt d pc ls st μ Q := by
  intro p l e R s m args below meth c D cA ta b0 H locs lsA cells slots Fin C hP hS hl hF
  obtain ⟨hd, rfl⟩ := hd
  exact lv_lload_n C.1 C.2.1 hd hj (hl.2.2 _ _ hi (by simp)) (k p l e R s m args below meth c D cA ta b0 H locs lsA cells slots Fin C hP hS hl hF)
theorem r_lload (i : Nat) {x : Int64} (hd : Dc mt pc (.lload i) 2 n) (hi : ls[i]? = some (.long x)) (k : Wa X mt d n ls (.long x :: st) μ Q) : Wa X mt d pc ls st μ Q := by
  intro p l e R s m args below meth c D cA ta b0 H locs lsA cells slots Fin C hP hS hl hF
  obtain ⟨hd, rfl⟩ := hd
  exact lv_lload C.1 C.2.1 hd (hl.2.2 _ _ hi (by simp)) (k p l e R s m args below meth c D cA ta b0 H locs lsA cells slots Fin C hP hS hl hF)
theorem r_lstore_n (i : Nat) (ls1 : List Value) {j : Fin 4} {x : Int64} (hd : Dc mt pc (.lstore_n j) 1 n) (hj : (j : Nat) = i) (hb : i + 1 < mt.2.2.1) (hs : st2 ls i (.long x) = ls1) (k : Wa X mt d n ls1 st μ Q) : Wa X mt d pc ls (.long x :: st) μ Q := by
  intro p l e R s m args below meth c D cA ta b0 H locs lsA cells slots Fin C hP hS hl hF
  obtain ⟨hd, rfl⟩ := hd
  subst hs
  exact lv_lstore_n C.1 C.2.1 hd hj hl.has hb rfl (fun lsA1 hl1 => k p l e R s m args below meth c D cA ta b0 H locs lsA1 cells slots Fin C hP hS (Lh.st2 (v := .long x) hl1) hF)
theorem r_lstore (i : Nat) (ls1 : List Value) {x : Int64} (hd : Dc mt pc (.lstore i) 2 n) (hb : i + 1 < mt.2.2.1) (hs : st2 ls i (.long x) = ls1) (k : Wa X mt d n ls1 st μ Q) : Wa X mt d pc ls (.long x :: st) μ Q := by
  intro p l e R s m args below meth c D cA ta b0 H locs lsA cells slots Fin C hP hS hl hF
  obtain ⟨hd, rfl⟩ := hd
  subst hs
  exact lv_lstore C.1 C.2.1 hd hl.has hb rfl (fun lsA1 hl1 => k p l e R s m args below meth c D cA ta b0 H locs lsA1 cells slots Fin C hP hS (Lh.st2 (v := .long x) hl1) hF)
theorem r_aload_n (i : Nat) {j : Fin 4} {x : Nat} (hd : Dc mt pc (.aload_n j) 1 n) (hj : (j : Nat) = i) (hi : ls[i]? = some (.ref x)) (k : Wa X mt d n ls (.ref x :: st) μ Q) : Wa X mt d pc ls st μ Q := by
  intro p l e R s m args below meth c D cA ta b0 H locs lsA cells slots Fin C hP hS hl hF
  obtain ⟨hd, rfl⟩ := hd
  exact lv_aload_n C.1 C.2.1 hd hj (hl.2.2 _ _ hi (by simp)) (k p l e R s m args below meth c D cA ta b0 H locs lsA cells slots Fin C hP hS hl hF)
theorem r_aload (i : Nat) {x : Nat} (hd : Dc mt pc (.aload i) 2 n) (hi : ls[i]? = some (.ref x)) (k : Wa X mt d n ls (.ref x :: st) μ Q) : Wa X mt d pc ls st μ Q := by
  intro p l e R s m args below meth c D cA ta b0 H locs lsA cells slots Fin C hP hS hl hF
  obtain ⟨hd, rfl⟩ := hd
  exact lv_aload C.1 C.2.1 hd (hl.2.2 _ _ hi (by simp)) (k p l e R s m args below meth c D cA ta b0 H locs lsA cells slots Fin C hP hS hl hF)
theorem r_astore_n (i : Nat) (ls1 : List Value) {j : Fin 4} {x : Nat} (hd : Dc mt pc (.astore_n j) 1 n) (hj : (j : Nat) = i) (hb : i < mt.2.2.1) (hs : st1 ls i (.ref x) = ls1) (k : Wa X mt d n ls1 st μ Q) : Wa X mt d pc ls (.ref x :: st) μ Q := by
  intro p l e R s m args below meth c D cA ta b0 H locs lsA cells slots Fin C hP hS hl hF
  obtain ⟨hd, rfl⟩ := hd
  subst hs
  exact lv_astore_n C.1 C.2.1 hd hj hl.has hb rfl (fun lsA1 hl1 => k p l e R s m args below meth c D cA ta b0 H locs lsA1 cells slots Fin C hP hS (Lh.st1 (v := .ref x) hl1) hF)
theorem r_astore (i : Nat) (ls1 : List Value) {x : Nat} (hd : Dc mt pc (.astore i) 2 n) (hb : i < mt.2.2.1) (hs : st1 ls i (.ref x) = ls1) (k : Wa X mt d n ls1 st μ Q) : Wa X mt d pc ls (.ref x :: st) μ Q := by
  intro p l e R s m args below meth c D cA ta b0 H locs lsA cells slots Fin C hP hS hl hF
  obtain ⟨hd, rfl⟩ := hd
  subst hs
  exact lv_astore C.1 C.2.1 hd hl.has hb rfl (fun lsA1 hl1 => k p l e R s m args below meth c D cA ta b0 H locs lsA1 cells slots Fin C hP hS (Lh.st1 (v := .ref x) hl1) hF)
theorem r_aload_nN (i : Nat) {j : Fin 4} (hd : Dc mt pc (.aload_n j) 1 n) (hj : (j : Nat) = i) (hi : ls[i]? = some .null) (k : Wa X mt d n ls (.null :: st) μ Q) : Wa X mt d pc ls st μ Q := by
  intro p l e R s m args below meth c D cA ta b0 H locs lsA cells slots Fin C hP hS hl hF
  obtain ⟨hd, rfl⟩ := hd
  exact lv_aload_nN C.1 C.2.1 hd hj (hl.2.2 _ _ hi (by simp)) (k p l e R s m args below meth c D cA ta b0 H locs lsA cells slots Fin C hP hS hl hF)
theorem r_aloadN (i : Nat) (hd : Dc mt pc (.aload i) 2 n) (hi : ls[i]? = some .null) (k : Wa X mt d n ls (.null :: st) μ Q) : Wa X mt d pc ls st μ Q := by
  intro p l e R s m args below meth c D cA ta b0 H locs lsA cells slots Fin C hP hS hl hF
  obtain ⟨hd, rfl⟩ := hd
  exact lv_aloadN C.1 C.2.1 hd (hl.2.2 _ _ hi (by simp)) (k p l e R s m args below meth c D cA ta b0 H locs lsA cells slots Fin C hP hS hl hF)
theorem r_astore_nN (i : Nat) (ls1 : List Value) {j : Fin 4} (hd : Dc mt pc (.astore_n j) 1 n) (hj : (j : Nat) = i) (hb : i < mt.2.2.1) (hs : st1 ls i .null = ls1) (k : Wa X mt d n ls1 st μ Q) : Wa X mt d pc ls (.null :: st) μ Q := by
  intro p l e R s m args below meth c D cA ta b0 H locs lsA cells slots Fin C hP hS hl hF
  obtain ⟨hd, rfl⟩ := hd
  subst hs
  exact lv_astore_nN C.1 C.2.1 hd hj hl.has hb rfl (fun lsA1 hl1 => k p l e R s m args below meth c D cA ta b0 H locs lsA1 cells slots Fin C hP hS (Lh.st1 (v := .null) hl1) hF)
theorem r_astoreN (i : Nat) (ls1 : List Value) (hd : Dc mt pc (.astore i) 2 n) (hb : i < mt.2.2.1) (hs : st1 ls i .null = ls1) (k : Wa X mt d n ls1 st μ Q) : Wa X mt d pc ls (.null :: st) μ Q := by
  intro p l e R s m args below meth c D cA ta b0 H locs lsA cells slots Fin C hP hS hl hF
  obtain ⟨hd, rfl⟩ := hd
  subst hs
  exact lv_astoreN C.1 C.2.1 hd hl.has hb rfl (fun lsA1 hl1 => k p l e R s m args below meth c D cA ta b0 H locs lsA1 cells slots Fin C hP hS (Lh.st1 (v := .null) hl1) hF)
theorem r_iinc (i : Nat) (ls1 : List Value) (w : Int32) {z : Int} {x : Int32} (hd : Dc mt pc (.iinc i z) 3 n) (hw : Int32.ofInt z = w) (hb : i < mt.2.2.1) (hi : ls[i]? = some (.int x)) (hs : st1 ls i (.int (x + w)) = ls1) (k : Wa X mt d n ls1 st μ Q) : Wa X mt d pc ls st μ Q := by
  intro p l e R s m args below meth c D cA ta b0 H locs lsA cells slots Fin C hP hS hl hF
  obtain ⟨hd, rfl⟩ := hd
  subst hs
  obtain ⟨j, hj⟩ := List.getElem?_of_mem (lvl_mem (b0 := b0) (ta := ta) hi (by simp))
  exact lv_iinc C.1 C.2.1 hd hl.has (k := j) hj (by rw [hw]) hb rfl (fun lsA1 hl1 => k p l e R s m args below meth c D cA ta b0 H locs lsA1 cells slots Fin C hP hS (Lh.st1 (v := .int (x + w)) hl1) hF)
theorem r_if_eq {x : Int32} {tgt : Nat} (hd : Dj mt pc (.ifCond .eq) n tgt) (kt : x = 0 → Wa X mt d tgt ls st μ Q) (kf : ¬ x = 0 → Wa X mt d n ls st μ Q) : Wa X mt d pc ls (.int x :: st) μ Q := by
  intro p l e R s m args below meth c D cA ta b0 H locs lsA cells slots Fin C hP hS hl hF
  obtain ⟨off, hd, rfl, ht⟩ := hd
  exact lv_if_eq C.1 C.2.1 hd ht (fun h => kt h p l e R s m args below meth c D cA ta b0 H locs lsA cells slots Fin C hP hS hl hF) (fun h => kf h p l e R s m args below meth c D cA ta b0 H locs lsA cells slots Fin C hP hS hl hF)
theorem r_icmp_eq {x y : Int32} {tgt : Nat} (hd : Dj mt pc (.if_icmp .eq) n tgt) (kt : x = y → Wa X mt d tgt ls st μ Q) (kf : ¬ x = y → Wa X mt d n ls st μ Q) : Wa X mt d pc ls (.int y :: .int x :: st) μ Q := by
  intro p l e R s m args below meth c D cA ta b0 H locs lsA cells slots Fin C hP hS hl hF
  obtain ⟨off, hd, rfl, ht⟩ := hd
  exact lv_icmp_eq C.1 C.2.1 hd ht (fun h => kt h p l e R s m args below meth c D cA ta b0 H locs lsA cells slots Fin C hP hS hl hF) (fun h => kf h p l e R s m args below meth c D cA ta b0 H locs lsA cells slots Fin C hP hS hl hF)
theorem r_if_ne {x : Int32} {tgt : Nat} (hd : Dj mt pc (.ifCond .ne) n tgt) (kt : ¬ x = 0 → Wa X mt d tgt ls st μ Q) (kf : x = 0 → Wa X mt d n ls st μ Q) : Wa X mt d pc ls (.int x :: st) μ Q := by
  intro p l e R s m args below meth c D cA ta b0 H locs lsA cells slots Fin C hP hS hl hF
  obtain ⟨off, hd, rfl, ht⟩ := hd
  exact lv_if_ne C.1 C.2.1 hd ht (fun h => kt h p l e R s m args below meth c D cA ta b0 H locs lsA cells slots Fin C hP hS hl hF) (fun h => kf h p l e R s m args below meth c D cA ta b0 H locs lsA cells slots Fin C hP hS hl hF)
theorem r_icmp_ne {x y : Int32} {tgt : Nat} (hd : Dj mt pc (.if_icmp .ne) n tgt) (kt : ¬ x = y → Wa X mt d tgt ls st μ Q) (kf : x = y → Wa X mt d n ls st μ Q) : Wa X mt d pc ls (.int y :: .int x :: st) μ Q := by
  intro p l e R s m args below meth c D cA ta b0 H locs lsA cells slots Fin C hP hS hl hF
  obtain ⟨off, hd, rfl, ht⟩ := hd
  exact lv_icmp_ne C.1 C.2.1 hd ht (fun h => kt h p l e R s m args below meth c D cA ta b0 H locs lsA cells slots Fin C hP hS hl hF) (fun h => kf h p l e R s m args below meth c D cA ta b0 H locs lsA cells slots Fin C hP hS hl hF)
theorem r_if_lt {x : Int32} {tgt : Nat} (hd : Dj mt pc (.ifCond .lt) n tgt) (kt : x < 0 → Wa X mt d tgt ls st μ Q) (kf : ¬ x < 0 → Wa X mt d n ls st μ Q) : Wa X mt d pc ls (.int x :: st) μ Q := by
  intro p l e R s m args below meth c D cA ta b0 H locs lsA cells slots Fin C hP hS hl hF
  obtain ⟨off, hd, rfl, ht⟩ := hd
  exact lv_if_lt C.1 C.2.1 hd ht (fun h => kt h p l e R s m args below meth c D cA ta b0 H locs lsA cells slots Fin C hP hS hl hF) (fun h => kf h p l e R s m args below meth c D cA ta b0 H locs lsA cells slots Fin C hP hS hl hF)
theorem r_icmp_lt {x y : Int32} {tgt : Nat} (hd : Dj mt pc (.if_icmp .lt) n tgt) (kt : x < y → Wa X mt d tgt ls st μ Q) (kf : ¬ x < y → Wa X mt d n ls st μ Q) : Wa X mt d pc ls (.int y :: .int x :: st) μ Q := by
  intro p l e R s m args below meth c D cA ta b0 H locs lsA cells slots Fin C hP hS hl hF
  obtain ⟨off, hd, rfl, ht⟩ := hd
  exact lv_icmp_lt C.1 C.2.1 hd ht (fun h => kt h p l e R s m args below meth c D cA ta b0 H locs lsA cells slots Fin C hP hS hl hF) (fun h => kf h p l e R s m args below meth c D cA ta b0 H locs lsA cells slots Fin C hP hS hl hF)
theorem r_if_ge {x : Int32} {tgt : Nat} (hd : Dj mt pc (.ifCond .ge) n tgt) (kt : 0 ≤ x → Wa X mt d tgt ls st μ Q) (kf : ¬ 0 ≤ x → Wa X mt d n ls st μ Q) : Wa X mt d pc ls (.int x :: st) μ Q := by
  intro p l e R s m args below meth c D cA ta b0 H locs lsA cells slots Fin C hP hS hl hF
  obtain ⟨off, hd, rfl, ht⟩ := hd
  exact lv_if_ge C.1 C.2.1 hd ht (fun h => kt h p l e R s m args below meth c D cA ta b0 H locs lsA cells slots Fin C hP hS hl hF) (fun h => kf h p l e R s m args below meth c D cA ta b0 H locs lsA cells slots Fin C hP hS hl hF)
theorem r_icmp_ge {x y : Int32} {tgt : Nat} (hd : Dj mt pc (.if_icmp .ge) n tgt) (kt : y ≤ x → Wa X mt d tgt ls st μ Q) (kf : ¬ y ≤ x → Wa X mt d n ls st μ Q) : Wa X mt d pc ls (.int y :: .int x :: st) μ Q := by
  intro p l e R s m args below meth c D cA ta b0 H locs lsA cells slots Fin C hP hS hl hF
  obtain ⟨off, hd, rfl, ht⟩ := hd
  exact lv_icmp_ge C.1 C.2.1 hd ht (fun h => kt h p l e R s m args below meth c D cA ta b0 H locs lsA cells slots Fin C hP hS hl hF) (fun h => kf h p l e R s m args below meth c D cA ta b0 H locs lsA cells slots Fin C hP hS hl hF)
theorem r_if_gt {x : Int32} {tgt : Nat} (hd : Dj mt pc (.ifCond .gt) n tgt) (kt : 0 < x → Wa X mt d tgt ls st μ Q) (kf : ¬ 0 < x → Wa X mt d n ls st μ Q) : Wa X mt d pc ls (.int x :: st) μ Q := by
  intro p l e R s m args below meth c D cA ta b0 H locs lsA cells slots Fin C hP hS hl hF
  obtain ⟨off, hd, rfl, ht⟩ := hd
  exact lv_if_gt C.1 C.2.1 hd ht (fun h => kt h p l e R s m args below meth c D cA ta b0 H locs lsA cells slots Fin C hP hS hl hF) (fun h => kf h p l e R s m args below meth c D cA ta b0 H locs lsA cells slots Fin C hP hS hl hF)
theorem r_icmp_gt {x y : Int32} {tgt : Nat} (hd : Dj mt pc (.if_icmp .gt) n tgt) (kt : y < x → Wa X mt d tgt ls st μ Q) (kf : ¬ y < x → Wa X mt d n ls st μ Q) : Wa X mt d pc ls (.int y :: .int x :: st) μ Q := by
  intro p l e R s m args below meth c D cA ta b0 H locs lsA cells slots Fin C hP hS hl hF
  obtain ⟨off, hd, rfl, ht⟩ := hd
  exact lv_icmp_gt C.1 C.2.1 hd ht (fun h => kt h p l e R s m args below meth c D cA ta b0 H locs lsA cells slots Fin C hP hS hl hF) (fun h => kf h p l e R s m args below meth c D cA ta b0 H locs lsA cells slots Fin C hP hS hl hF)
theorem r_if_le {x : Int32} {tgt : Nat} (hd : Dj mt pc (.ifCond .le) n tgt) (kt : x ≤ 0 → Wa X mt d tgt ls st μ Q) (kf : ¬ x ≤ 0 → Wa X mt d n ls st μ Q) : Wa X mt d pc ls (.int x :: st) μ Q := by
  intro p l e R s m args below meth c D cA ta b0 H locs lsA cells slots Fin C hP hS hl hF
  obtain ⟨off, hd, rfl, ht⟩ := hd
  exact lv_if_le C.1 C.2.1 hd ht (fun h => kt h p l e R s m args below meth c D cA ta b0 H locs lsA cells slots Fin C hP hS hl hF) (fun h => kf h p l e R s m args below meth c D cA ta b0 H locs lsA cells slots Fin C hP hS hl hF)
theorem r_icmp_le {x y : Int32} {tgt : Nat} (hd : Dj mt pc (.if_icmp .le) n tgt) (kt : x ≤ y → Wa X mt d tgt ls st μ Q) (kf : ¬ x ≤ y → Wa X mt d n ls st μ Q) : Wa X mt d pc ls (.int y :: .int x :: st) μ Q := by
  intro p l e R s m args below meth c D cA ta b0 H locs lsA cells slots Fin C hP hS hl hF
  obtain ⟨off, hd, rfl, ht⟩ := hd
  exact lv_icmp_le C.1 C.2.1 hd ht (fun h => kt h p l e R s m args below meth c D cA ta b0 H locs lsA cells slots Fin C hP hS hl hF) (fun h => kf h p l e R s m args below meth c D cA ta b0 H locs lsA cells slots Fin C hP hS hl hF)
theorem r_goto {tgt : Nat} (hd : Dj mt pc .goto n tgt) (k : Wa X mt d tgt ls st μ Q) : Wa X mt d pc ls st μ Q := by
  intro p l e R s m args below meth c D cA ta b0 H locs lsA cells slots Fin C hP hS hl hF
  obtain ⟨off, hd, rfl, ht⟩ := hd
  exact lv_goto C.1 C.2.1 hd ht (k p l e R s m args below meth c D cA ta b0 H locs lsA cells slots Fin C hP hS hl hF)
theorem r_ifnull {x tgt : Nat} (hd : Dj mt pc .ifnull n tgt) (k : Wa X mt d n ls st μ Q) : Wa X mt d pc ls (.ref x :: st) μ Q := by
  intro p l e R s m args below meth c D cA ta b0 H locs lsA cells slots Fin C hP hS hl hF
  obtain ⟨off, hd, rfl, ht⟩ := hd
  exact lv_ifnull C.1 C.2.1 hd (k p l e R s m args below meth c D cA ta b0 H locs lsA cells slots Fin C hP hS hl hF)
theorem r_ifnullN {tgt : Nat} (hd : Dj mt pc .ifnull n tgt) (k : Wa X mt d tgt ls st μ Q) : Wa X mt d pc ls (.null :: st) μ Q := by
  intro p l e R s m args below meth c D cA ta b0 H locs lsA cells slots Fin C hP hS hl hF
  obtain ⟨off, hd, rfl, ht⟩ := hd
  exact lv_ifnullN C.1 C.2.1 hd ht (k p l e R s m args below meth c D cA ta b0 H locs lsA cells slots Fin C hP hS hl hF)
theorem r_ifnonnull {x tgt : Nat} (hd : Dj mt pc .ifnonnull n tgt) (k : Wa X mt d tgt ls st μ Q) : Wa X mt d pc ls (.ref x :: st) μ Q := by
  intro p l e R s m args below meth c D cA ta b0 H locs lsA cells slots Fin C hP hS hl hF
  obtain ⟨off, hd, rfl, ht⟩ := hd
  exact lv_ifnonnull C.1 C.2.1 hd ht (k p l e R s m args below meth c D cA ta b0 H locs lsA cells slots Fin C hP hS hl hF)
theorem r_ifnonnullN {tgt : Nat} (hd : Dj mt pc .ifnonnull n tgt) (k : Wa X mt d n ls st μ Q) : Wa X mt d pc ls (.null :: st) μ Q := by
  intro p l e R s m args below meth c D cA ta b0 H locs lsA cells slots Fin C hP hS hl hF
  obtain ⟨off, hd, rfl, ht⟩ := hd
  exact lv_ifnonnullN C.1 C.2.1 hd (k p l e R s m args below meth c D cA ta b0 H locs lsA cells slots Fin C hP hS hl hF)
-- returns
theorem r_ret (hd : Dc mt pc .return_ 1 n) (hr : mt.2.2.2 = none) (k : Q none μ) : Wa X mt d pc ls [] μ Q := by
  intro p l e R s m args below meth c D cA ta b0 H locs lsA cells slots Fin C hP hS hl hF
  exact hF none μ H locs pc lsA k hP hS (Or.inl ⟨rfl, hr, hd.1⟩)
theorem r_iret {v : Int32} (ty : FieldType) (hd : Dc mt pc .ireturn 1 n) (hr : mt.2.2.2 = some ty) (hn : narrow ty (.int v) = .int v) (k : Q (some (.int v)) μ) : Wa X mt d pc ls [.int v] μ Q := by
  intro p l e R s m args below meth c D cA ta b0 H locs lsA cells slots Fin C hP hS hl hF
  exact hF (some (.int v)) μ H locs pc lsA k hP hS (Or.inr (Or.inl ⟨v, ty, rfl, hr, hn, hd.1⟩))
theorem r_lret {v : Int64} (hd : Dc mt pc .lreturn 1 n) (hr : mt.2.2.2 = some .long) (k : Q (some (.long v)) μ) : Wa X mt d pc ls [.long v] μ Q := by
  intro p l e R s m args below meth c D cA ta b0 H locs lsA cells slots Fin C hP hS hl hF
  exact hF (some (.long v)) μ H locs pc lsA k hP hS (Or.inr (Or.inr (Or.inl ⟨v, rfl, hr, hd.1⟩)))
theorem r_aret {v : Nat} (nm : String) (hd : Dc mt pc .areturn 1 n) (hr : mt.2.2.2 = some (.object nm)) (k : Q (some (.ref v)) μ) : Wa X mt d pc ls [.ref v] μ Q := by
  intro p l e R s m args below meth c D cA ta b0 H locs lsA cells slots Fin C hP hS hl hF
  exact hF (some (.ref v)) μ H locs pc lsA k hP hS (Or.inr (Or.inr (Or.inr ⟨Or.inr ⟨v, rfl⟩, ⟨nm, hr⟩, hd.1⟩)))
theorem r_aretN (nm : String) (hd : Dc mt pc .areturn 1 n) (hr : mt.2.2.2 = some (.object nm)) (k : Q (some .null) μ) : Wa X mt d pc ls [.null] μ Q := by
  intro p l e R s m args below meth c D cA ta b0 H locs lsA cells slots Fin C hP hS hl hF
  exact hF (some .null) μ H locs pc lsA k hP hS (Or.inr (Or.inr (Or.inr ⟨Or.inl rfl, ⟨nm, hr⟩, hd.1⟩)))
-- fields
def FL (own : String) (idx ci j : Nat) : Prop := ∃ (C : String) (T : u_T) (N : Nat), kl[ci]? = some (C, T, N) ∧ j < N ∧ Cond.fieldLink own idx (T j).1 (T j).2.1 (T j).2.2.1 ∈ gtb ∧ ∀ w ∈ u_ws C T N, w ∈ gtb
def FP (own : String) (idx ci j : Nat) (ty : FieldType) : Prop := ∃ (C : String) (T : u_T) (N : Nat) (t0 : Nat → FieldType), kl[ci]? = some (C, T, N) ∧ j < N ∧ Cond.fieldLink own idx (T j).1 (T j).2.1 (T j).2.2.1 ∈ gtb ∧ (∀ w ∈ u_ws C T N, w ∈ gtb) ∧ (∀ k, k < N → parseFieldDescriptor (T k).2.2.1 = some (t0 k)) ∧ (∀ a, a < N → ∀ b, b < N → a ≠ b → (T a).2.1 ≠ (T b).2.1) ∧ (T j).2.2.2 = false ∧ parseFieldDescriptor (T j).2.2.1 = some ty
theorem cv_ref {b0 : Nat} {ta : Nat → Nat} {r : Nat} (h : r < 1000) : cv b0 ta (.ref r) = .ref (b0 + r) := by simp [cv, h]
theorem cv_hi {b0 : Nat} {ta : Nat → Nat} {r : Nat} (h : 1000 ≤ r) : cv b0 ta (.ref r) = .ref (ta r) := by simp [cv, Nat.not_lt.mpr h]
theorem r_getI {idx ci j c : Nat} {fks : List Nat} (hf : FL mt.1.cls idx ci j) (hs : shp[c]? = some (.inl (ci, fks))) (hk : fks[j]? = some 0) (hd : Dc mt pc (.getfield idx) 3 n) (k : Wa X mt d n ls (.int (μ.1 c j) :: st) μ Q) : Wa X mt d pc ls (.ref c :: st) μ Q := by
  intro p l e R s m args below meth c1 D cA ta b0 H locs lsA cells slots Fin C hP hS hl hF
  obtain ⟨hd, rfl⟩ := hd
  obtain ⟨C9, T, N, h1, h2, h3, h4⟩ := hf
  have hc := shp_lt hs
  rw [List.map_cons, cv_ref (by omega)]
  exact va_get C.1 C.2.1 C.2.2.2.2.1 h4 C.2.2.2.1 C.2.2.2.2.2.1.1 hP c (wl_get hs) h1 j h2 (C.2.2.2.2.1 _ h3) (fun _ h => h) (fvs_get hk) hd (k p l e R s m args below meth c1 D cA ta b0 H locs lsA cells slots Fin C hP hS hl hF)
theorem r_getL {idx ci j c : Nat} {fks : List Nat} (hf : FL mt.1.cls idx ci j) (hs : shp[c]? = some (.inl (ci, fks))) (hk : fks[j]? = some 1) (hd : Dc mt pc (.getfield idx) 3 n) (k : Wa X mt d n ls (.long (μ.2 c j) :: st) μ Q) : Wa X mt d pc ls (.ref c :: st) μ Q := by
  intro p l e R s m args below meth c1 D cA ta b0 H locs lsA cells slots Fin C hP hS hl hF
  obtain ⟨hd, rfl⟩ := hd
  obtain ⟨C9, T, N, h1, h2, h3, h4⟩ := hf
  have hc := shp_lt hs
  rw [List.map_cons, cv_ref (by omega)]
  exact va_get C.1 C.2.1 C.2.2.2.2.1 h4 C.2.2.2.1 C.2.2.2.2.2.1.1 hP c (wl_get hs) h1 j h2 (C.2.2.2.2.1 _ h3) (fun _ h => h) (fvs_get hk) hd (k p l e R s m args below meth c1 D cA ta b0 H locs lsA cells slots Fin C hP hS hl hF)
theorem r_getR {idx ci j c r : Nat} {fks : List Nat} (hf : FL mt.1.cls idx ci j) (hs : shp[c]? = some (.inl (ci, fks))) (hk : fks[j]? = some (r + 2)) (hd : Dc mt pc (.getfield idx) 3 n) (k : Wa X mt d n ls (.ref r :: st) μ Q) : Wa X mt d pc ls (.ref c :: st) μ Q := by
  intro p l e R s m args below meth c1 D cA ta b0 H locs lsA cells slots Fin C hP hS hl hF
  obtain ⟨hd, rfl⟩ := hd
  obtain ⟨C9, T, N, h1, h2, h3, h4⟩ := hf
  have hc := shp_lt hs
  have hr := shp_ref _ _ _ _ _ hs hk
  have k1 := k p l e R s m args below meth c1 D cA ta b0 H locs lsA cells slots Fin C hP hS hl hF
  rw [List.map_cons, cv_ref hr] at k1
  rw [List.map_cons, cv_ref (by omega)]
  exact va_get C.1 C.2.1 C.2.2.2.2.1 h4 C.2.2.2.1 C.2.2.2.2.2.1.1 hP c (wl_get hs) h1 j h2 (C.2.2.2.2.1 _ h3) (fun _ h => h) (fvs_get hk) hd k1
theorem r_putT {idx ci j c : Nat} {fks : List Nat} {v : Int32} (ty : FieldType) (hf : FP mt.1.cls idx ci j ty) (hs : shp[c]? = some (.inl (ci, fks))) (hk : fks[j]? = some 0) (hn : narrow ty (.int v) = .int v) (hft : fits ty (.int v) = true) (hd : Dc mt pc (.putfield idx) 3 n) (k : Wa X mt d n ls st (uI μ c j v) Q) : Wa X mt d pc ls (.int v :: .ref c :: st) μ Q := by
  intro p l e R s m args below meth c1 D cA ta b0 H locs lsA cells slots Fin C hP hS hl hF
  obtain ⟨hd, rfl⟩ := hd
  obtain ⟨C9, T, N, t0, h1, h2, h3, h4, h5, h6, h7, h8⟩ := hf
  have hc := shp_lt hs
  rw [List.map_cons, List.map_cons, cv_ref (by omega)]
  refine va_put C.1 C.2.1 C.2.2.2.2.1 h4 t0 h5 h6 C.2.2.2.1 C.2.2.2.2.2.1.1 hP wl_D hS c (wl_get hs) h1 j h2 (C.2.2.2.2.1 _ h3) (fun _ h => h) h7 h8 hn hft (by simp [fvs]; exact (List.getElem?_eq_some_iff.mp hk).1) hd (fun H1 locs1 hP1 _ hS1 => ?_)
  have hP1 : va_P D kl ((wl b0 cA μ).set c (b0 + c, .inr (ci, (fvs b0 μ c fks).set j (.int v)))) H1 := hP1
  rw [fvs_set hk, wl_set (μ' := uI μ c j v) (sp := .inl (ci, fks)) (e := .inr (ci, fvs b0 (uI μ c j v) c fks)) hs rfl (fun c' sp' hne => ea_rI_ne hne)] at hP1
  exact k p l e R s m args below meth c1 D cA ta b0 H1 locs1 lsA cells slots Fin C hP1 hS1 hl hF
theorem r_putI {idx ci j c : Nat} {fks : List Nat} {v : Int32} (hf : FP mt.1.cls idx ci j .int) (hs : shp[c]? = some (.inl (ci, fks))) (hk : fks[j]? = some 0) (hd : Dc mt pc (.putfield idx) 3 n) (k : Wa X mt d n ls st (uI μ c j v) Q) : Wa X mt d pc ls (.int v :: .ref c :: st) μ Q := r_putT .int hf hs hk rfl rfl hd k
theorem r_putZ {idx ci j c : Nat} {fks : List Nat} {v : Int32} (hf : FP mt.1.cls idx ci j .boolean) (hs : shp[c]? = some (.inl (ci, fks))) (hk : fks[j]? = some 0) (hv : v = 0 ∨ v = 1) (hd : Dc mt pc (.putfield idx) 3 n) (k : Wa X mt d n ls st (uI μ c j v) Q) : Wa X mt d pc ls (.int v :: .ref c :: st) μ Q := r_putT .boolean hf hs hk (by rcases hv with rfl | rfl <;> decide) (by rcases hv with rfl | rfl <;> decide) hd k
theorem r_putL {idx ci j c : Nat} {fks : List Nat} {v : Int64} (hf : FP mt.1.cls idx ci j .long) (hs : shp[c]? = some (.inl (ci, fks))) (hk : fks[j]? = some 1) (hd : Dc mt pc (.putfield idx) 3 n) (k : Wa X mt d n ls st (uL μ c j v) Q) : Wa X mt d pc ls (.long v :: .ref c :: st) μ Q := by
  intro p l e R s m args below meth c1 D cA ta b0 H locs lsA cells slots Fin C hP hS hl hF
  obtain ⟨hd, rfl⟩ := hd
  obtain ⟨C9, T, N, t0, h1, h2, h3, h4, h5, h6, h7, h8⟩ := hf
  have hc := shp_lt hs
  rw [List.map_cons, List.map_cons, cv_ref (by omega)]
  refine va_put C.1 C.2.1 C.2.2.2.2.1 h4 t0 h5 h6 C.2.2.2.1 C.2.2.2.2.2.1.1 hP wl_D hS c (wl_get hs) h1 j h2 (C.2.2.2.2.1 _ h3) (fun _ h => h) h7 h8 rfl rfl (by simp [fvs]; exact (List.getElem?_eq_some_iff.mp hk).1) hd (fun H1 locs1 hP1 _ hS1 => ?_)
  have hP1 : va_P D kl ((wl b0 cA μ).set c (b0 + c, .inr (ci, (fvs b0 μ c fks).set j (.long v)))) H1 := hP1
  rw [fvs_setL hk, wl_set (μ' := uL μ c j v) (sp := .inl (ci, fks)) (e := .inr (ci, fvs b0 (uL μ c j v) c fks)) hs rfl (fun c' sp' hne => ea_rL_ne hne)] at hP1
  exact k p l e R s m args below meth c1 D cA ta b0 H1 locs1 lsA cells slots Fin C hP1 hS1 hl hF
-- arrays
theorem r_iald {c N b g : Nat} {i : Int32} (hs : shp[c]? = some (.inr (0, N, b, g))) (hi : vp_in i N) (hd : Dc mt pc .iaload 1 n) (k : Wa X mt d n ls (.int (μ.1 c i.toNatClampNeg) :: st) μ Q) : Wa X mt d pc ls (.int i :: .ref c :: st) μ Q := by
  intro p l e R s m args below meth c1 D cA ta b0 H locs lsA cells slots Fin C hP hS hl hF
  obtain ⟨hd, rfl⟩ := hd
  have hc := shp_lt hs
  rw [List.map_cons, List.map_cons, cv_ref (by omega)]
  exact va_iald C.1 C.2.1 C.2.2.2.2.2.1.1 hP c 0 (wl_get hs) rfl hi hd (k p l e R s m args below meth c1 D cA ta b0 H locs lsA cells slots Fin C hP hS hl hF)
theorem r_bald {c N b g : Nat} {i : Int32} (hs : shp[c]? = some (.inr (1, N, b, g))) (hi : vp_in i N) (hd : Dc mt pc .baload 1 n) (k : Wa X mt d n ls (.int (μ.1 c i.toNatClampNeg) :: st) μ Q) : Wa X mt d pc ls (.int i :: .ref c :: st) μ Q := by
  intro p l e R s m args below meth c1 D cA ta b0 H locs lsA cells slots Fin C hP hS hl hF
  obtain ⟨hd, rfl⟩ := hd
  have hc := shp_lt hs
  rw [List.map_cons, List.map_cons, cv_ref (by omega)]
  exact va_bald C.1 C.2.1 C.2.2.2.2.2.1.1 hP c 1 (wl_get hs) rfl hi hd (k p l e R s m args below meth c1 D cA ta b0 H locs lsA cells slots Fin C hP hS hl hF)
theorem r_lald {c N b g : Nat} {i : Int32} (hs : shp[c]? = some (.inr (2, N, b, g))) (hi : vp_in i N) (hd : Dc mt pc .laload 1 n) (k : Wa X mt d n ls (.long (μ.2 c i.toNatClampNeg) :: st) μ Q) : Wa X mt d pc ls (.int i :: .ref c :: st) μ Q := by
  intro p l e R s m args below meth c1 D cA ta b0 H locs lsA cells slots Fin C hP hS hl hF
  obtain ⟨hd, rfl⟩ := hd
  have hc := shp_lt hs
  rw [List.map_cons, List.map_cons, cv_ref (by omega)]
  exact va_lald C.1 C.2.1 C.2.2.2.2.2.1.1 hP c 2 (wl_get hs) rfl hi hd (k p l e R s m args below meth c1 D cA ta b0 H locs lsA cells slots Fin C hP hS hl hF)
theorem r_aald3 {c N b g : Nat} {i : Int32} (hs : shp[c]? = some (.inr (3, N, b, g))) (h4 : N ≤ 4) (hi : vp_in i N) (hd : Dc mt pc .aaload 1 n) (k : Wa X mt d n ls (.ref (b + g * i.toNatClampNeg) :: st) μ Q) : Wa X mt d pc ls (.int i :: .ref c :: st) μ Q := by
  intro p l e R s m args below meth c1 D cA ta b0 H locs lsA cells slots Fin C hP hS hl hF
  obtain ⟨hd, rfl⟩ := hd
  have hc := shp_lt hs
  have hlt : i.toNatClampNeg < N := Nat.not_le.mp fun q => hi (Or.inr q)
  have hb := (shp_len _ _ _ _ _ hs).2
  have hg : g * i.toNatClampNeg ≤ g * 4 := Nat.mul_le_mul_left g (by omega)
  have hr : b + g * i.toNatClampNeg < 1000 := by
    rw [Nat.mul_comm g 4] at hg
    rw [Nat.mul_comm g 4] at hb
    omega
  have k1 := k p l e R s m args below meth c1 D cA ta b0 H locs lsA cells slots Fin C hP hS hl hF
  rw [List.map_cons, cv_ref hr] at k1
  rw [List.map_cons, List.map_cons, cv_ref (by omega)]
  have he : (wl b0 cA μ)[c]? = some (b0 + c, .inl (cA 3, N, .inr (.inr (.inr (.inr (fun j => some (b0 + (b + g * j)))))))) := wl_get (b0 := b0) (cA := cA) (μ := μ) hs
  exact va_aldq (C := R_Learner) C.1 C.2.1 C.2.2.2.2.2.1.1 hP c 3 he rfl hi hd k1
theorem r_aald4 {c N b g : Nat} {i : Int32} (hs : shp[c]? = some (.inr (4, N, b, g))) (h4 : N ≤ 4) (hi : vp_in i N) (hd : Dc mt pc .aaload 1 n) (k : Wa X mt d n ls (.ref (b + g * i.toNatClampNeg) :: st) μ Q) : Wa X mt d pc ls (.int i :: .ref c :: st) μ Q := by
  intro p l e R s m args below meth c1 D cA ta b0 H locs lsA cells slots Fin C hP hS hl hF
  obtain ⟨hd, rfl⟩ := hd
  have hc := shp_lt hs
  have hlt : i.toNatClampNeg < N := Nat.not_le.mp fun q => hi (Or.inr q)
  have hb := (shp_len _ _ _ _ _ hs).2
  have hg : g * i.toNatClampNeg ≤ g * 4 := Nat.mul_le_mul_left g (by omega)
  have hr : b + g * i.toNatClampNeg < 1000 := by
    rw [Nat.mul_comm g 4] at hg
    rw [Nat.mul_comm g 4] at hb
    omega
  have k1 := k p l e R s m args below meth c1 D cA ta b0 H locs lsA cells slots Fin C hP hS hl hF
  rw [List.map_cons, cv_ref hr] at k1
  rw [List.map_cons, List.map_cons, cv_ref (by omega)]
  have he : (wl b0 cA μ)[c]? = some (b0 + c, .inl (cA 4, N, .inr (.inr (.inr (.inr (fun j => some (b0 + (b + g * j)))))))) := wl_get (b0 := b0) (cA := cA) (μ := μ) hs
  exact va_aldq (C := R_Sheet) C.1 C.2.1 C.2.2.2.2.2.1.1 hP c 4 he rfl hi hd k1
theorem r_aald5 {c N b g : Nat} {i : Int32} (hs : shp[c]? = some (.inr (5, N, b, g))) (h4 : N ≤ 4) (hi : vp_in i N) (hd : Dc mt pc .aaload 1 n) (k : Wa X mt d n ls (.ref (b + g * i.toNatClampNeg) :: st) μ Q) : Wa X mt d pc ls (.int i :: .ref c :: st) μ Q := by
  intro p l e R s m args below meth c1 D cA ta b0 H locs lsA cells slots Fin C hP hS hl hF
  obtain ⟨hd, rfl⟩ := hd
  have hc := shp_lt hs
  have hlt : i.toNatClampNeg < N := Nat.not_le.mp fun q => hi (Or.inr q)
  have hb := (shp_len _ _ _ _ _ hs).2
  have hg : g * i.toNatClampNeg ≤ g * 4 := Nat.mul_le_mul_left g (by omega)
  have hr : b + g * i.toNatClampNeg < 1000 := by
    rw [Nat.mul_comm g 4] at hg
    rw [Nat.mul_comm g 4] at hb
    omega
  have k1 := k p l e R s m args below meth c1 D cA ta b0 H locs lsA cells slots Fin C hP hS hl hF
  rw [List.map_cons, cv_ref hr] at k1
  rw [List.map_cons, List.map_cons, cv_ref (by omega)]
  have he : (wl b0 cA μ)[c]? = some (b0 + c, .inl (cA 5, N, .inr (.inr (.inr (.inr (fun j => some (b0 + (b + g * j)))))))) := wl_get (b0 := b0) (cA := cA) (μ := μ) hs
  exact va_aldq (C := R_Shelf) C.1 C.2.1 C.2.2.2.2.2.1.1 hP c 5 he rfl hi hd k1
theorem r_iast {c N b g : Nat} {i v : Int32} (hs : shp[c]? = some (.inr (0, N, b, g))) (hi : vp_in i N) (hd : Dc mt pc .iastore 1 n) (k : Wa X mt d n ls st (uI μ c i.toNatClampNeg v) Q) : Wa X mt d pc ls (.int v :: .int i :: .ref c :: st) μ Q := by
  intro p l e R s m args below meth c1 D cA ta b0 H locs lsA cells slots Fin C hP hS hl hF
  obtain ⟨hd, rfl⟩ := hd
  have hc := shp_lt hs
  rw [List.map_cons, List.map_cons, List.map_cons, cv_ref (by omega)]
  refine va_iast C.1 C.2.1 C.2.2.2.2.2.1.1 hP wl_D hS c 0 (wl_get hs) rfl hi hd (fun H1 locs1 hP1 _ hS1 => ?_)
  rw [wl_set (μ' := uI μ c i.toNatClampNeg v) hs (by simp [ea, av, uI, rI_eq]) (fun c' sp' hne => ea_rI_ne hne)] at hP1
  exact k p l e R s m args below meth c1 D cA ta b0 H1 locs1 lsA cells slots Fin C hP1 hS1 hl hF
theorem r_bast {c N b g : Nat} {i v : Int32} (hs : shp[c]? = some (.inr (1, N, b, g))) (hi : vp_in i N) (hd : Dc mt pc .bastore 1 n) (k : Wa X mt d n ls st (uI μ c i.toNatClampNeg (vp_nar .byte v)) Q) : Wa X mt d pc ls (.int v :: .int i :: .ref c :: st) μ Q := by
  intro p l e R s m args below meth c1 D cA ta b0 H locs lsA cells slots Fin C hP hS hl hF
  obtain ⟨hd, rfl⟩ := hd
  have hc := shp_lt hs
  rw [List.map_cons, List.map_cons, List.map_cons, cv_ref (by omega)]
  refine va_bast C.1 C.2.1 C.2.2.2.2.2.1.1 hP wl_D hS c 1 (wl_get hs) rfl hi hd (fun H1 locs1 hP1 _ hS1 => ?_)
  rw [wl_set (μ' := uI μ c i.toNatClampNeg (vp_nar .byte v)) hs (by simp [ea, av, uI, rI_eq]) (fun c' sp' hne => ea_rI_ne hne)] at hP1
  exact k p l e R s m args below meth c1 D cA ta b0 H1 locs1 lsA cells slots Fin C hP1 hS1 hl hF
theorem r_last {c N b g : Nat} {i : Int32} {v : Int64} (hs : shp[c]? = some (.inr (2, N, b, g))) (hi : vp_in i N) (hd : Dc mt pc .lastore 1 n) (k : Wa X mt d n ls st (uL μ c i.toNatClampNeg v) Q) : Wa X mt d pc ls (.long v :: .int i :: .ref c :: st) μ Q := by
  intro p l e R s m args below meth c1 D cA ta b0 H locs lsA cells slots Fin C hP hS hl hF
  obtain ⟨hd, rfl⟩ := hd
  have hc := shp_lt hs
  rw [List.map_cons, List.map_cons, List.map_cons, cv_ref (by omega)]
  refine va_last C.1 C.2.1 C.2.2.2.2.2.1.1 hP wl_D hS c 2 (wl_get hs) rfl hi hd (fun H1 locs1 hP1 _ hS1 => ?_)
  rw [wl_set (μ' := uL μ c i.toNatClampNeg v) hs (by simp [ea, av, uL, rL_eq]) (fun c' sp' hne => ea_rL_ne hne)] at hP1
  exact k p l e R s m args below meth c1 D cA ta b0 H1 locs1 lsA cells slots Fin C hP1 hS1 hl hF
-- the static tables
theorem r_gets {idx : Nat} (t : Nat) (ht : t < 8) (hf : Cond.fieldLink mt.1.cls idx "SevenEights" (stn t) "[I" ∈ gtb) (hd : Dc mt pc (.getstatic idx) 3 n) (k : Wa X mt d n ls (.ref (1000 + t) :: st) μ Q) : Wa X mt d pc ls st μ Q := by
  intro p l e R s m args below meth c1 D cA ta b0 H locs lsA cells slots Fin C hP hS hl hF
  obtain ⟨hd, rfl⟩ := hd
  have k1 := k p l e R s m args below meth c1 D cA ta b0 H locs lsA cells slots Fin C hP hS hl hF
  rw [List.map_cons, cv_hi (Nat.le_add_right 1000 t)] at k1
  exact va_gets C.1 C.2.1 (C.2.2.2.2.2.1.2.2.2.1 t ht).1 hS C.2.2.2.1 (C.2.2.2.2.1 _ hf) (fun _ h => h) hd k1
theorem r_getsN {idx : Nat} {host : String} (t : Nat) (ht : t < 8) (hf : (mt.1.cls, idx, "SevenEights", stn t, "[I", host) ∈ nwf) (hd : Dc mt pc (.getstatic idx) 3 n) (k : Wa X mt d n ls (.ref (1000 + t) :: st) μ Q) : Wa X mt d pc ls st μ Q := by
  intro p l e R s m args below meth c1 D cA ta b0 H locs lsA cells slots Fin C hP hS hl hF
  obtain ⟨hd, rfl⟩ := hd
  have k1 := k p l e R s m args below meth c1 D cA ta b0 H locs lsA cells slots Fin C hP hS hl hF
  rw [List.map_cons, cv_hi (Nat.le_add_right 1000 t)] at k1
  exact va_getsN C.1 C.2.1 (C.2.2.2.2.2.1.2.2.2.1 t ht).1 hS C.2.2.2.1 (va_Nw.use rfl (C.2.2.2.2.2.1.2.2.1 _ hf)) (fun _ h => h) hd k1
theorem r_tald {t : Nat} {i : Int32} (ht : t < 8) (hi : vp_in i (sta t).length) (hd : Dc mt pc .iaload 1 n) (k : Wa X mt d n ls (.int ((sta t).getD i.toNatClampNeg 0) :: st) μ Q) : Wa X mt d pc ls (.int i :: .ref (1000 + t) :: st) μ Q := by
  intro p l e R s m args below meth c1 D cA ta b0 H locs lsA cells slots Fin C hP hS hl hF
  obtain ⟨hd, rfl⟩ := hd
  have k1 := k p l e R s m args below meth c1 D cA ta b0 H locs lsA cells slots Fin C hP hS hl hF
  rw [List.map_cons, List.map_cons, cv_hi (Nat.le_add_right 1000 t)]
  exact va_ti C.1 C.2.1 (C.2.2.2.2.2.1.2.2.2.1 t ht).2 hS hi rfl hd k1
-- constants
theorem r_ldc {idx : Nat} {v : Int32} (hf : Cond.constant mt.1.cls idx v ∈ gtb) (hd : Dc mt pc (.ldc idx) 2 n) (k : Wa X mt d n ls (.int v :: st) μ Q) : Wa X mt d pc ls st μ Q := by
  intro p l e R s m args below meth c1 D cA ta b0 H locs lsA cells slots Fin C hP hS hl hF
  obtain ⟨hd, rfl⟩ := hd
  exact lv_ldc C.1 C.2.1 C.2.2.2.1 (C.2.2.2.2.1 _ hf) hd (k p l e R s m args below meth c1 D cA ta b0 H locs lsA cells slots Fin C hP hS hl hF)
theorem r_ldc_w {idx : Nat} {v : Int32} (hf : Cond.constant mt.1.cls idx v ∈ gtb) (hd : Dc mt pc (.ldc_w idx) 3 n) (k : Wa X mt d n ls (.int v :: st) μ Q) : Wa X mt d pc ls st μ Q := by
  intro p l e R s m args below meth c1 D cA ta b0 H locs lsA cells slots Fin C hP hS hl hF
  obtain ⟨hd, rfl⟩ := hd
  exact lv_ldcw C.1 C.2.1 C.2.2.2.1 (C.2.2.2.2.1 _ hf) hd (k p l e R s m args below meth c1 D cA ta b0 H locs lsA cells slots Fin C hP hS hl hF)
theorem r_ldc2 {idx : Nat} {v : Int64} (hf : Cond.constantLong mt.1.cls idx v ∈ gtb) (hd : Dc mt pc (.ldc2_w idx) 3 n) (k : Wa X mt d n ls (.long v :: st) μ Q) : Wa X mt d pc ls st μ Q := by
  intro p l e R s m args below meth c1 D cA ta b0 H locs lsA cells slots Fin C hP hS hl hF
  obtain ⟨hd, rfl⟩ := hd
  exact lv_ldc2 C.1 C.2.1 C.2.2.2.1 (C.2.2.2.2.1 _ hf) hd (k p l e R s m args below meth c1 D cA ta b0 H locs lsA cells slots Fin C hP hS hl hF)
theorem r_ldcS {idx : Nat} (q : Nat) (hq : q < 4) (hm : mt.1.cls = "SevenEights$Text") (hi : (ssx q).2 = idx) (hd : Dc mt pc (.ldc idx) 2 n) (k : Wa X mt d n ls (.ref (2000 + q) :: st) μ Q) : Wa X mt d pc ls st μ Q := by
  intro p l e R s m args below meth c1 D cA ta b0 H locs lsA cells slots Fin C hP hS hl hF
  obtain ⟨hd, rfl⟩ := hd
  have k1 := k p l e R s m args below meth c1 D cA ta b0 H locs lsA cells slots Fin C hP hS hl hF
  rw [List.map_cons, cv_hi (show 1000 ≤ 2000 + q by omega)] at k1
  subst hi
  exact va_ldcS (own := "SevenEights$Text") C.1 C.2.1 (by rw [← hm]; exact C.2.2.2.1) (C.2.2.2.2.2.1.2.2.2.2.1 q hq) hd k1
-- the script
theorem r_sald {i : Int32} (hi : vp_in i X.1) (hd : Dc mt pc .iaload 1 n) (k : Wa X mt d n ls (.int (X.2 i.toNatClampNeg) :: st) μ Q) : Wa X mt d pc ls (.int i :: .ref 3000 :: st) μ Q := by
  intro p l e R s m args below meth c1 D cA ta b0 H locs lsA cells slots Fin C hP hS hl hF
  obtain ⟨hd, rfl⟩ := hd
  obtain ⟨-, -, -, -, -, -, -, h8, h9, h10⟩ := C.2.2.2.2.2.1
  exact va_sld C.1 C.2.1 h8 h9 (fun z => absurd (show b0 ≤ ta 3000 from z) (by omega)) hS hi hd (k p l e R s m args below meth c1 D cA ta b0 H locs lsA cells slots Fin C hP hS hl hF)
theorem r_slen (hd : Dc mt pc .arraylength 1 n) (k : Wa X mt d n ls (.int (Int32.ofNat X.1) :: st) μ Q) : Wa X mt d pc ls (.ref 3000 :: st) μ Q := by
  intro p l e R s m args below meth c1 D cA ta b0 H locs lsA cells slots Fin C hP hS hl hF
  obtain ⟨hd, rfl⟩ := hd
  obtain ⟨-, -, -, -, -, -, -, h8, h9, h10⟩ := C.2.2.2.2.2.1
  exact va_slen C.1 C.2.1 h8 h9 (fun z => absurd (show b0 ≤ ta 3000 from z) (by omega)) hS hd (k p l e R s m args below meth c1 D cA ta b0 H locs lsA cells slots Fin C hP hS hl hF)
-- calls
theorem run_k {p : Program} {l : Launch} {e : Env} {R : Room} {s : State} {m : MethodId} {args : Array Value} {below : List Frame} {meth : Method} {c : Code} {H : Heap} {locs : List Loc} {cells slots pc : Nat} {lsA : Array Slot} {st0 rest : List Value} {Fin : State → Prop} {D : va_G} {cA : Nat → ClassId} {ta : Nat → Nat} {b0 : Nat} {post : Option Value → Me → Prop} {a : Array Value}
    (hr : va_Run p l e R s m args below meth c H locs cells slots 0 0 (F0 m pc lsA st0) rest (Qcx D cA ta b0 post a) (Ab b0)) (hS : va_S (Ab b0) s.heap H locs)
    (kk : ∀ (r : Option Value) (μ' : Me) (H1 : Heap) (locs1 : List Loc), post r μ' → va_P D kl (wl b0 cA μ') H1 → va_S (Ab b0) s.heap H1 locs1 → W p l e R s m args below meth c H1 locs1 cells slots Fin (F0 m (pc + 3) lsA ((r.map (cv b0 ta)).toList ++ rest))) : W p l e R s m args below meth c H locs cells slots Fin (F0 m pc lsA st0) := by
  intro T hT Y
  obtain ⟨v, st₀, t, T', L, h0, Y', hL, e1, e2, ⟨⟨r, μ', hv, hp, hP'⟩, hz, hk⟩, stp⟩ := hr T hT Y
  cases hv
  rw [h0] at hz hk
  obtain ⟨t2, a1, b1⟩ := kk r μ' T'.heap (locs ++ L) hp (by rw [e1]; exact hP') ⟨Nat.le_trans hS.1 (by rw [e1]; exact hz), fun q h1 h2 => by rw [e1, hk q (Nat.lt_of_lt_of_le h1 hS.1) h2]; exact hS.2.1 q h1 h2, fun q hq => by
      rcases List.mem_append.mp hq with h | h
      · exact hS.2.2 q h
      · exact hL q h⟩ T' rfl Y'
  exact ⟨t2, stp t2 a1, b1⟩
/-- what a call site of a static method needs -/
def LkS (own : String) (idx : Nat) (y : MT) (na : Nat) : Prop := Cond.methodLink own idx y.1 ∈ gtb ∧ Cond.static y.1 ∈ gtb ∧ Cond.initialized y.1.cls ∈ gtb ∧ Cond.code y.1 y.2.1 y.2.2.1 y.2.2.2 ∈ gtb ∧ y.2.2.1 ≤ 45 ∧ (y.1.cls ≠ "java/lang/invoke/MethodHandle" ∧ y.1.cls ≠ "java/lang/invoke/VarHandle" ∧ (parseMethodDescriptor y.1.desc).map (fun d => d.parameters.length) = some na)
def LkSN (own : String) (idx : Nat) (y : MT) (na : Nat) : Prop := (∃ host, (own, idx, y.1, host) ∈ nwm) ∧ Cond.static y.1 ∈ gtb ∧ Cond.initialized y.1.cls ∈ gtb ∧ Cond.code y.1 y.2.1 y.2.2.1 y.2.2.2 ∈ gtb ∧ y.2.2.1 ≤ 45 ∧ (y.1.cls ≠ "java/lang/invoke/MethodHandle" ∧ y.1.cls ≠ "java/lang/invoke/VarHandle" ∧ (parseMethodDescriptor y.1.desc).map (fun d => d.parameters.length) = some na)
def LkV (own : String) (idx : Nat) (y : MT) (na ci : Nat) : Prop := Cond.methodLink own idx y.1 ∈ gtb ∧ Cond.instanceMethod y.1 ∈ gtb ∧ Cond.selects y.1.cls y.1 y.1 ∈ gtb ∧ Cond.initialized y.1.cls ∈ gtb ∧ Cond.code y.1 y.2.1 y.2.2.1 y.2.2.2 ∈ gtb ∧ y.2.2.1 ≤ 45 ∧ (y.1.cls ≠ "java/lang/invoke/MethodHandle" ∧ y.1.cls ≠ "java/lang/invoke/VarHandle" ∧ (parseMethodDescriptor y.1.desc).map (fun d => d.parameters.length) = some na) ∧ ∃ q : vw_C, kl[ci]? = some q ∧ q.1 = y.1.cls
theorem good_wsm {y : MT} (h : Cond.code y.1 y.2.1 y.2.2.1 y.2.2.2 ∈ gtb) : GoodIn gtb (wsm y) := fun w hw => by
  rcases List.mem_cons.mp hw with rfl | hw
  · exact gtb_good _ h
  · exact gtb_good _ hw
theorem cvl_rev (b0 : Nat) (ta : Nat → Nat) (As st : List Value) : (As.reverse ++ st).map (cv b0 ta) = (As.map (cv b0 ta)).reverse ++ st.map (cv b0 ta) := by simp
theorem r_callS {y : MT} {idx na d' : Nat} {As st0 : List Value} {post : Option Value → Me → Prop} (hM : Ct y d' As μ post) (hf : LkS mt.1.cls idx y na) (hd : Dc mt pc (.invokestatic idx) 3 n) (hst : st0 = As.reverse ++ st) (hn : As.length = na) (hw : (st.map fun v => v.category).sum ≤ 8) (hdd : d' < d) (k : ∀ r μ', post r μ' → Wa X mt d n ls (r.toList ++ st) μ' Q) : Wa X mt d pc ls st0 μ Q := by
  intro p l e R s m args below meth c D cA ta b0 H locs lsA cells slots Fin C hP hS hl hF
  obtain ⟨hd, rfl⟩ := hd
  obtain ⟨f1, f2, f3, f4, f5, f6⟩ := hf
  obtain ⟨c1, c2, c3, c4, c5, c6, c7, c8, c9, c10⟩ := C
  have hcw := va_cwS (R := R) (rm := rmD d') (mc := 0) (ms := 0) (bytes := y.2.1) (maxL := y.2.2.1) (ret := y.2.2.2) (ws' := gtb) na c5 (show GoodIn gtb (va_wsS mt.1.cls idx y.1 (wsm y)) from fun w hw => by
    rcases List.mem_append.mp hw with h | h
    · simp only [List.mem_cons, List.not_mem_nil, or_false] at h
      rcases h with rfl | rfl | rfl
      · exact gtb_good _ f1
      · exact gtb_good _ f2
      · exact gtb_good _ f3
    · exact good_wsm f4 w h) rfl rfl rfl f6 ⟨by show d' + 1 ≤ R.frames; omega, by show 8 + (y.2.2.1 + 11) + 64 * d' ≤ R.locals; omega⟩
  subst hst
  rw [cvl_rev]
  refine run_k (va_runS ⟨c1, c2, c3, c4, c5⟩ (hM l X D cA ta b0) hcw ⟨Pcx.blind, fun U hU hW => ⟨rfl, by rw [hU]; exact hP, c6.move hS hU hW⟩⟩ rfl (by simpa using hn) (hl.1) rfl (lv_room (by rw [cv_cats]; exact hw)) hd ⟨c9, c10⟩) hS ?_
  intro r μ' H1 locs1 hp hP1 hS1
  have := k r μ' hp p l e R s m args below meth c D cA ta b0 H1 locs1 lsA cells slots Fin ⟨c1, c2, c3, c4, c5, c6, c7, c8, c9, c10⟩ hP1 hS1 hl hF
  rw [List.map_append] at this
  cases r <;> exact this
theorem r_callSN {y : MT} {idx na d' : Nat} {As st0 : List Value} {post : Option Value → Me → Prop} (hM : Ct y d' As μ post) (hf : LkSN mt.1.cls idx y na) (hd : Dc mt pc (.invokestatic idx) 3 n) (hst : st0 = As.reverse ++ st) (hn : As.length = na) (hw : (st.map fun v => v.category).sum ≤ 8) (hdd : d' < d) (k : ∀ r μ', post r μ' → Wa X mt d n ls (r.toList ++ st) μ' Q) : Wa X mt d pc ls st0 μ Q := by
  intro p l e R s m args below meth c D cA ta b0 H locs lsA cells slots Fin C hP hS hl hF
  obtain ⟨hd, rfl⟩ := hd
  obtain ⟨⟨host, f1⟩, f2, f3, f4, f5, f6⟩ := hf
  obtain ⟨c1, c2, c3, c4, c5, c6, c7, c8, c9, c10⟩ := C
  have hcw := va_cnB (R := R) (rm := rmD d') (mc := 0) (ms := 0) (bytes := y.2.1) (maxL := y.2.2.1) (ret := y.2.2.2) (ws' := gtb) na c5 (good_wsm f4) rfl rfl rfl (c6.2.1 _ f1) (c5 _ f3) f6 ⟨by show d' + 1 ≤ R.frames; omega, by show 8 + (y.2.2.1 + 11) + 64 * d' ≤ R.locals; omega⟩
  subst hst
  rw [cvl_rev]
  refine run_k (va_runSN ⟨c1, c2, c3, c4, c5⟩ (hM l X D cA ta b0) ⟨hcw, c5 _ f2, trivial⟩ ⟨Pcx.blind, fun U hU hW => ⟨rfl, by rw [hU]; exact hP, c6.move hS hU hW⟩⟩ rfl (by simpa using hn) (hl.1) rfl (lv_room (by rw [cv_cats]; exact hw)) hd ⟨c9, c10⟩) hS ?_
  intro r μ' H1 locs1 hp hP1 hS1
  have := k r μ' hp p l e R s m args below meth c D cA ta b0 H1 locs1 lsA cells slots Fin ⟨c1, c2, c3, c4, c5, c6, c7, c8, c9, c10⟩ hP1 hS1 hl hF
  rw [List.map_append] at this
  cases r <;> exact this
theorem r_callV {y : MT} {idx na ci d' b : Nat} {fks : List Nat} {As st0 : List Value} {post : Option Value → Me → Prop} (hM : Ct y d' (.ref b :: As) μ post) (hf : LkV mt.1.cls idx y na ci) (hs : shp[b]? = some (.inl (ci, fks))) (hd : Dc mt pc (.invokevirtual idx) 3 n) (hst : st0 = As.reverse ++ .ref b :: st) (hn : As.length = na) (hw : (st.map fun v => v.category).sum ≤ 8) (hdd : d' < d) (k : ∀ r μ', post r μ' → Wa X mt d n ls (r.toList ++ st) μ' Q) : Wa X mt d pc ls st0 μ Q := by
  intro p l e R s m args below meth c D cA ta b0 H locs lsA cells slots Fin C hP hS hl hF
  obtain ⟨hd, rfl⟩ := hd
  obtain ⟨f1, f2, f2b, f3, f4, f5, f6, q, f7, f8⟩ := hf
  obtain ⟨c1, c2, c3, c4, c5, c6, c7, c8, c9, c10⟩ := C
  have hcw := cwV (R := R) (rm := rmD d') (mc := 0) (ms := 0) (bytes := y.2.1) (maxL := y.2.2.1) (ret := y.2.2.2) (ws' := gtb) (C := y.1.cls) na c5 (show GoodIn gtb (wsV mt.1.cls idx y.1.cls y.1 (wsm y)) from fun w hw => by
    rcases List.mem_append.mp hw with h | h
    · simp only [List.mem_cons, List.not_mem_nil, or_false] at h
      rcases h with rfl | rfl | rfl | rfl
      · exact gtb_good _ f1
      · exact gtb_good _ f2
      · exact gtb_good _ f2b
      · exact gtb_good _ f3
    · exact good_wsm f4 w h) rfl rfl rfl ⟨rfl, f6⟩ ⟨by show d' + 1 ≤ R.frames; omega, by show 8 + (y.2.2.1 + 11) + 64 * d' ≤ R.locals; omega⟩
  subst hst
  have hb := shp_lt hs
  rw [cvl_rev, List.map_cons, cv_ref (show b < 1000 by omega)]
  have hM1 := hM l X D cA ta b0
  refine run_k (va_runV ⟨c1, c2, c3, c4, c5⟩ hM1 hcw ⟨Pcx.blind, ?_, fun U hU hW => ⟨by rw [List.map_cons, cv_ref (show b < 1000 by omega)], by rw [hU]; exact hP, c6.move hS hU hW⟩⟩ rfl (by simpa using hn) (hl.1) rfl (lv_room (by rw [cv_cats]; exact hw)) hd ⟨c9, c10⟩) hS ?_
  · rw [← f8]
    exact va_recv c6.1 hP f7 (wl_get hs)
  · intro r μ' H1 locs1 hp hP1 hS1
    have := k r μ' hp p l e R s m args below meth c D cA ta b0 H1 locs1 lsA cells slots Fin ⟨c1, c2, c3, c4, c5, c6, c7, c8, c9, c10⟩ hP1 hS1 hl hF
    rw [List.map_append] at this
    cases r <;> exact this
-- Math
theorem r_min {idx : Nat} {x y : Int32} (hf : Cond.methodLink mt.1.cls idx Lib.Math.min.name ∈ gtb ∧ Cond.static Lib.Math.min.name ∈ gtb ∧ Cond.initialized "java/lang/Math" ∈ gtb ∧ Cond.code Lib.Math.min.name Lib.Math.min.code 2 (some .int) ∈ gtb) (hd : Dc mt pc (.invokestatic idx) 3 n) (hw : (st.map fun v => v.category).sum ≤ 8) (hdd : 0 < d) (k : Wa X mt d n ls (.int (if y < x then y else x) :: st) μ Q) : Wa X mt d pc ls (.int y :: .int x :: st) μ Q := by
  intro p l e R s m args below meth c D cA ta b0 H locs lsA cells slots Fin C hP hS hl hF
  obtain ⟨hd, rfl⟩ := hd
  have k1 := k p l e R s m args below meth c D cA ta b0 H locs lsA cells slots Fin C hP hS hl hF
  obtain ⟨c1, c2, c3, c4, c5, c6, c7, c8, c9, c10⟩ := C
  exact va_mmin c1 c2 (c3.trans hl.1.symm) c4 (c5 _ hf.1) (c5 _ hf.2.1) (c5 _ hf.2.2.1) (c5 _ hf.2.2.2) (by omega) (by rw [cv_cats]; omega) c9 c10 hd k1
theorem r_max {idx : Nat} {x y : Int32} (hf : Cond.methodLink mt.1.cls idx Lib.Math.max.name ∈ gtb ∧ Cond.static Lib.Math.max.name ∈ gtb ∧ Cond.initialized "java/lang/Math" ∈ gtb ∧ Cond.code Lib.Math.max.name Lib.Math.max.code 2 (some .int) ∈ gtb) (hd : Dc mt pc (.invokestatic idx) 3 n) (hw : (st.map fun v => v.category).sum ≤ 8) (hdd : 0 < d) (k : Wa X mt d n ls (.int (if x < y then y else x) :: st) μ Q) : Wa X mt d pc ls (.int y :: .int x :: st) μ Q := by
  intro p l e R s m args below meth c D cA ta b0 H locs lsA cells slots Fin C hP hS hl hF
  obtain ⟨hd, rfl⟩ := hd
  have k1 := k p l e R s m args below meth c D cA ta b0 H locs lsA cells slots Fin C hP hS hl hF
  obtain ⟨c1, c2, c3, c4, c5, c6, c7, c8, c9, c10⟩ := C
  exact va_mmax c1 c2 (c3.trans hl.1.symm) c4 (c5 _ hf.1) (c5 _ hf.2.1) (c5 _ hf.2.2.1) (c5 _ hf.2.2.2) (by omega) (by rw [cv_cats]; omega) c9 c10 hd k1

end Rules
end
