section
/-- a private method of a class that the tables say can be made, by its rows of tables_1 -/
def lw_okq (q : MethodName × Nat) : Prop := (q.1.cls ≠ "java/lang/invoke/MethodHandle" ∧ q.1.cls ≠ "java/lang/invoke/VarHandle") ∧ Cond.instantiable q.1.cls q.2 ∈ tables_1 ∧ Cond.privateMethod q.1 ∈ tables_1 ∧ Cond.instanceMethod q.1 ∈ tables_1
theorem lw_p0 : lw_okq (⟨"ElevenOne", "newTurn", "(IIIII)LElevenOne$Turn;"⟩, 5) := ⟨⟨by decide +kernel, by decide +kernel⟩, List.mem_of_getElem? (i := 23) (by decide +kernel), List.mem_of_getElem? (i := 182) (by decide +kernel), List.mem_of_getElem? (i := 183) (by decide +kernel)⟩
theorem lw_p1 : lw_okq (⟨"ElevenOne", "shelfAt", "(I)LElevenOne$Shelf;"⟩, 5) := ⟨⟨by decide +kernel, by decide +kernel⟩, List.mem_of_getElem? (i := 23) (by decide +kernel), List.mem_of_getElem? (i := 433) (by decide +kernel), List.mem_of_getElem? (i := 434) (by decide +kernel)⟩
theorem lw_p2 : lw_okq (⟨"ElevenOne$Law", "readSum", "(I)V"⟩, 6) := ⟨⟨by decide +kernel, by decide +kernel⟩, List.mem_of_getElem? (i := 445) (by decide +kernel), List.mem_of_getElem? (i := 460) (by decide +kernel), List.mem_of_getElem? (i := 461) (by decide +kernel)⟩
theorem lw_p3 : lw_okq (⟨"ElevenOne$Law", "readProduct", "(I)V"⟩, 6) := ⟨⟨by decide +kernel, by decide +kernel⟩, List.mem_of_getElem? (i := 445) (by decide +kernel), List.mem_of_getElem? (i := 464) (by decide +kernel), List.mem_of_getElem? (i := 465) (by decide +kernel)⟩
theorem lw_p4 : lw_okq (⟨"ElevenOne$Law", "readAtom", "(I)V"⟩, 6) := ⟨⟨by decide +kernel, by decide +kernel⟩, List.mem_of_getElem? (i := 445) (by decide +kernel), List.mem_of_getElem? (i := 468) (by decide +kernel), List.mem_of_getElem? (i := 469) (by decide +kernel)⟩
theorem lw_p5 : lw_okq (⟨"ElevenOne$Law", "next", "()I"⟩, 6) := ⟨⟨by decide +kernel, by decide +kernel⟩, List.mem_of_getElem? (i := 445) (by decide +kernel), List.mem_of_getElem? (i := 472) (by decide +kernel), List.mem_of_getElem? (i := 473) (by decide +kernel)⟩
theorem lw_p6 : lw_okq (⟨"ElevenOne$Law", "readBracket", "(II)V"⟩, 6) := ⟨⟨by decide +kernel, by decide +kernel⟩, List.mem_of_getElem? (i := 445) (by decide +kernel), List.mem_of_getElem? (i := 476) (by decide +kernel), List.mem_of_getElem? (i := 477) (by decide +kernel)⟩
theorem lw_p7 : lw_okq (⟨"ElevenOne$Law", "findFault", "()V"⟩, 6) := ⟨⟨by decide +kernel, by decide +kernel⟩, List.mem_of_getElem? (i := 445) (by decide +kernel), List.mem_of_getElem? (i := 480) (by decide +kernel), List.mem_of_getElem? (i := 481) (by decide +kernel)⟩
theorem lw_p8 : lw_okq (⟨"ElevenOne$Law", "take", "(I)V"⟩, 6) := ⟨⟨by decide +kernel, by decide +kernel⟩, List.mem_of_getElem? (i := 445) (by decide +kernel), List.mem_of_getElem? (i := 484) (by decide +kernel), List.mem_of_getElem? (i := 485) (by decide +kernel)⟩
theorem lw_p9 : lw_okq (⟨"ElevenOne$Law", "write", "(I)V"⟩, 6) := ⟨⟨by decide +kernel, by decide +kernel⟩, List.mem_of_getElem? (i := 445) (by decide +kernel), List.mem_of_getElem? (i := 488) (by decide +kernel), List.mem_of_getElem? (i := 489) (by decide +kernel)⟩
theorem lw_p10 : lw_okq (⟨"ElevenOne$Law", "readNumber", "()V"⟩, 6) := ⟨⟨by decide +kernel, by decide +kernel⟩, List.mem_of_getElem? (i := 445) (by decide +kernel), List.mem_of_getElem? (i := 493) (by decide +kernel), List.mem_of_getElem? (i := 494) (by decide +kernel)⟩
theorem lw_p11 : lw_okq (⟨"ElevenOne$Room", "takeSlips", "()V"⟩, 19) := ⟨⟨by decide +kernel, by decide +kernel⟩, List.mem_of_getElem? (i := 31) (by decide +kernel), List.mem_of_getElem? (i := 627) (by decide +kernel), List.mem_of_getElem? (i := 628) (by decide +kernel)⟩
theorem lw_p12 : lw_okq (⟨"ElevenOne", "runInMind", "()V"⟩, 5) := ⟨⟨by decide +kernel, by decide +kernel⟩, List.mem_of_getElem? (i := 23) (by decide +kernel), List.mem_of_getElem? (i := 640) (by decide +kernel), List.mem_of_getElem? (i := 641) (by decide +kernel)⟩
theorem lw_p13 : lw_okq (⟨"ElevenOne", "endWithRule", "(II)I"⟩, 5) := ⟨⟨by decide +kernel, by decide +kernel⟩, List.mem_of_getElem? (i := 23) (by decide +kernel), List.mem_of_getElem? (i := 686) (by decide +kernel), List.mem_of_getElem? (i := 687) (by decide +kernel)⟩
theorem lw_p14 : lw_okq (⟨"ElevenOne", "endWithout", "(II)I"⟩, 5) := ⟨⟨by decide +kernel, by decide +kernel⟩, List.mem_of_getElem? (i := 23) (by decide +kernel), List.mem_of_getElem? (i := 705) (by decide +kernel), List.mem_of_getElem? (i := 706) (by decide +kernel)⟩
theorem lw_p15 : lw_okq (⟨"java/lang/Throwable", "fillInStackTrace", "(I)Ljava/lang/Throwable;"⟩, 6) := ⟨⟨by decide +kernel, by decide +kernel⟩, List.mem_of_getElem? (i := 870) (by decide +kernel), List.mem_of_getElem? (i := 868) (by decide +kernel), List.mem_of_getElem? (i := 869) (by decide +kernel)⟩
def lw_privs_1 : List (MethodName × Nat) := [(⟨"ElevenOne", "newTurn", "(IIIII)LElevenOne$Turn;"⟩, 5), (⟨"ElevenOne", "shelfAt", "(I)LElevenOne$Shelf;"⟩, 5), (⟨"ElevenOne$Law", "readSum", "(I)V"⟩, 6), (⟨"ElevenOne$Law", "readProduct", "(I)V"⟩, 6), (⟨"ElevenOne$Law", "readAtom", "(I)V"⟩, 6), (⟨"ElevenOne$Law", "next", "()I"⟩, 6), (⟨"ElevenOne$Law", "readBracket", "(II)V"⟩, 6), (⟨"ElevenOne$Law", "findFault", "()V"⟩, 6), (⟨"ElevenOne$Law", "take", "(I)V"⟩, 6), (⟨"ElevenOne$Law", "write", "(I)V"⟩, 6), (⟨"ElevenOne$Law", "readNumber", "()V"⟩, 6), (⟨"ElevenOne$Room", "takeSlips", "()V"⟩, 19), (⟨"ElevenOne", "runInMind", "()V"⟩, 5), (⟨"ElevenOne", "endWithRule", "(II)I"⟩, 5), (⟨"ElevenOne", "endWithout", "(II)I"⟩, 5), (⟨"java/lang/Throwable", "fillInStackTrace", "(I)Ljava/lang/Throwable;"⟩, 6)]
theorem lw_r1 : ∀ q ∈ lw_privs_1, lw_okq q := List.forall_mem_cons.mpr ⟨lw_p0, List.forall_mem_cons.mpr ⟨lw_p1, List.forall_mem_cons.mpr ⟨lw_p2, List.forall_mem_cons.mpr ⟨lw_p3, List.forall_mem_cons.mpr ⟨lw_p4, List.forall_mem_cons.mpr ⟨lw_p5, List.forall_mem_cons.mpr ⟨lw_p6, List.forall_mem_cons.mpr ⟨lw_p7, List.forall_mem_cons.mpr ⟨lw_p8, List.forall_mem_cons.mpr ⟨lw_p9, List.forall_mem_cons.mpr ⟨lw_p10, List.forall_mem_cons.mpr ⟨lw_p11, List.forall_mem_cons.mpr ⟨lw_p12, List.forall_mem_cons.mpr ⟨lw_p13, List.forall_mem_cons.mpr ⟨lw_p14, List.forall_mem_cons.mpr ⟨lw_p15, fun _ h => absurd h List.not_mem_nil⟩⟩⟩⟩⟩⟩⟩⟩⟩⟩⟩⟩⟩⟩⟩⟩
theorem lw_p16 : lw_okq (⟨"ElevenOneModel", "isJuror", "(I)Z"⟩, 30) := ⟨⟨by decide +kernel, by decide +kernel⟩, List.mem_of_getElem? (i := 955) (by decide +kernel), List.mem_of_getElem? (i := 1079) (by decide +kernel), List.mem_of_getElem? (i := 1080) (by decide +kernel)⟩
theorem lw_p17 : lw_okq (⟨"ElevenOneModel", "isSet", "(I)Z"⟩, 30) := ⟨⟨by decide +kernel, by decide +kernel⟩, List.mem_of_getElem? (i := 955) (by decide +kernel), List.mem_of_getElem? (i := 1083) (by decide +kernel), List.mem_of_getElem? (i := 1084) (by decide +kernel)⟩
theorem lw_p18 : lw_okq (⟨"ElevenOneModel", "becomes", "(II)I"⟩, 30) := ⟨⟨by decide +kernel, by decide +kernel⟩, List.mem_of_getElem? (i := 955) (by decide +kernel), List.mem_of_getElem? (i := 1087) (by decide +kernel), List.mem_of_getElem? (i := 1088) (by decide +kernel)⟩
theorem lw_p19 : lw_okq (⟨"ElevenOneModel", "get", "(II)I"⟩, 30) := ⟨⟨by decide +kernel, by decide +kernel⟩, List.mem_of_getElem? (i := 955) (by decide +kernel), List.mem_of_getElem? (i := 1097) (by decide +kernel), List.mem_of_getElem? (i := 1098) (by decide +kernel)⟩
theorem lw_p20 : lw_okq (⟨"ElevenOneModel", "hasBegun", "()Z"⟩, 30) := ⟨⟨by decide +kernel, by decide +kernel⟩, List.mem_of_getElem? (i := 955) (by decide +kernel), List.mem_of_getElem? (i := 1101) (by decide +kernel), List.mem_of_getElem? (i := 1102) (by decide +kernel)⟩
theorem lw_p21 : lw_okq (⟨"ElevenOneModel", "wrongRow", "(II)I"⟩, 30) := ⟨⟨by decide +kernel, by decide +kernel⟩, List.mem_of_getElem? (i := 955) (by decide +kernel), List.mem_of_getElem? (i := 1113) (by decide +kernel), List.mem_of_getElem? (i := 1114) (by decide +kernel)⟩
theorem lw_p22 : lw_okq (⟨"ElevenOneModel", "readsSum", "()Z"⟩, 30) := ⟨⟨by decide +kernel, by decide +kernel⟩, List.mem_of_getElem? (i := 955) (by decide +kernel), List.mem_of_getElem? (i := 1117) (by decide +kernel), List.mem_of_getElem? (i := 1118) (by decide +kernel)⟩
theorem lw_p23 : lw_okq (⟨"ElevenOneModel", "readsProduct", "()Z"⟩, 30) := ⟨⟨by decide +kernel, by decide +kernel⟩, List.mem_of_getElem? (i := 955) (by decide +kernel), List.mem_of_getElem? (i := 1121) (by decide +kernel), List.mem_of_getElem? (i := 1122) (by decide +kernel)⟩
theorem lw_p24 : lw_okq (⟨"ElevenOneModel", "readsAtom", "()Z"⟩, 30) := ⟨⟨by decide +kernel, by decide +kernel⟩, List.mem_of_getElem? (i := 955) (by decide +kernel), List.mem_of_getElem? (i := 1125) (by decide +kernel), List.mem_of_getElem? (i := 1126) (by decide +kernel)⟩
theorem lw_p25 : lw_okq (⟨"ElevenOneModel", "sign", "()I"⟩, 30) := ⟨⟨by decide +kernel, by decide +kernel⟩, List.mem_of_getElem? (i := 955) (by decide +kernel), List.mem_of_getElem? (i := 1129) (by decide +kernel), List.mem_of_getElem? (i := 1130) (by decide +kernel)⟩
theorem lw_p26 : lw_okq (⟨"ElevenOneModel", "takes", "(I)Z"⟩, 30) := ⟨⟨by decide +kernel, by decide +kernel⟩, List.mem_of_getElem? (i := 955) (by decide +kernel), List.mem_of_getElem? (i := 1133) (by decide +kernel), List.mem_of_getElem? (i := 1134) (by decide +kernel)⟩
theorem lw_p27 : lw_okq (⟨"ElevenOneModel", "readsNumber", "()Z"⟩, 30) := ⟨⟨by decide +kernel, by decide +kernel⟩, List.mem_of_getElem? (i := 955) (by decide +kernel), List.mem_of_getElem? (i := 1140) (by decide +kernel), List.mem_of_getElem? (i := 1141) (by decide +kernel)⟩
theorem lw_p28 : lw_okq (⟨"ElevenOneModel", "sees", "(III)V"⟩, 30) := ⟨⟨by decide +kernel, by decide +kernel⟩, List.mem_of_getElem? (i := 955) (by decide +kernel), List.mem_of_getElem? (i := 1150) (by decide +kernel), List.mem_of_getElem? (i := 1151) (by decide +kernel)⟩
theorem lw_p29 : lw_okq (⟨"ElevenOneModel", "leansBy", "(III)I"⟩, 30) := ⟨⟨by decide +kernel, by decide +kernel⟩, List.mem_of_getElem? (i := 955) (by decide +kernel), List.mem_of_getElem? (i := 1154) (by decide +kernel), List.mem_of_getElem? (i := 1155) (by decide +kernel)⟩
theorem lw_p30 : lw_okq (⟨"ElevenOneModel", "speaksOf", "(I)I"⟩, 30) := ⟨⟨by decide +kernel, by decide +kernel⟩, List.mem_of_getElem? (i := 955) (by decide +kernel), List.mem_of_getElem? (i := 1158) (by decide +kernel), List.mem_of_getElem? (i := 1159) (by decide +kernel)⟩
theorem lw_p31 : lw_okq (⟨"ElevenOneModel", "sum", "()I"⟩, 30) := ⟨⟨by decide +kernel, by decide +kernel⟩, List.mem_of_getElem? (i := 955) (by decide +kernel), List.mem_of_getElem? (i := 1162) (by decide +kernel), List.mem_of_getElem? (i := 1163) (by decide +kernel)⟩
def lw_privs_2 : List (MethodName × Nat) := [(⟨"ElevenOneModel", "isJuror", "(I)Z"⟩, 30), (⟨"ElevenOneModel", "isSet", "(I)Z"⟩, 30), (⟨"ElevenOneModel", "becomes", "(II)I"⟩, 30), (⟨"ElevenOneModel", "get", "(II)I"⟩, 30), (⟨"ElevenOneModel", "hasBegun", "()Z"⟩, 30), (⟨"ElevenOneModel", "wrongRow", "(II)I"⟩, 30), (⟨"ElevenOneModel", "readsSum", "()Z"⟩, 30), (⟨"ElevenOneModel", "readsProduct", "()Z"⟩, 30), (⟨"ElevenOneModel", "readsAtom", "()Z"⟩, 30), (⟨"ElevenOneModel", "sign", "()I"⟩, 30), (⟨"ElevenOneModel", "takes", "(I)Z"⟩, 30), (⟨"ElevenOneModel", "readsNumber", "()Z"⟩, 30), (⟨"ElevenOneModel", "sees", "(III)V"⟩, 30), (⟨"ElevenOneModel", "leansBy", "(III)I"⟩, 30), (⟨"ElevenOneModel", "speaksOf", "(I)I"⟩, 30), (⟨"ElevenOneModel", "sum", "()I"⟩, 30)]
theorem lw_r2 : ∀ q ∈ lw_privs_2, lw_okq q := List.forall_mem_cons.mpr ⟨lw_p16, List.forall_mem_cons.mpr ⟨lw_p17, List.forall_mem_cons.mpr ⟨lw_p18, List.forall_mem_cons.mpr ⟨lw_p19, List.forall_mem_cons.mpr ⟨lw_p20, List.forall_mem_cons.mpr ⟨lw_p21, List.forall_mem_cons.mpr ⟨lw_p22, List.forall_mem_cons.mpr ⟨lw_p23, List.forall_mem_cons.mpr ⟨lw_p24, List.forall_mem_cons.mpr ⟨lw_p25, List.forall_mem_cons.mpr ⟨lw_p26, List.forall_mem_cons.mpr ⟨lw_p27, List.forall_mem_cons.mpr ⟨lw_p28, List.forall_mem_cons.mpr ⟨lw_p29, List.forall_mem_cons.mpr ⟨lw_p30, List.forall_mem_cons.mpr ⟨lw_p31, fun _ h => absurd h List.not_mem_nil⟩⟩⟩⟩⟩⟩⟩⟩⟩⟩⟩⟩⟩⟩⟩⟩
theorem lw_p32 : lw_okq (⟨"ElevenOneModel", "product", "()I"⟩, 30) := ⟨⟨by decide +kernel, by decide +kernel⟩, List.mem_of_getElem? (i := 955) (by decide +kernel), List.mem_of_getElem? (i := 1166) (by decide +kernel), List.mem_of_getElem? (i := 1167) (by decide +kernel)⟩
theorem lw_p33 : lw_okq (⟨"ElevenOneModel", "atom", "()I"⟩, 30) := ⟨⟨by decide +kernel, by decide +kernel⟩, List.mem_of_getElem? (i := 955) (by decide +kernel), List.mem_of_getElem? (i := 1170) (by decide +kernel), List.mem_of_getElem? (i := 1171) (by decide +kernel)⟩
theorem lw_p34 : lw_okq (⟨"ElevenOneModel", "takesAll", "([I)V"⟩, 30) := ⟨⟨by decide +kernel, by decide +kernel⟩, List.mem_of_getElem? (i := 955) (by decide +kernel), List.mem_of_getElem? (i := 1186) (by decide +kernel), List.mem_of_getElem? (i := 1187) (by decide +kernel)⟩
theorem lw_p35 : lw_okq (⟨"ElevenOneModel", "leaderOf", "(I)I"⟩, 30) := ⟨⟨by decide +kernel, by decide +kernel⟩, List.mem_of_getElem? (i := 955) (by decide +kernel), List.mem_of_getElem? (i := 1190) (by decide +kernel), List.mem_of_getElem? (i := 1191) (by decide +kernel)⟩
theorem lw_p36 : lw_okq (⟨"ElevenOneModel", "begins", "([IIZ)V"⟩, 30) := ⟨⟨by decide +kernel, by decide +kernel⟩, List.mem_of_getElem? (i := 955) (by decide +kernel), List.mem_of_getElem? (i := 1194) (by decide +kernel), List.mem_of_getElem? (i := 1195) (by decide +kernel)⟩
theorem lw_p37 : lw_okq (⟨"ElevenOneModel", "saysYes", "([II)Z"⟩, 30) := ⟨⟨by decide +kernel, by decide +kernel⟩, List.mem_of_getElem? (i := 955) (by decide +kernel), List.mem_of_getElem? (i := 1198) (by decide +kernel), List.mem_of_getElem? (i := 1199) (by decide +kernel)⟩
theorem lw_p38 : lw_okq (⟨"ElevenOneModel", "leansIn", "([II)I"⟩, 30) := ⟨⟨by decide +kernel, by decide +kernel⟩, List.mem_of_getElem? (i := 955) (by decide +kernel), List.mem_of_getElem? (i := 1202) (by decide +kernel), List.mem_of_getElem? (i := 1203) (by decide +kernel)⟩
theorem lw_p39 : lw_okq (⟨"ElevenOneModel", "counts", "([I)V"⟩, 30) := ⟨⟨by decide +kernel, by decide +kernel⟩, List.mem_of_getElem? (i := 955) (by decide +kernel), List.mem_of_getElem? (i := 1206) (by decide +kernel), List.mem_of_getElem? (i := 1207) (by decide +kernel)⟩
theorem lw_p40 : lw_okq (⟨"ElevenOneModel", "neededNow", "()I"⟩, 30) := ⟨⟨by decide +kernel, by decide +kernel⟩, List.mem_of_getElem? (i := 955) (by decide +kernel), List.mem_of_getElem? (i := 1215) (by decide +kernel), List.mem_of_getElem? (i := 1216) (by decide +kernel)⟩
theorem lw_p41 : lw_okq (⟨"ElevenOneModel", "endOf", "([II)I"⟩, 30) := ⟨⟨by decide +kernel, by decide +kernel⟩, List.mem_of_getElem? (i := 955) (by decide +kernel), List.mem_of_getElem? (i := 1222) (by decide +kernel), List.mem_of_getElem? (i := 1223) (by decide +kernel)⟩
theorem lw_p42 : lw_okq (⟨"ElevenOneModel", "turn", "([I)V"⟩, 30) := ⟨⟨by decide +kernel, by decide +kernel⟩, List.mem_of_getElem? (i := 955) (by decide +kernel), List.mem_of_getElem? (i := 1226) (by decide +kernel), List.mem_of_getElem? (i := 1227) (by decide +kernel)⟩
theorem lw_p43 : lw_okq (⟨"ElevenOneModel", "acts", "([II)V"⟩, 30) := ⟨⟨by decide +kernel, by decide +kernel⟩, List.mem_of_getElem? (i := 955) (by decide +kernel), List.mem_of_getElem? (i := 1230) (by decide +kernel), List.mem_of_getElem? (i := 1231) (by decide +kernel)⟩
theorem lw_p44 : lw_okq (⟨"ElevenOneModel", "tellsThing", "([II)V"⟩, 30) := ⟨⟨by decide +kernel, by decide +kernel⟩, List.mem_of_getElem? (i := 955) (by decide +kernel), List.mem_of_getElem? (i := 1234) (by decide +kernel), List.mem_of_getElem? (i := 1235) (by decide +kernel)⟩
theorem lw_p45 : lw_okq (⟨"ElevenOneModel", "allHold", "([I)I"⟩, 30) := ⟨⟨by decide +kernel, by decide +kernel⟩, List.mem_of_getElem? (i := 955) (by decide +kernel), List.mem_of_getElem? (i := 1238) (by decide +kernel), List.mem_of_getElem? (i := 1239) (by decide +kernel)⟩
theorem lw_p46 : lw_okq (⟨"ElevenOneModel", "tellsStory", "([II)V"⟩, 30) := ⟨⟨by decide +kernel, by decide +kernel⟩, List.mem_of_getElem? (i := 955) (by decide +kernel), List.mem_of_getElem? (i := 1245) (by decide +kernel), List.mem_of_getElem? (i := 1246) (by decide +kernel)⟩
theorem lw_p47 : lw_okq (⟨"ElevenOneModel", "presses", "([I)V"⟩, 30) := ⟨⟨by decide +kernel, by decide +kernel⟩, List.mem_of_getElem? (i := 955) (by decide +kernel), List.mem_of_getElem? (i := 1251) (by decide +kernel), List.mem_of_getElem? (i := 1252) (by decide +kernel)⟩
def lw_privs_3 : List (MethodName × Nat) := [(⟨"ElevenOneModel", "product", "()I"⟩, 30), (⟨"ElevenOneModel", "atom", "()I"⟩, 30), (⟨"ElevenOneModel", "takesAll", "([I)V"⟩, 30), (⟨"ElevenOneModel", "leaderOf", "(I)I"⟩, 30), (⟨"ElevenOneModel", "begins", "([IIZ)V"⟩, 30), (⟨"ElevenOneModel", "saysYes", "([II)Z"⟩, 30), (⟨"ElevenOneModel", "leansIn", "([II)I"⟩, 30), (⟨"ElevenOneModel", "counts", "([I)V"⟩, 30), (⟨"ElevenOneModel", "neededNow", "()I"⟩, 30), (⟨"ElevenOneModel", "endOf", "([II)I"⟩, 30), (⟨"ElevenOneModel", "turn", "([I)V"⟩, 30), (⟨"ElevenOneModel", "acts", "([II)V"⟩, 30), (⟨"ElevenOneModel", "tellsThing", "([II)V"⟩, 30), (⟨"ElevenOneModel", "allHold", "([I)I"⟩, 30), (⟨"ElevenOneModel", "tellsStory", "([II)V"⟩, 30), (⟨"ElevenOneModel", "presses", "([I)V"⟩, 30)]
theorem lw_r3 : ∀ q ∈ lw_privs_3, lw_okq q := List.forall_mem_cons.mpr ⟨lw_p32, List.forall_mem_cons.mpr ⟨lw_p33, List.forall_mem_cons.mpr ⟨lw_p34, List.forall_mem_cons.mpr ⟨lw_p35, List.forall_mem_cons.mpr ⟨lw_p36, List.forall_mem_cons.mpr ⟨lw_p37, List.forall_mem_cons.mpr ⟨lw_p38, List.forall_mem_cons.mpr ⟨lw_p39, List.forall_mem_cons.mpr ⟨lw_p40, List.forall_mem_cons.mpr ⟨lw_p41, List.forall_mem_cons.mpr ⟨lw_p42, List.forall_mem_cons.mpr ⟨lw_p43, List.forall_mem_cons.mpr ⟨lw_p44, List.forall_mem_cons.mpr ⟨lw_p45, List.forall_mem_cons.mpr ⟨lw_p46, List.forall_mem_cons.mpr ⟨lw_p47, fun _ h => absurd h List.not_mem_nil⟩⟩⟩⟩⟩⟩⟩⟩⟩⟩⟩⟩⟩⟩⟩⟩
theorem lw_p48 : lw_okq (⟨"ElevenOneModel", "runNow", "()I"⟩, 30) := ⟨⟨by decide +kernel, by decide +kernel⟩, List.mem_of_getElem? (i := 955) (by decide +kernel), List.mem_of_getElem? (i := 1264) (by decide +kernel), List.mem_of_getElem? (i := 1265) (by decide +kernel)⟩
theorem lw_p49 : lw_okq (⟨"ElevenOneModel", "runAll", "(I)I"⟩, 30) := ⟨⟨by decide +kernel, by decide +kernel⟩, List.mem_of_getElem? (i := 955) (by decide +kernel), List.mem_of_getElem? (i := 1268) (by decide +kernel), List.mem_of_getElem? (i := 1269) (by decide +kernel)⟩
theorem lw_p50 : lw_okq (⟨"ElevenOneModel", "runs", "(IIZ)I"⟩, 30) := ⟨⟨by decide +kernel, by decide +kernel⟩, List.mem_of_getElem? (i := 955) (by decide +kernel), List.mem_of_getElem? (i := 1272) (by decide +kernel), List.mem_of_getElem? (i := 1273) (by decide +kernel)⟩
theorem lw_p51 : lw_okq (⟨"ElevenOneModel", "slipsOf", "([I)I"⟩, 30) := ⟨⟨by decide +kernel, by decide +kernel⟩, List.mem_of_getElem? (i := 955) (by decide +kernel), List.mem_of_getElem? (i := 1276) (by decide +kernel), List.mem_of_getElem? (i := 1277) (by decide +kernel)⟩
theorem lw_p52 : lw_okq (⟨"ElevenOneModel", "marks", "(I)V"⟩, 30) := ⟨⟨by decide +kernel, by decide +kernel⟩, List.mem_of_getElem? (i := 955) (by decide +kernel), List.mem_of_getElem? (i := 1280) (by decide +kernel), List.mem_of_getElem? (i := 1281) (by decide +kernel)⟩
theorem lw_p53 : lw_okq (⟨"ElevenOneModel", "runWithout", "(I)I"⟩, 30) := ⟨⟨by decide +kernel, by decide +kernel⟩, List.mem_of_getElem? (i := 955) (by decide +kernel), List.mem_of_getElem? (i := 1324) (by decide +kernel), List.mem_of_getElem? (i := 1325) (by decide +kernel)⟩
theorem lw_p54 : lw_okq (⟨"ElevenOneModel", "voiceOf", "(I)I"⟩, 30) := ⟨⟨by decide +kernel, by decide +kernel⟩, List.mem_of_getElem? (i := 955) (by decide +kernel), List.mem_of_getElem? (i := 1352) (by decide +kernel), List.mem_of_getElem? (i := 1353) (by decide +kernel)⟩
theorem lw_p55 : lw_okq (⟨"ElevenOneModel", "wrongKept", "(I)I"⟩, 30) := ⟨⟨by decide +kernel, by decide +kernel⟩, List.mem_of_getElem? (i := 955) (by decide +kernel), List.mem_of_getElem? (i := 1376) (by decide +kernel), List.mem_of_getElem? (i := 1377) (by decide +kernel)⟩
def lw_privs_4 : List (MethodName × Nat) := [(⟨"ElevenOneModel", "runNow", "()I"⟩, 30), (⟨"ElevenOneModel", "runAll", "(I)I"⟩, 30), (⟨"ElevenOneModel", "runs", "(IIZ)I"⟩, 30), (⟨"ElevenOneModel", "slipsOf", "([I)I"⟩, 30), (⟨"ElevenOneModel", "marks", "(I)V"⟩, 30), (⟨"ElevenOneModel", "runWithout", "(I)I"⟩, 30), (⟨"ElevenOneModel", "voiceOf", "(I)I"⟩, 30), (⟨"ElevenOneModel", "wrongKept", "(I)I"⟩, 30)]
theorem lw_r4 : ∀ q ∈ lw_privs_4, lw_okq q := List.forall_mem_cons.mpr ⟨lw_p48, List.forall_mem_cons.mpr ⟨lw_p49, List.forall_mem_cons.mpr ⟨lw_p50, List.forall_mem_cons.mpr ⟨lw_p51, List.forall_mem_cons.mpr ⟨lw_p52, List.forall_mem_cons.mpr ⟨lw_p53, List.forall_mem_cons.mpr ⟨lw_p54, List.forall_mem_cons.mpr ⟨lw_p55, fun _ h => absurd h List.not_mem_nil⟩⟩⟩⟩⟩⟩⟩⟩
def lw_privs : List (MethodName × Nat) := lw_privs_1 ++ (lw_privs_2 ++ (lw_privs_3 ++ (lw_privs_4)))
def lw_tbl : List Cond := k2_sels lw_privs ++ tables_1
theorem lw_privs_ok : ∀ q ∈ lw_privs, lw_okq q := by
  show ∀ q ∈ lw_privs_1 ++ (lw_privs_2 ++ (lw_privs_3 ++ (lw_privs_4))), lw_okq q
  exact List.forall_mem_append.mpr ⟨lw_r1, List.forall_mem_append.mpr ⟨lw_r2, List.forall_mem_append.mpr ⟨lw_r3, lw_r4⟩⟩⟩
end
section
def RX0 : String := "ElevenOne$CountTurn"
def TX0 : u_T := fun k => match k with
  | 0 => ("ElevenOne$Turn", "number", "I", true)
  | 1 => ("ElevenOne$Turn", "kind", "I", true)
  | 2 => ("ElevenOne$Turn", "heeds", "I", true)
  | 3 => ("ElevenOne$Turn", "minutes", "I", true)
  | 4 => ("ElevenOne$Turn", "line", "I", true)
  | 5 => ("ElevenOne$Turn", "patience", "I", true)
  | 6 => ("ElevenOne$Turn", "lawNumber", "I", true)
  | _ => ("ElevenOne$Turn", "law", "LElevenOne$Law;", true)
def tyX0 : Nat → FieldType := fun k => match k with
  | 0 => .int
  | 1 => .int
  | 2 => .int
  | 3 => .int
  | 4 => .int
  | 5 => .int
  | 6 => .int
  | _ => .object "ElevenOne$Law"
theorem nmX0 : ∀ a, a < 8 → ∀ b, b < 8 → a ≠ b → (TX0 a).2.1 ≠ (TX0 b).2.1 := by decide +kernel
theorem tyX0_ok : ∀ k, k < 8 → parseFieldDescriptor (TX0 k).2.2.1 = some (tyX0 k) := by decide +kernel
abbrev cX0_init : ByteArray := prog_2_method_1_code
def yX0_init : MethodName := ⟨RX0, "<init>", "(IIIIILElevenOne$Law;)V"⟩
abbrev cX0_act : ByteArray := prog_2_method_2_code
def yX0_act : MethodName := ⟨RX0, "act", "(LElevenOne$Room;I)V"⟩
abbrev cX0_loudness : ByteArray := prog_2_method_3_code
def yX0_loudness : MethodName := ⟨RX0, "loudness", "(I)I"⟩
def RX1 : String := "ElevenOne$Law"
def TX1 : u_T := fun k => match k with
  | 0 => ("ElevenOne$Law", "text", "[I", true)
  | 1 => ("ElevenOne$Law", "place", "I", false)
  | 2 => ("ElevenOne$Law", "signs", "[I", true)
  | 3 => ("ElevenOne$Law", "signCount", "I", false)
  | 4 => ("ElevenOne$Law", "stack", "[I", true)
  | _ => ("ElevenOne$Law", "fault", "I", false)
def tyX1 : Nat → FieldType := fun k => match k with
  | 0 => .array .int
  | 1 => .int
  | 2 => .array .int
  | 3 => .int
  | 4 => .array .int
  | _ => .int
theorem nmX1 : ∀ a, a < 6 → ∀ b, b < 6 → a ≠ b → (TX1 a).2.1 ≠ (TX1 b).2.1 := by decide +kernel
theorem tyX1_ok : ∀ k, k < 6 → parseFieldDescriptor (TX1 k).2.2.1 = some (tyX1 k) := by decide +kernel
abbrev cX1_init : ByteArray := prog_3_method_1_code
def yX1_init : MethodName := ⟨RX1, "<init>", "([II)V"⟩
abbrev cX1_next : ByteArray := prog_3_method_2_code
def yX1_next : MethodName := ⟨RX1, "next", "()I"⟩
abbrev cX1_findFault : ByteArray := prog_3_method_3_code
def yX1_findFault : MethodName := ⟨RX1, "findFault", "()V"⟩
abbrev cX1_take : ByteArray := prog_3_method_4_code
def yX1_take : MethodName := ⟨RX1, "take", "(I)V"⟩
abbrev cX1_write : ByteArray := prog_3_method_5_code
def yX1_write : MethodName := ⟨RX1, "write", "(I)V"⟩
abbrev cX1_readSum : ByteArray := prog_3_method_6_code
def yX1_readSum : MethodName := ⟨RX1, "readSum", "(I)V"⟩
abbrev cX1_readProduct : ByteArray := prog_3_method_7_code
def yX1_readProduct : MethodName := ⟨RX1, "readProduct", "(I)V"⟩
abbrev cX1_readAtom : ByteArray := prog_3_method_8_code
def yX1_readAtom : MethodName := ⟨RX1, "readAtom", "(I)V"⟩
abbrev cX1_readBracket : ByteArray := prog_3_method_9_code
def yX1_readBracket : MethodName := ⟨RX1, "readBracket", "(II)V"⟩
abbrev cX1_readNumber : ByteArray := prog_3_method_10_code
def yX1_readNumber : MethodName := ⟨RX1, "readNumber", "()V"⟩
abbrev cX1_value : ByteArray := prog_3_method_11_code
def yX1_value : MethodName := ⟨RX1, "value", "(IIIII)I"⟩
abbrev cX1_isMark : ByteArray := prog_3_method_12_code
def yX1_isMark : MethodName := ⟨RX1, "isMark", "(I)Z"⟩
abbrev cX1_joined : ByteArray := prog_3_method_13_code
def yX1_joined : MethodName := ⟨RX1, "joined", "(III)I"⟩
abbrev cX1_single : ByteArray := prog_3_method_14_code
def yX1_single : MethodName := ⟨RX1, "single", "(IIIIII)I"⟩
def RX2 : String := "ElevenOne$PressTurn"
def TX2 : u_T := fun k => match k with
  | 0 => ("ElevenOne$Turn", "number", "I", true)
  | 1 => ("ElevenOne$Turn", "kind", "I", true)
  | 2 => ("ElevenOne$Turn", "heeds", "I", true)
  | 3 => ("ElevenOne$Turn", "minutes", "I", true)
  | 4 => ("ElevenOne$Turn", "line", "I", true)
  | 5 => ("ElevenOne$Turn", "patience", "I", true)
  | 6 => ("ElevenOne$Turn", "lawNumber", "I", true)
  | _ => ("ElevenOne$Turn", "law", "LElevenOne$Law;", true)
def tyX2 : Nat → FieldType := fun k => match k with
  | 0 => .int
  | 1 => .int
  | 2 => .int
  | 3 => .int
  | 4 => .int
  | 5 => .int
  | 6 => .int
  | _ => .object "ElevenOne$Law"
theorem nmX2 : ∀ a, a < 8 → ∀ b, b < 8 → a ≠ b → (TX2 a).2.1 ≠ (TX2 b).2.1 := by decide +kernel
theorem tyX2_ok : ∀ k, k < 8 → parseFieldDescriptor (TX2 k).2.2.1 = some (tyX2 k) := by decide +kernel
abbrev cX2_init : ByteArray := prog_4_method_1_code
def yX2_init : MethodName := ⟨RX2, "<init>", "(IIIIILElevenOne$Law;)V"⟩
abbrev cX2_act : ByteArray := prog_4_method_2_code
def yX2_act : MethodName := ⟨RX2, "act", "(LElevenOne$Room;I)V"⟩
abbrev cX2_loudness : ByteArray := prog_4_method_3_code
def yX2_loudness : MethodName := ⟨RX2, "loudness", "(I)I"⟩
abbrev cX2_fail : ByteArray := prog_4_method_4_code
def yX2_fail : MethodName := ⟨RX2, "fail", "()V"⟩
def RX3 : String := "ElevenOne$Room"
def TX3 : u_T := fun k => match k with
  | 0 => ("ElevenOne$Room", "things", "I", false)
  | 1 => ("ElevenOne$Room", "speaks", "[I", true)
  | 2 => ("ElevenOne$Room", "jurors", "I", false)
  | 3 => ("ElevenOne$Room", "turns", "[LElevenOne$Turn;", true)
  | 4 => ("ElevenOne$Room", "told", "[I", true)
  | 5 => ("ElevenOne$Room", "laws", "I", false)
  | 6 => ("ElevenOne$Room", "lawsTold", "[LElevenOne$Law;", true)
  | 7 => ("ElevenOne$Room", "rule", "[I", true)
  | 8 => ("ElevenOne$Room", "begun", "Z", false)
  | 9 => ("ElevenOne$Room", "leader", "I", false)
  | 10 => ("ElevenOne$Room", "minute", "I", false)
  | 11 => ("ElevenOne$Room", "turnsTaken", "I", false)
  | 12 => ("ElevenOne$Room", "slips", "I", false)
  | 13 => ("ElevenOne$Room", "firstSlips", "I", false)
  | 14 => ("ElevenOne$Room", "shared", "I", false)
  | 15 => ("ElevenOne$Room", "held", "[I", true)
  | 16 => ("ElevenOne$Room", "weight", "[I", true)
  | 17 => ("ElevenOne$Room", "pushed", "[I", true)
  | _ => ("ElevenOne$Room", "gaveInTo", "[I", true)
def tyX3 : Nat → FieldType := fun k => match k with
  | 0 => .int
  | 1 => .array .int
  | 2 => .int
  | 3 => .array (.object "ElevenOne$Turn")
  | 4 => .array .int
  | 5 => .int
  | 6 => .array (.object "ElevenOne$Law")
  | 7 => .array .int
  | 8 => .boolean
  | 9 => .int
  | 10 => .int
  | 11 => .int
  | 12 => .int
  | 13 => .int
  | 14 => .int
  | 15 => .array .int
  | 16 => .array .int
  | 17 => .array .int
  | _ => .array .int
theorem nmX3 : ∀ a, a < 19 → ∀ b, b < 19 → a ≠ b → (TX3 a).2.1 ≠ (TX3 b).2.1 := by decide +kernel
theorem tyX3_ok : ∀ k, k < 19 → parseFieldDescriptor (TX3 k).2.2.1 = some (tyX3 k) := by decide +kernel
abbrev cX3_init : ByteArray := prog_5_method_1_code
def yX3_init : MethodName := ⟨RX3, "<init>", "()V"⟩
abbrev cX3_isSeat : ByteArray := prog_5_method_2_code
def yX3_isSeat : MethodName := ⟨RX3, "isSeat", "(I)Z"⟩
abbrev cX3_turnAt : ByteArray := prog_5_method_3_code
def yX3_turnAt : MethodName := ⟨RX3, "turnAt", "(I)LElevenOne$Turn;"⟩
abbrev cX3_lawAt : ByteArray := prog_5_method_4_code
def yX3_lawAt : MethodName := ⟨RX3, "lawAt", "(I)LElevenOne$Law;"⟩
abbrev cX3_addLaw : ByteArray := prog_5_method_5_code
def yX3_addLaw : MethodName := ⟨RX3, "addLaw", "(LElevenOne$Law;)I"⟩
abbrev cX3_sit : ByteArray := prog_5_method_6_code
def yX3_sit : MethodName := ⟨RX3, "sit", "(LElevenOne$Turn;I)V"⟩
abbrev cX3_needed : ByteArray := prog_5_method_7_code
def yX3_needed : MethodName := ⟨RX3, "needed", "()I"⟩
abbrev cX3_leaderSeat : ByteArray := prog_5_method_8_code
def yX3_leaderSeat : MethodName := ⟨RX3, "leaderSeat", "()I"⟩
abbrev cX3_yes : ByteArray := prog_5_method_9_code
def yX3_yes : MethodName := ⟨RX3, "yes", "()I"⟩
abbrev cX3_no : ByteArray := prog_5_method_10_code
def yX3_no : MethodName := ⟨RX3, "no", "()I"⟩
abbrev cX3_yesLessNo : ByteArray := prog_5_method_11_code
def yX3_yesLessNo : MethodName := ⟨RX3, "yesLessNo", "()I"⟩
abbrev cX3_isShared : ByteArray := prog_5_method_12_code
def yX3_isShared : MethodName := ⟨RX3, "isShared", "(I)Z"⟩
abbrev cX3_gaveIn : ByteArray := prog_5_method_13_code
def yX3_gaveIn : MethodName := ⟨RX3, "gaveIn", "(I)Z"⟩
abbrev cX3_weigh : ByteArray := prog_5_method_14_code
def yX3_weigh : MethodName := ⟨RX3, "weigh", "(I)I"⟩
abbrev cX3_toldToAll : ByteArray := prog_5_method_15_code
def yX3_toldToAll : MethodName := ⟨RX3, "toldToAll", "()I"⟩
abbrev cX3_leaning : ByteArray := prog_5_method_16_code
def yX3_leaning : MethodName := ⟨RX3, "leaning", "(III)I"⟩
abbrev cX3_standAsTold : ByteArray := prog_5_method_17_code
def yX3_standAsTold : MethodName := ⟨RX3, "standAsTold", "()V"⟩
abbrev cX3_beginTalk : ByteArray := prog_5_method_18_code
def yX3_beginTalk : MethodName := ⟨RX3, "beginTalk", "()V"⟩
abbrev cX3_seatFromLeader : ByteArray := prog_5_method_19_code
def yX3_seatFromLeader : MethodName := ⟨RX3, "seatFromLeader", "(I)I"⟩
abbrev cX3_ends : ByteArray := prog_5_method_20_code
def yX3_ends : MethodName := ⟨RX3, "ends", "()I"⟩
abbrev cX3_step : ByteArray := prog_5_method_21_code
def yX3_step : MethodName := ⟨RX3, "step", "()V"⟩
abbrev cX3_takeSlips : ByteArray := prog_5_method_22_code
def yX3_takeSlips : MethodName := ⟨RX3, "takeSlips", "()V"⟩
abbrev cX3_runThrough : ByteArray := prog_5_method_23_code
def yX3_runThrough : MethodName := ⟨RX3, "runThrough", "()I"⟩
abbrev cX3_knewAtFirst : ByteArray := prog_5_method_24_code
def yX3_knewAtFirst : MethodName := ⟨RX3, "knewAtFirst", "()Z"⟩
abbrev cX3_loudestNotShared : ByteArray := prog_5_method_25_code
def yX3_loudestNotShared : MethodName := ⟨RX3, "loudestNotShared", "(I)I"⟩
abbrev cX3_giveToAll : ByteArray := prog_5_method_26_code
def yX3_giveToAll : MethodName := ⟨RX3, "giveToAll", "(I)V"⟩
abbrev cX3_push : ByteArray := prog_5_method_27_code
def yX3_push : MethodName := ⟨RX3, "push", "(II)V"⟩
abbrev cX3_deal : ByteArray := prog_5_method_28_code
def yX3_deal : MethodName := ⟨RX3, "deal", "(II)I"⟩
abbrev cX3_seatFrom : ByteArray := prog_5_method_29_code
def yX3_seatFrom : MethodName := ⟨RX3, "seatFrom", "(LElevenOne$Room;I)V"⟩
abbrev cX3_becomeLike : ByteArray := prog_5_method_30_code
def yX3_becomeLike : MethodName := ⟨RX3, "becomeLike", "(LElevenOne$Room;)V"⟩
def RX4 : String := "ElevenOne$RuleTurn"
def TX4 : u_T := fun k => match k with
  | 0 => ("ElevenOne$Turn", "number", "I", true)
  | 1 => ("ElevenOne$Turn", "kind", "I", true)
  | 2 => ("ElevenOne$Turn", "heeds", "I", true)
  | 3 => ("ElevenOne$Turn", "minutes", "I", true)
  | 4 => ("ElevenOne$Turn", "line", "I", true)
  | 5 => ("ElevenOne$Turn", "patience", "I", true)
  | 6 => ("ElevenOne$Turn", "lawNumber", "I", true)
  | _ => ("ElevenOne$Turn", "law", "LElevenOne$Law;", true)
def tyX4 : Nat → FieldType := fun k => match k with
  | 0 => .int
  | 1 => .int
  | 2 => .int
  | 3 => .int
  | 4 => .int
  | 5 => .int
  | 6 => .int
  | _ => .object "ElevenOne$Law"
theorem nmX4 : ∀ a, a < 8 → ∀ b, b < 8 → a ≠ b → (TX4 a).2.1 ≠ (TX4 b).2.1 := by decide +kernel
theorem tyX4_ok : ∀ k, k < 8 → parseFieldDescriptor (TX4 k).2.2.1 = some (tyX4 k) := by decide +kernel
abbrev cX4_init : ByteArray := prog_6_method_1_code
def yX4_init : MethodName := ⟨RX4, "<init>", "(IIIIILElevenOne$Law;)V"⟩
abbrev cX4_act : ByteArray := prog_6_method_2_code
def yX4_act : MethodName := ⟨RX4, "act", "(LElevenOne$Room;I)V"⟩
abbrev cX4_loudness : ByteArray := prog_6_method_3_code
def yX4_loudness : MethodName := ⟨RX4, "loudness", "(I)I"⟩
def RX5 : String := "ElevenOne$Shelf"
def TX5 : u_T := fun k => match k with
  | 0 => ("ElevenOne$Shelf", "turn", "LElevenOne$Turn;", false)
  | 1 => ("ElevenOne$Shelf", "things", "I", false)
  | 2 => ("ElevenOne$Shelf", "sort", "I", false)
  | 3 => ("ElevenOne$Shelf", "size", "I", false)
  | _ => ("ElevenOne$Shelf", "elements", "[I", true)
def tyX5 : Nat → FieldType := fun k => match k with
  | 0 => .object "ElevenOne$Turn"
  | 1 => .int
  | 2 => .int
  | 3 => .int
  | _ => .array .int
theorem nmX5 : ∀ a, a < 5 → ∀ b, b < 5 → a ≠ b → (TX5 a).2.1 ≠ (TX5 b).2.1 := by decide +kernel
theorem tyX5_ok : ∀ k, k < 5 → parseFieldDescriptor (TX5 k).2.2.1 = some (tyX5 k) := by decide +kernel
abbrev cX5_init : ByteArray := prog_7_method_1_code
def yX5_init : MethodName := ⟨RX5, "<init>", "()V"⟩
abbrev cX5_isRow : ByteArray := prog_7_method_2_code
def yX5_isRow : MethodName := ⟨RX5, "isRow", "()Z"⟩
abbrev cX5_isEmpty : ByteArray := prog_7_method_3_code
def yX5_isEmpty : MethodName := ⟨RX5, "isEmpty", "()Z"⟩
abbrev cX5_hold : ByteArray := prog_7_method_4_code
def yX5_hold : MethodName := ⟨RX5, "hold", "(LElevenOne$Turn;I)V"⟩
abbrev cX5_holdRow : ByteArray := prog_7_method_5_code
def yX5_holdRow : MethodName := ⟨RX5, "holdRow", "(II)V"⟩
abbrev cX5_hasPlaces : ByteArray := prog_7_method_6_code
def yX5_hasPlaces : MethodName := ⟨RX5, "hasPlaces", "(II)Z"⟩
abbrev cX5_lowestBits : ByteArray := prog_7_method_7_code
def yX5_lowestBits : MethodName := ⟨RX5, "lowestBits", "(I)I"⟩
def RX6 : String := "ElevenOne$SilentTurn"
def TX6 : u_T := fun k => match k with
  | 0 => ("ElevenOne$Turn", "number", "I", true)
  | 1 => ("ElevenOne$Turn", "kind", "I", true)
  | 2 => ("ElevenOne$Turn", "heeds", "I", true)
  | 3 => ("ElevenOne$Turn", "minutes", "I", true)
  | 4 => ("ElevenOne$Turn", "line", "I", true)
  | 5 => ("ElevenOne$Turn", "patience", "I", true)
  | 6 => ("ElevenOne$Turn", "lawNumber", "I", true)
  | _ => ("ElevenOne$Turn", "law", "LElevenOne$Law;", true)
def tyX6 : Nat → FieldType := fun k => match k with
  | 0 => .int
  | 1 => .int
  | 2 => .int
  | 3 => .int
  | 4 => .int
  | 5 => .int
  | 6 => .int
  | _ => .object "ElevenOne$Law"
theorem nmX6 : ∀ a, a < 8 → ∀ b, b < 8 → a ≠ b → (TX6 a).2.1 ≠ (TX6 b).2.1 := by decide +kernel
theorem tyX6_ok : ∀ k, k < 8 → parseFieldDescriptor (TX6 k).2.2.1 = some (tyX6 k) := by decide +kernel
abbrev cX6_init : ByteArray := prog_8_method_1_code
def yX6_init : MethodName := ⟨RX6, "<init>", "(IIIIILElevenOne$Law;)V"⟩
abbrev cX6_loudness : ByteArray := prog_8_method_2_code
def yX6_loudness : MethodName := ⟨RX6, "loudness", "(I)I"⟩
abbrev cX6_fail : ByteArray := prog_8_method_3_code
def yX6_fail : MethodName := ⟨RX6, "fail", "()V"⟩
def RX7 : String := "ElevenOne$SleepingTurn"
def TX7 : u_T := fun k => match k with
  | 0 => ("ElevenOne$Turn", "number", "I", true)
  | 1 => ("ElevenOne$Turn", "kind", "I", true)
  | 2 => ("ElevenOne$Turn", "heeds", "I", true)
  | 3 => ("ElevenOne$Turn", "minutes", "I", true)
  | 4 => ("ElevenOne$Turn", "line", "I", true)
  | 5 => ("ElevenOne$Turn", "patience", "I", true)
  | 6 => ("ElevenOne$Turn", "lawNumber", "I", true)
  | _ => ("ElevenOne$Turn", "law", "LElevenOne$Law;", true)
def tyX7 : Nat → FieldType := fun k => match k with
  | 0 => .int
  | 1 => .int
  | 2 => .int
  | 3 => .int
  | 4 => .int
  | 5 => .int
  | 6 => .int
  | _ => .object "ElevenOne$Law"
theorem nmX7 : ∀ a, a < 8 → ∀ b, b < 8 → a ≠ b → (TX7 a).2.1 ≠ (TX7 b).2.1 := by decide +kernel
theorem tyX7_ok : ∀ k, k < 8 → parseFieldDescriptor (TX7 k).2.2.1 = some (tyX7 k) := by decide +kernel
abbrev cX7_init : ByteArray := prog_9_method_1_code
def yX7_init : MethodName := ⟨RX7, "<init>", "(IIIIILElevenOne$Law;)V"⟩
abbrev cX7_act : ByteArray := prog_9_method_2_code
def yX7_act : MethodName := ⟨RX7, "act", "(LElevenOne$Room;I)V"⟩
abbrev cX7_loudness : ByteArray := prog_9_method_3_code
def yX7_loudness : MethodName := ⟨RX7, "loudness", "(I)I"⟩
def RX8 : String := "ElevenOne$StoryTurn"
def TX8 : u_T := fun k => match k with
  | 0 => ("ElevenOne$Turn", "number", "I", true)
  | 1 => ("ElevenOne$Turn", "kind", "I", true)
  | 2 => ("ElevenOne$Turn", "heeds", "I", true)
  | 3 => ("ElevenOne$Turn", "minutes", "I", true)
  | 4 => ("ElevenOne$Turn", "line", "I", true)
  | 5 => ("ElevenOne$Turn", "patience", "I", true)
  | 6 => ("ElevenOne$Turn", "lawNumber", "I", true)
  | _ => ("ElevenOne$Turn", "law", "LElevenOne$Law;", true)
def tyX8 : Nat → FieldType := fun k => match k with
  | 0 => .int
  | 1 => .int
  | 2 => .int
  | 3 => .int
  | 4 => .int
  | 5 => .int
  | 6 => .int
  | _ => .object "ElevenOne$Law"
theorem nmX8 : ∀ a, a < 8 → ∀ b, b < 8 → a ≠ b → (TX8 a).2.1 ≠ (TX8 b).2.1 := by decide +kernel
theorem tyX8_ok : ∀ k, k < 8 → parseFieldDescriptor (TX8 k).2.2.1 = some (tyX8 k) := by decide +kernel
abbrev cX8_init : ByteArray := prog_10_method_1_code
def yX8_init : MethodName := ⟨RX8, "<init>", "(IIIIILElevenOne$Law;)V"⟩
abbrev cX8_act : ByteArray := prog_10_method_2_code
def yX8_act : MethodName := ⟨RX8, "act", "(LElevenOne$Room;I)V"⟩
abbrev cX8_loudness : ByteArray := prog_10_method_3_code
def yX8_loudness : MethodName := ⟨RX8, "loudness", "(I)I"⟩
abbrev cX8_fail : ByteArray := prog_10_method_4_code
def yX8_fail : MethodName := ⟨RX8, "fail", "()V"⟩
def RX9 : String := "ElevenOne$ThingTurn"
def TX9 : u_T := fun k => match k with
  | 0 => ("ElevenOne$Turn", "number", "I", true)
  | 1 => ("ElevenOne$Turn", "kind", "I", true)
  | 2 => ("ElevenOne$Turn", "heeds", "I", true)
  | 3 => ("ElevenOne$Turn", "minutes", "I", true)
  | 4 => ("ElevenOne$Turn", "line", "I", true)
  | 5 => ("ElevenOne$Turn", "patience", "I", true)
  | 6 => ("ElevenOne$Turn", "lawNumber", "I", true)
  | _ => ("ElevenOne$Turn", "law", "LElevenOne$Law;", true)
def tyX9 : Nat → FieldType := fun k => match k with
  | 0 => .int
  | 1 => .int
  | 2 => .int
  | 3 => .int
  | 4 => .int
  | 5 => .int
  | 6 => .int
  | _ => .object "ElevenOne$Law"
theorem nmX9 : ∀ a, a < 8 → ∀ b, b < 8 → a ≠ b → (TX9 a).2.1 ≠ (TX9 b).2.1 := by decide +kernel
theorem tyX9_ok : ∀ k, k < 8 → parseFieldDescriptor (TX9 k).2.2.1 = some (tyX9 k) := by decide +kernel
abbrev cX9_init : ByteArray := prog_11_method_1_code
def yX9_init : MethodName := ⟨RX9, "<init>", "(IIIIILElevenOne$Law;)V"⟩
abbrev cX9_act : ByteArray := prog_11_method_2_code
def yX9_act : MethodName := ⟨RX9, "act", "(LElevenOne$Room;I)V"⟩
abbrev cX9_loudness : ByteArray := prog_11_method_3_code
def yX9_loudness : MethodName := ⟨RX9, "loudness", "(I)I"⟩
def RX10 : String := "ElevenOne$Turn"
def TX10 : u_T := fun k => match k with
  | 0 => ("ElevenOne$Turn", "number", "I", true)
  | 1 => ("ElevenOne$Turn", "kind", "I", true)
  | 2 => ("ElevenOne$Turn", "heeds", "I", true)
  | 3 => ("ElevenOne$Turn", "minutes", "I", true)
  | 4 => ("ElevenOne$Turn", "line", "I", true)
  | 5 => ("ElevenOne$Turn", "patience", "I", true)
  | 6 => ("ElevenOne$Turn", "lawNumber", "I", true)
  | _ => ("ElevenOne$Turn", "law", "LElevenOne$Law;", true)
def tyX10 : Nat → FieldType := fun k => match k with
  | 0 => .int
  | 1 => .int
  | 2 => .int
  | 3 => .int
  | 4 => .int
  | 5 => .int
  | 6 => .int
  | _ => .object "ElevenOne$Law"
theorem nmX10 : ∀ a, a < 8 → ∀ b, b < 8 → a ≠ b → (TX10 a).2.1 ≠ (TX10 b).2.1 := by decide +kernel
theorem tyX10_ok : ∀ k, k < 8 → parseFieldDescriptor (TX10 k).2.2.1 = some (tyX10 k) := by decide +kernel
abbrev cX10_init : ByteArray := prog_12_method_1_code
def yX10_init : MethodName := ⟨RX10, "<init>", "(IIIIILElevenOne$Law;)V"⟩
abbrev cX10_act : ByteArray := prog_12_method_2_code
def yX10_act : MethodName := ⟨RX10, "act", "(LElevenOne$Room;I)V"⟩
abbrev cX10_loudness : ByteArray := prog_12_method_3_code
def yX10_loudness : MethodName := ⟨RX10, "loudness", "(I)I"⟩
abbrev cX10_fail : ByteArray := prog_12_method_4_code
def yX10_fail : MethodName := ⟨RX10, "fail", "()V"⟩
def RX11 : String := "ElevenOne"
def TX11 : u_T := fun k => match k with
  | 0 => ("ElevenOne", "now", "LElevenOne$Room;", true)
  | 1 => ("ElevenOne", "mind", "LElevenOne$Room;", true)
  | 2 => ("ElevenOne", "pictured", "LElevenOne$Room;", true)
  | 3 => ("ElevenOne", "isPictured", "Z", false)
  | _ => ("ElevenOne", "shelves", "[LElevenOne$Shelf;", true)
def tyX11 : Nat → FieldType := fun k => match k with
  | 0 => .object "ElevenOne$Room"
  | 1 => .object "ElevenOne$Room"
  | 2 => .object "ElevenOne$Room"
  | 3 => .boolean
  | _ => .array (.object "ElevenOne$Shelf")
theorem nmX11 : ∀ a, a < 5 → ∀ b, b < 5 → a ≠ b → (TX11 a).2.1 ≠ (TX11 b).2.1 := by decide +kernel
theorem tyX11_ok : ∀ k, k < 5 → parseFieldDescriptor (TX11 k).2.2.1 = some (tyX11 k) := by decide +kernel
abbrev cX11_init : ByteArray := prog_1_method_1_code
def yX11_init : MethodName := ⟨RX11, "<init>", "()V"⟩
abbrev cX11_thing : ByteArray := prog_1_method_2_code
def yX11_thing : MethodName := ⟨RX11, "thing", "(I)I"⟩
abbrev cX11_juror : ByteArray := prog_1_method_3_code
def yX11_juror : MethodName := ⟨RX11, "juror", "(IIII)I"⟩
abbrev cX11_holds : ByteArray := prog_1_method_4_code
def yX11_holds : MethodName := ⟨RX11, "holds", "(II)I"⟩
abbrev cX11_of : ByteArray := prog_1_method_5_code
def yX11_of : MethodName := ⟨RX11, "of", "(II)I"⟩
abbrev cX11_leans : ByteArray := prog_1_method_6_code
def yX11_leans : MethodName := ⟨RX11, "leans", "(I)I"⟩
abbrev cX11_law : ByteArray := prog_1_method_7_code
def yX11_law : MethodName := ⟨RX11, "law", "(I)I"⟩
abbrev cX11_set : ByteArray := prog_1_method_8_code
def yX11_set : MethodName := ⟨RX11, "set", "(II)I"⟩
abbrev cX11_begin : ByteArray := prog_1_method_9_code
def yX11_begin : MethodName := ⟨RX11, "begin", "()I"⟩
abbrev cX11_go : ByteArray := prog_1_method_10_code
def yX11_go : MethodName := ⟨RX11, "go", "(I)I"⟩
abbrev cX11_talk : ByteArray := prog_1_method_11_code
def yX11_talk : MethodName := ⟨RX11, "talk", "(I)I"⟩
abbrev cX11_run : ByteArray := prog_1_method_12_code
def yX11_run : MethodName := ⟨RX11, "run", "(I)I"⟩
abbrev cX11_slips : ByteArray := prog_1_method_13_code
def yX11_slips : MethodName := ⟨RX11, "slips", "(Z)I"⟩
abbrev cX11_moved : ByteArray := prog_1_method_14_code
def yX11_moved : MethodName := ⟨RX11, "moved", "(II)I"⟩
abbrev cX11_out : ByteArray := prog_1_method_15_code
def yX11_out : MethodName := ⟨RX11, "out", "(I)I"⟩
abbrev cX11_one : ByteArray := prog_1_method_16_code
def yX11_one : MethodName := ⟨RX11, "one", "()I"⟩
abbrev cX11_six : ByteArray := prog_1_method_17_code
def yX11_six : MethodName := ⟨RX11, "six", "(II)I"⟩
abbrev cX11_lost : ByteArray := prog_1_method_18_code
def yX11_lost : MethodName := ⟨RX11, "lost", "(I)I"⟩
abbrev cX11_leads : ByteArray := prog_1_method_19_code
def yX11_leads : MethodName := ⟨RX11, "leads", "(I)I"⟩
abbrev cX11_hands : ByteArray := prog_1_method_20_code
def yX11_hands : MethodName := ⟨RX11, "hands", "()I"⟩
abbrev cX11_leftOut : ByteArray := prog_1_method_21_code
def yX11_leftOut : MethodName := ⟨RX11, "leftOut", "(I)I"⟩
abbrev cX11_worlds : ByteArray := prog_1_method_22_code
def yX11_worlds : MethodName := ⟨RX11, "worlds", "(IIII)I"⟩
abbrev cX11_image : ByteArray := prog_1_method_23_code
def yX11_image : MethodName := ⟨RX11, "image", "()I"⟩
abbrev cX11_restore : ByteArray := prog_1_method_24_code
def yX11_restore : MethodName := ⟨RX11, "restore", "()I"⟩
abbrev cX11_count : ByteArray := prog_1_method_25_code
def yX11_count : MethodName := ⟨RX11, "count", "(I)I"⟩
abbrev cX11_keep : ByteArray := prog_1_method_26_code
def yX11_keep : MethodName := ⟨RX11, "keep", "(III)I"⟩
abbrev cX11_row : ByteArray := prog_1_method_27_code
def yX11_row : MethodName := ⟨RX11, "row", "(III)I"⟩
abbrev cX11_put : ByteArray := prog_1_method_28_code
def yX11_put : MethodName := ⟨RX11, "put", "(III)I"⟩
abbrev cX11_element : ByteArray := prog_1_method_29_code
def yX11_element : MethodName := ⟨RX11, "element", "(II)J"⟩
abbrev cX11_copy : ByteArray := prog_1_method_30_code
def yX11_copy : MethodName := ⟨RX11, "copy", "(IIIII)I"⟩
abbrev cX11_voice : ByteArray := prog_1_method_31_code
def yX11_voice : MethodName := ⟨RX11, "voice", "(I)I"⟩
abbrev cX11_toss : ByteArray := prog_1_method_32_code
def yX11_toss : MethodName := ⟨RX11, "toss", "(I)I"⟩
abbrev cX11_at : ByteArray := prog_1_method_33_code
def yX11_at : MethodName := ⟨RX11, "at", "([II)I"⟩
abbrev cX11_store : ByteArray := prog_1_method_34_code
def yX11_store : MethodName := ⟨RX11, "store", "([III)V"⟩
abbrev cX11_copyAll : ByteArray := prog_1_method_35_code
def yX11_copyAll : MethodName := ⟨RX11, "copyAll", "([I[I)V"⟩
abbrev cX11_isEnd : ByteArray := prog_1_method_36_code
def yX11_isEnd : MethodName := ⟨RX11, "isEnd", "(I)Z"⟩
abbrev cX11_isToldRight : ByteArray := prog_1_method_37_code
def yX11_isToldRight : MethodName := ⟨RX11, "isToldRight", "(I)Z"⟩
abbrev cX11_shelfAt : ByteArray := prog_1_method_38_code
def yX11_shelfAt : MethodName := ⟨RX11, "shelfAt", "(I)LElevenOne$Shelf;"⟩
abbrev cX11_newTurn : ByteArray := prog_1_method_39_code
def yX11_newTurn : MethodName := ⟨RX11, "newTurn", "(IIIII)LElevenOne$Turn;"⟩
abbrev cX11_runInMind : ByteArray := prog_1_method_40_code
def yX11_runInMind : MethodName := ⟨RX11, "runInMind", "()V"⟩
abbrev cX11_endWithRule : ByteArray := prog_1_method_41_code
def yX11_endWithRule : MethodName := ⟨RX11, "endWithRule", "(II)I"⟩
abbrev cX11_endWithout : ByteArray := prog_1_method_42_code
def yX11_endWithout : MethodName := ⟨RX11, "endWithout", "(II)I"⟩
def RX12 : String := "ElevenOneModel"
def TX12 : u_T := fun k => match k with
  | 0 => ("ElevenOneModel", "s", "[I", true)
  | 1 => ("ElevenOneModel", "image", "[I", true)
  | 2 => ("ElevenOneModel", "law", "[I", true)
  | 3 => ("ElevenOneModel", "imageLaw", "[I", true)
  | 4 => ("ElevenOneModel", "talk", "[I", true)
  | 5 => ("ElevenOneModel", "mind", "[I", true)
  | 6 => ("ElevenOneModel", "imageTalk", "[I", true)
  | 7 => ("ElevenOneModel", "kept", "[I", true)
  | 8 => ("ElevenOneModel", "sort", "[I", true)
  | 9 => ("ElevenOneModel", "size", "[I", true)
  | 10 => ("ElevenOneModel", "element", "[I", true)
  | 11 => ("ElevenOneModel", "keptVoice", "[I", true)
  | 12 => ("ElevenOneModel", "keptToss", "[I", true)
  | 13 => ("ElevenOneModel", "hasImage", "Z", false)
  | 14 => ("ElevenOneModel", "thrown", "I", false)
  | 15 => ("ElevenOneModel", "text", "[I", false)
  | 16 => ("ElevenOneModel", "pos", "I", false)
  | 17 => ("ElevenOneModel", "base", "I", false)
  | 18 => ("ElevenOneModel", "end", "I", false)
  | 19 => ("ElevenOneModel", "deep", "I", false)
  | 20 => ("ElevenOneModel", "number", "I", false)
  | 21 => ("ElevenOneModel", "spoken", "I", false)
  | 22 => ("ElevenOneModel", "pushed", "I", false)
  | 23 => ("ElevenOneModel", "ayes", "I", false)
  | 24 => ("ElevenOneModel", "noes", "I", false)
  | 25 => ("ElevenOneModel", "minute", "I", false)
  | 26 => ("ElevenOneModel", "firstYes", "I", false)
  | 27 => ("ElevenOneModel", "firstSlips", "I", false)
  | 28 => ("ElevenOneModel", "firstPushed", "[I", true)
  | _ => ("ElevenOneModel", "outAt", "[I", true)
def tyX12 : Nat → FieldType := fun k => match k with
  | 0 => .array .int
  | 1 => .array .int
  | 2 => .array .int
  | 3 => .array .int
  | 4 => .array .int
  | 5 => .array .int
  | 6 => .array .int
  | 7 => .array .int
  | 8 => .array .int
  | 9 => .array .int
  | 10 => .array .int
  | 11 => .array .int
  | 12 => .array .int
  | 13 => .boolean
  | 14 => .int
  | 15 => .array .int
  | 16 => .int
  | 17 => .int
  | 18 => .int
  | 19 => .int
  | 20 => .int
  | 21 => .int
  | 22 => .int
  | 23 => .int
  | 24 => .int
  | 25 => .int
  | 26 => .int
  | 27 => .int
  | 28 => .array .int
  | _ => .array .int
theorem nmX12 : ∀ a, a < 30 → ∀ b, b < 30 → a ≠ b → (TX12 a).2.1 ≠ (TX12 b).2.1 := by decide +kernel
theorem tyX12_ok : ∀ k, k < 30 → parseFieldDescriptor (TX12 k).2.2.1 = some (tyX12 k) := by decide +kernel
abbrev cX12_init : ByteArray := prog_14_method_1_code
def yX12_init : MethodName := ⟨RX12, "<init>", "()V"⟩
abbrev cX12_thrown : ByteArray := prog_14_method_2_code
def yX12_thrown : MethodName := ⟨RX12, "thrown", "()I"⟩
abbrev cX12_isIn : ByteArray := prog_14_method_3_code
def yX12_isIn : MethodName := ⟨RX12, "isIn", "(JJJ)Z"⟩
abbrev cX12_isJuror : ByteArray := prog_14_method_4_code
def yX12_isJuror : MethodName := ⟨RX12, "isJuror", "(I)Z"⟩
abbrev cX12_isShelf : ByteArray := prog_14_method_5_code
def yX12_isShelf : MethodName := ⟨RX12, "isShelf", "(I)Z"⟩
abbrev cX12_get : ByteArray := prog_14_method_6_code
def yX12_get : MethodName := ⟨RX12, "get", "(II)I"⟩
abbrev cX12_becomes : ByteArray := prog_14_method_7_code
def yX12_becomes : MethodName := ⟨RX12, "becomes", "(II)I"⟩
abbrev cX12_bits : ByteArray := prog_14_method_8_code
def yX12_bits : MethodName := ⟨RX12, "bits", "(I)I"⟩
abbrev cX12_thing : ByteArray := prog_14_method_9_code
def yX12_thing : MethodName := ⟨RX12, "thing", "(I)I"⟩
abbrev cX12_juror : ByteArray := prog_14_method_10_code
def yX12_juror : MethodName := ⟨RX12, "juror", "(IIII)I"⟩
abbrev cX12_isSet : ByteArray := prog_14_method_11_code
def yX12_isSet : MethodName := ⟨RX12, "isSet", "(I)Z"⟩
abbrev cX12_holds : ByteArray := prog_14_method_12_code
def yX12_holds : MethodName := ⟨RX12, "holds", "(II)I"⟩
abbrev cX12_hasBegun : ByteArray := prog_14_method_13_code
def yX12_hasBegun : MethodName := ⟨RX12, "hasBegun", "()Z"⟩
abbrev cX12_of : ByteArray := prog_14_method_14_code
def yX12_of : MethodName := ⟨RX12, "of", "(II)I"⟩
abbrev cX12_sign : ByteArray := prog_14_method_15_code
def yX12_sign : MethodName := ⟨RX12, "sign", "()I"⟩
abbrev cX12_takes : ByteArray := prog_14_method_16_code
def yX12_takes : MethodName := ⟨RX12, "takes", "(I)Z"⟩
abbrev cX12_readsNumber : ByteArray := prog_14_method_17_code
def yX12_readsNumber : MethodName := ⟨RX12, "readsNumber", "()Z"⟩
abbrev cX12_readsSum : ByteArray := prog_14_method_18_code
def yX12_readsSum : MethodName := ⟨RX12, "readsSum", "()Z"⟩
abbrev cX12_readsProduct : ByteArray := prog_14_method_19_code
def yX12_readsProduct : MethodName := ⟨RX12, "readsProduct", "()Z"⟩
abbrev cX12_isField : ByteArray := prog_14_method_20_code
def yX12_isField : MethodName := ⟨RX12, "isField", "(I)Z"⟩
abbrev cX12_readsAtom : ByteArray := prog_14_method_21_code
def yX12_readsAtom : MethodName := ⟨RX12, "readsAtom", "()Z"⟩
abbrev cX12_wrongRow : ByteArray := prog_14_method_22_code
def yX12_wrongRow : MethodName := ⟨RX12, "wrongRow", "(II)I"⟩
abbrev cX12_law : ByteArray := prog_14_method_23_code
def yX12_law : MethodName := ⟨RX12, "law", "(I)I"⟩
abbrev cX12_sum : ByteArray := prog_14_method_24_code
def yX12_sum : MethodName := ⟨RX12, "sum", "()I"⟩
abbrev cX12_product : ByteArray := prog_14_method_25_code
def yX12_product : MethodName := ⟨RX12, "product", "()I"⟩
abbrev cX12_atom : ByteArray := prog_14_method_26_code
def yX12_atom : MethodName := ⟨RX12, "atom", "()I"⟩
abbrev cX12_speaksOf : ByteArray := prog_14_method_27_code
def yX12_speaksOf : MethodName := ⟨RX12, "speaksOf", "(I)I"⟩
abbrev cX12_leansBy : ByteArray := prog_14_method_28_code
def yX12_leansBy : MethodName := ⟨RX12, "leansBy", "(III)I"⟩
abbrev cX12_sees : ByteArray := prog_14_method_29_code
def yX12_sees : MethodName := ⟨RX12, "sees", "(III)V"⟩
abbrev cX12_leans : ByteArray := prog_14_method_30_code
def yX12_leans : MethodName := ⟨RX12, "leans", "(I)I"⟩
abbrev cX12_set : ByteArray := prog_14_method_31_code
def yX12_set : MethodName := ⟨RX12, "set", "(II)I"⟩
abbrev cX12_counts : ByteArray := prog_14_method_32_code
def yX12_counts : MethodName := ⟨RX12, "counts", "([I)V"⟩
abbrev cX12_leansIn : ByteArray := prog_14_method_33_code
def yX12_leansIn : MethodName := ⟨RX12, "leansIn", "([II)I"⟩
abbrev cX12_saysYes : ByteArray := prog_14_method_34_code
def yX12_saysYes : MethodName := ⟨RX12, "saysYes", "([II)Z"⟩
abbrev cX12_begins : ByteArray := prog_14_method_35_code
def yX12_begins : MethodName := ⟨RX12, "begins", "([IIZ)V"⟩
abbrev cX12_lesser : ByteArray := prog_14_method_36_code
def yX12_lesser : MethodName := ⟨RX12, "lesser", "(II)I"⟩
abbrev cX12_endOf : ByteArray := prog_14_method_37_code
def yX12_endOf : MethodName := ⟨RX12, "endOf", "([II)I"⟩
abbrev cX12_allHold : ByteArray := prog_14_method_38_code
def yX12_allHold : MethodName := ⟨RX12, "allHold", "([I)I"⟩
abbrev cX12_amount : ByteArray := prog_14_method_39_code
def yX12_amount : MethodName := ⟨RX12, "amount", "(I)I"⟩
abbrev cX12_tellsThing : ByteArray := prog_14_method_40_code
def yX12_tellsThing : MethodName := ⟨RX12, "tellsThing", "([II)V"⟩
abbrev cX12_tellsStory : ByteArray := prog_14_method_41_code
def yX12_tellsStory : MethodName := ⟨RX12, "tellsStory", "([II)V"⟩
abbrev cX12_presses : ByteArray := prog_14_method_42_code
def yX12_presses : MethodName := ⟨RX12, "presses", "([I)V"⟩
abbrev cX12_acts : ByteArray := prog_14_method_43_code
def yX12_acts : MethodName := ⟨RX12, "acts", "([II)V"⟩
abbrev cX12_turn : ByteArray := prog_14_method_44_code
def yX12_turn : MethodName := ⟨RX12, "turn", "([I)V"⟩
abbrev cX12_takesAll : ByteArray := prog_14_method_45_code
def yX12_takesAll : MethodName := ⟨RX12, "takesAll", "([I)V"⟩
abbrev cX12_leaderOf : ByteArray := prog_14_method_46_code
def yX12_leaderOf : MethodName := ⟨RX12, "leaderOf", "(I)I"⟩
abbrev cX12_neededNow : ByteArray := prog_14_method_47_code
def yX12_neededNow : MethodName := ⟨RX12, "neededNow", "()I"⟩
abbrev cX12_begin : ByteArray := prog_14_method_48_code
def yX12_begin : MethodName := ⟨RX12, "begin", "()I"⟩
abbrev cX12_go : ByteArray := prog_14_method_49_code
def yX12_go : MethodName := ⟨RX12, "go", "(I)I"⟩
abbrev cX12_talk : ByteArray := prog_14_method_50_code
def yX12_talk : MethodName := ⟨RX12, "talk", "(I)I"⟩
abbrev cX12_slipsOf : ByteArray := prog_14_method_51_code
def yX12_slipsOf : MethodName := ⟨RX12, "slipsOf", "([I)I"⟩
abbrev cX12_marks : ByteArray := prog_14_method_52_code
def yX12_marks : MethodName := ⟨RX12, "marks", "(I)V"⟩
abbrev cX12_runs : ByteArray := prog_14_method_53_code
def yX12_runs : MethodName := ⟨RX12, "runs", "(IIZ)I"⟩
abbrev cX12_runAll : ByteArray := prog_14_method_54_code
def yX12_runAll : MethodName := ⟨RX12, "runAll", "(I)I"⟩
abbrev cX12_runNow : ByteArray := prog_14_method_55_code
def yX12_runNow : MethodName := ⟨RX12, "runNow", "()I"⟩
abbrev cX12_run : ByteArray := prog_14_method_56_code
def yX12_run : MethodName := ⟨RX12, "run", "(I)I"⟩
abbrev cX12_slips : ByteArray := prog_14_method_57_code
def yX12_slips : MethodName := ⟨RX12, "slips", "(Z)I"⟩
abbrev cX12_moved : ByteArray := prog_14_method_58_code
def yX12_moved : MethodName := ⟨RX12, "moved", "(II)I"⟩
abbrev cX12_out : ByteArray := prog_14_method_59_code
def yX12_out : MethodName := ⟨RX12, "out", "(I)I"⟩
abbrev cX12_one : ByteArray := prog_14_method_60_code
def yX12_one : MethodName := ⟨RX12, "one", "()I"⟩
abbrev cX12_six : ByteArray := prog_14_method_61_code
def yX12_six : MethodName := ⟨RX12, "six", "(II)I"⟩
abbrev cX12_lost : ByteArray := prog_14_method_62_code
def yX12_lost : MethodName := ⟨RX12, "lost", "(I)I"⟩
abbrev cX12_leads : ByteArray := prog_14_method_63_code
def yX12_leads : MethodName := ⟨RX12, "leads", "(I)I"⟩
abbrev cX12_hands : ByteArray := prog_14_method_64_code
def yX12_hands : MethodName := ⟨RX12, "hands", "()I"⟩
abbrev cX12_runWithout : ByteArray := prog_14_method_65_code
def yX12_runWithout : MethodName := ⟨RX12, "runWithout", "(I)I"⟩
abbrev cX12_leftOut : ByteArray := prog_14_method_66_code
def yX12_leftOut : MethodName := ⟨RX12, "leftOut", "(I)I"⟩
abbrev cX12_worlds : ByteArray := prog_14_method_67_code
def yX12_worlds : MethodName := ⟨RX12, "worlds", "(IIII)I"⟩
abbrev cX12_image : ByteArray := prog_14_method_68_code
def yX12_image : MethodName := ⟨RX12, "image", "()I"⟩
abbrev cX12_restore : ByteArray := prog_14_method_69_code
def yX12_restore : MethodName := ⟨RX12, "restore", "()I"⟩
abbrev cX12_count : ByteArray := prog_14_method_70_code
def yX12_count : MethodName := ⟨RX12, "count", "(I)I"⟩
abbrev cX12_voiceOf : ByteArray := prog_14_method_71_code
def yX12_voiceOf : MethodName := ⟨RX12, "voiceOf", "(I)I"⟩
abbrev cX12_keep : ByteArray := prog_14_method_72_code
def yX12_keep : MethodName := ⟨RX12, "keep", "(III)I"⟩
abbrev cX12_row : ByteArray := prog_14_method_73_code
def yX12_row : MethodName := ⟨RX12, "row", "(III)I"⟩
abbrev cX12_put : ByteArray := prog_14_method_74_code
def yX12_put : MethodName := ⟨RX12, "put", "(III)I"⟩
abbrev cX12_element : ByteArray := prog_14_method_75_code
def yX12_element : MethodName := ⟨RX12, "element", "(II)J"⟩
abbrev cX12_copy : ByteArray := prog_14_method_76_code
def yX12_copy : MethodName := ⟨RX12, "copy", "(IIIII)I"⟩
abbrev cX12_wrongKept : ByteArray := prog_14_method_77_code
def yX12_wrongKept : MethodName := ⟨RX12, "wrongKept", "(I)I"⟩
abbrev cX12_voice : ByteArray := prog_14_method_78_code
def yX12_voice : MethodName := ⟨RX12, "voice", "(I)I"⟩
abbrev cX12_toss : ByteArray := prog_14_method_79_code
def yX12_toss : MethodName := ⟨RX12, "toss", "(I)I"⟩
def RJ6 : String := "java/lang/Integer"
abbrev cJ6_bitCount_0f7a4 : ByteArray := prog_18_method_49_code
def yJ6_bitCount_0f7a4 : MethodName := ⟨RJ6, "bitCount", "(I)I"⟩
def RJ9 : String := "java/lang/Math"
abbrev cJ9_abs_0f7a4 : ByteArray := prog_19_method_59_code
def yJ9_abs_0f7a4 : MethodName := ⟨RJ9, "abs", "(I)I"⟩
abbrev cJ9_max_7cf53 : ByteArray := prog_19_method_65_code
def yJ9_max_7cf53 : MethodName := ⟨RJ9, "max", "(II)I"⟩
abbrev cJ9_min_7cf53 : ByteArray := prog_19_method_69_code
def yJ9_min_7cf53 : MethodName := ⟨RJ9, "min", "(II)I"⟩
def RJ0 : String := "java/lang/String"
abbrev vwCl : List vw_C := [(RX0, TX0, 8), (RX1, TX1, 6), (RX2, TX2, 8), (RX3, TX3, 19), (RX4, TX4, 8), (RX5, TX5, 5), (RX6, TX6, 8), (RX7, TX7, 8), (RX8, TX8, 8), (RX9, TX9, 8), (RX10, TX10, 8), (RX11, TX11, 5), (RX12, TX12, 30)]
end
section
/-! The heap as numbers: each object and array has a number (in the order in which they are made); hI its ints, hR its references (numbers), hJ its longs; ad the addresses. -/
abbrev Hp : Type := Nat × (Nat → Nat) × (Nat → Nat) × (Nat → Nat → Int32) × (Nat → Nat → Option Nat) × (Nat → Nat → Int64)
def hN (σ : Hp) : Nat := σ.1
def hK (σ : Hp) : Nat → Nat := σ.2.1
def hL (σ : Hp) : Nat → Nat := σ.2.2.1
def hI (σ : Hp) : Nat → Nat → Int32 := σ.2.2.2.1
def hR (σ : Hp) : Nat → Nat → Option Nat := σ.2.2.2.2.1
def hJ (σ : Hp) : Nat → Nat → Int64 := σ.2.2.2.2.2
def up2 {α : Type} (f : Nat → Nat → α) (i j : Nat) (v : α) : Nat → Nat → α := fun a b => if a = i ∧ b = j then v else f a b
def up1 {α : Type} (f : Nat → α) (i : Nat) (v : α) : Nat → α := fun a => if a = i then v else f a
def pI (σ : Hp) (i j : Nat) (v : Int32) : Hp := (hN σ, hK σ, hL σ, up2 (hI σ) i j v, hR σ, hJ σ)
def pR (σ : Hp) (i j : Nat) (v : Option Nat) : Hp := (hN σ, hK σ, hL σ, hI σ, up2 (hR σ) i j v, hJ σ)
def pJ (σ : Hp) (i j : Nat) (v : Int64) : Hp := (hN σ, hK σ, hL σ, hI σ, hR σ, up2 (hJ σ) i j v)
def nw (σ : Hp) (k n : Nat) : Hp := (hN σ + 1, up1 (hK σ) (hN σ) k, up1 (hL σ) (hN σ) n, up1 (hI σ) (hN σ) (fun _ => 0), up1 (hR σ) (hN σ) (fun _ => none), up1 (hJ σ) (hN σ) (fun _ => 0))
/-- the pieces of the functions that a method is turned into -/
def lt {α ρ : Type} (a : α) (f : α → Option ρ) : Option ρ := f a
def ck {ρ : Type} (c : Prop) [Decidable c] (x : Option ρ) : Option ρ := if c then x else none
def b1 {α ρ : Type} (x : Option α) (f : α → Option ρ) : Option ρ := x.bind f
def b2 {α β ρ : Type} (x : Option (α × β)) (f : α → β → Option ρ) : Option ρ := x.bind fun w => f w.1 w.2
def om {ρ : Type} (x : Option Nat) (a : Option ρ) (f : Nat → Option ρ) : Option ρ := match x with
  | none => a
  | some i => f i
theorem lt_ex {α ρ : Type} {a : α} {f : α → Option ρ} {r : ρ} (h : lt a f = some r) : ∃ x, x = a ∧ f x = some r := ⟨a, rfl, h⟩
theorem ck_ex {ρ : Type} {c : Prop} [Decidable c] {x : Option ρ} {r : ρ} (h : ck c x = some r) : c ∧ x = some r := by
  unfold ck at h
  by_cases hc : c
  · rw [if_pos hc] at h; exact ⟨hc, h⟩
  · rw [if_neg hc] at h; cases h
theorem b1_ex {α ρ : Type} {x : Option α} {f : α → Option ρ} {r : ρ} (h : b1 x f = some r) : ∃ a, x = some a ∧ f a = some r := Option.bind_eq_some_iff.mp h
theorem b2_ex {α β ρ : Type} {x : Option (α × β)} {f : α → β → Option ρ} {r : ρ} (h : b2 x f = some r) : ∃ a b, x = some (a, b) ∧ f a b = some r := by
  obtain ⟨⟨a, b⟩, h1, h2⟩ := Option.bind_eq_some_iff.mp h
  exact ⟨a, b, h1, h2⟩
theorem it_t {ρ : Type} {c : Prop} [Decidable c] {a b : Option ρ} {r : ρ} (h : (if c then a else b) = some r) (k : c) : a = some r := by rw [if_pos k] at h; exact h
theorem it_f {ρ : Type} {c : Prop} [Decidable c] {a b : Option ρ} {r : ρ} (h : (if c then a else b) = some r) (k : ¬ c) : b = some r := by rw [if_neg k] at h; exact h
/-- which of a class's fields are references, and of what kind: 13 int[], 14 Law[], 15 Shelf[], 16 Turn[], 17 long[]; 100 any TURN -/
def fR (c : Nat) : List Bool := match c with
  | 1 => [true, false, true, false, true, false]
  | 3 => [false, true, false, true, true, false, true, true, false, false, false, false, false, false, false, true, true, true, true]
  | 5 => [true, false, false, false, true]
  | 11 => [true, true, true, false, true]
  | 12 => [true, true, true, true, true, true, true, true, true, true, true, true, true, false, false, true, false, false, false, false, false, false, false, false, false, false, false, false, true, true]
  | _ => [false, false, false, false, false, false, false, true]
def rT (c j : Nat) : Nat := match c with
  | 1 => 13
  | 3 => if j = 3 then 16 else if j = 6 then 14 else 13
  | 5 => if j = 0 then 100 else 13
  | 11 => if j = 4 then 15 else 3
  | 12 => 13
  | 14 => 1
  | 15 => 5
  | 16 => 100
  | _ => 1
def isT (t k : Nat) : Bool := match t with
  | 100 => k == 0 || k == 2 || k == 4 || k == 6 || k == 7 || k == 8 || k == 9 || k == 10
  | 101 => k == 0 || k == 2
  | 102 => k == 8 || k == 9
  | 103 => k == 6 || k == 7
  | _ => k == t
/-- a number names an object of that kind -/
def hT (σ : Hp) (i t : Nat) : Prop := i < hN σ ∧ isT t (hK σ i) = true
def oT (σ : Hp) (r : Option Nat) (t : Nat) : Prop := ∀ i, r = some i → hT σ i t
def wT (σ : Hp) : Prop := ∀ i, i < hN σ → ∀ j, oT σ (hR σ i j) (rT (hK σ i) j)
/-- nothing that there was has another kind or length -/
def xT (σ τ : Hp) : Prop := hN σ ≤ hN τ ∧ ∀ i, i < hN σ → hK τ i = hK σ i ∧ hL τ i = hL σ i
theorem xT.rf (σ : Hp) : xT σ σ := ⟨Nat.le_refl _, fun _ _ => ⟨rfl, rfl⟩⟩
theorem xT.trans {σ τ υ : Hp} (h : xT σ τ) (g : xT τ υ) : xT σ υ := ⟨Nat.le_trans h.1 g.1, fun i hi => ⟨(g.2 i (Nat.lt_of_lt_of_le hi h.1)).1.trans (h.2 i hi).1, (g.2 i (Nat.lt_of_lt_of_le hi h.1)).2.trans (h.2 i hi).2⟩⟩
theorem xT.T {σ τ : Hp} (h : xT σ τ) {i t : Nat} (g : hT σ i t) : hT τ i t := ⟨Nat.lt_of_lt_of_le g.1 h.1, by rw [(h.2 i g.1).1]; exact g.2⟩
theorem xT.O {σ τ : Hp} (h : xT σ τ) {r : Option Nat} {t : Nat} (g : oT σ r t) : oT τ r t := fun i hi => h.T (g i hi)
theorem xT.K {σ τ : Hp} (h : xT σ τ) {i k : Nat} (hi : i < hN σ) (g : hK σ i = k) : hK τ i = k := (h.2 i hi).1.trans g
theorem xT.I (σ : Hp) (i j : Nat) (v : Int32) : xT σ (pI σ i j v) := xT.rf σ
theorem xT.R (σ : Hp) (i j : Nat) (v : Option Nat) : xT σ (pR σ i j v) := xT.rf σ
theorem xT.J (σ : Hp) (i j : Nat) (v : Int64) : xT σ (pJ σ i j v) := xT.rf σ
theorem xT.N (σ : Hp) (k n : Nat) : xT σ (nw σ k n) := ⟨Nat.le_succ _, fun i hi => by
  have h : ¬ i = hN σ := by omega
  exact ⟨by show up1 _ _ _ i = _; rw [up1, if_neg h], by show up1 _ _ _ i = _; rw [up1, if_neg h]⟩⟩
theorem hT.eq {σ : Hp} {i t : Nat} (h : hT σ i t) (ht : t < 100) : hK σ i = t := by
  have h2 := h.2
  unfold isT at h2
  split at h2 <;> first | omega | exact eq_of_beq h2
theorem oT.none {σ : Hp} {t : Nat} : oT σ none t := fun i h => by cases h
theorem oT.some {σ : Hp} {i t : Nat} (h : hT σ i t) : oT σ (some i) t := fun j e => by cases e; exact h
/-! the cells -/
def fv (ad : Nat → Nat) (σ : Hp) (i j : Nat) (b : Bool) : Value := match b with
  | true => va_rf ((hR σ i j).map ad)
  | false => .int (hI σ i j)
def flds (ad : Nat → Nat) (σ : Hp) (i : Nat) : Nat → List Bool → List Value
  | _, [] => []
  | j, b :: bs => fv ad σ i j b :: flds ad σ i (j + 1) bs
def cellE (cA : Nat → ClassId) (ad : Nat → Nat) (σ : Hp) (i : Nat) : va_E :=
  if hK σ i < 13 then .inr (hK σ i, flds ad σ i 0 (fR (hK σ i)))
  else if hK σ i = 13 then .inl (cA 13, hL σ i, .inl (hI σ i))
  else if hK σ i = 17 then .inl (cA 17, hL σ i, .inr (.inl (hJ σ i)))
  else .inl (cA (hK σ i), hL σ i, .inr (.inr (.inr (.inr (fun j => (hR σ i j).map ad)))))
def tyl (cA : Nat → ClassId) : List (ClassId × FieldType) := [(cA 13, .int), (cA 14, .object "ElevenOne$Law"), (cA 15, .object "ElevenOne$Shelf"), (cA 16, .object "ElevenOne$Turn"), (cA 17, .long)]
def GW (D : va_G) (cA : Nat → ClassId) (base : Nat) (ad : Nat → Nat) (σ : Hp) (H : Heap) : Prop :=
  (∀ i, i < hN σ → va_at D vwCl (ad i, cellE cA ad σ i) H) ∧ (∀ i, i < hN σ → base ≤ ad i) ∧ (∀ i j, i < hN σ → j < hN σ → ad i = ad j → i = j) ∧ wT σ
def wl (cA : Nat → ClassId) (ad : Nat → Nat) (σ : Hp) : va_W := (List.range (hN σ)).map fun i => (ad i, cellE cA ad σ i)
theorem wl_at {cA : Nat → ClassId} {ad : Nat → Nat} {σ : Hp} {i : Nat} (h : i < hN σ) : (wl cA ad σ)[i]? = some (ad i, cellE cA ad σ i) := by
  unfold wl
  rw [List.getElem?_map, List.getElem?_range h]
  rfl
theorem wl_in {cA : Nat → ClassId} {ad : Nat → Nat} {σ : Hp} {k : Nat} {q : Nat × va_E} (h : (wl cA ad σ)[k]? = some q) : k < hN σ ∧ q = (ad k, cellE cA ad σ k) := by
  have h1 : k < (wl cA ad σ).length := (List.getElem?_eq_some_iff.mp h).1
  have h2 : k < hN σ := by unfold wl at h1; rw [List.length_map, List.length_range] at h1; exact h1
  exact ⟨h2, Option.some.inj (h.symm.trans (wl_at h2))⟩
theorem GW.P {D : va_G} {cA : Nat → ClassId} {base : Nat} {ad : Nat → Nat} {σ : Hp} {H : Heap} (h : GW D cA base ad σ H) : va_P D vwCl (wl cA ad σ) H := fun k q hq => by
  obtain ⟨h1, rfl⟩ := wl_in hq
  exact h.1 k h1
theorem GW.D {D : va_G} {cA : Nat → ClassId} {base : Nat} {ad : Nat → Nat} {σ : Hp} {H : Heap} (h : GW D cA base ad σ H) : va_D (fun q => base ≤ q) (wl cA ad σ) := by
  refine ⟨fun i j p q hp hq e => ?_, fun k q hq => ?_⟩
  · obtain ⟨h1, rfl⟩ := wl_in hp
    obtain ⟨h2, rfl⟩ := wl_in hq
    exact h.2.2.1 i j h1 h2 e
  · obtain ⟨h1, rfl⟩ := wl_in hq
    exact h.2.1 k h1
theorem GW.set {D : va_G} {cA : Nat → ClassId} {base : Nat} {ad : Nat → Nat} {σ τ : Hp} {H H1 : Heap} {i : Nat} {e : va_E} (h : GW D cA base ad σ H) (hi : i < hN σ) (hP : va_P D vwCl ((wl cA ad σ).set i (ad i, e)) H1) (hn : hN τ = hN σ) (he : cellE cA ad τ i = e) (ho : ∀ j, j ≠ i → cellE cA ad τ j = cellE cA ad σ j) (hw : wT τ) : GW D cA base ad τ H1 := by
  refine ⟨fun k hk => ?_, fun k hk => h.2.1 k (hn ▸ hk), fun a b ha hb e2 => h.2.2.1 a b (hn ▸ ha) (hn ▸ hb) e2, hw⟩
  have hk2 : k < hN σ := hn ▸ hk
  by_cases hki : k = i
  · subst hki
    have hl : k < (wl cA ad σ).length := (List.getElem?_eq_some_iff.mp (wl_at (cA := cA) (ad := ad) hk2)).1
    have h2 := hP k (ad k, e) (by rw [List.getElem?_set_self hl])
    rw [he]
    exact h2
  · have h2 := hP k (ad k, cellE cA ad σ k) (by rw [List.getElem?_set_ne (Ne.symm hki)]; exact wl_at hk2)
    rw [ho k hki]
    exact h2
theorem fv_other {ad : Nat → Nat} {σ τ : Hp} {i j : Nat} {b : Bool} (h1 : hI τ i j = hI σ i j) (h2 : hR τ i j = hR σ i j) : fv ad τ i j b = fv ad σ i j b := by
  cases b <;> simp [fv, h1, h2]
theorem flds_other {ad : Nat → Nat} {σ τ : Hp} {i : Nat} (bs : List Bool) : ∀ j0 : Nat, (∀ j, j0 ≤ j → hI τ i j = hI σ i j ∧ hR τ i j = hR σ i j) → flds ad τ i j0 bs = flds ad σ i j0 bs := by
  induction bs with
  | nil => intro _ _; rfl
  | cons b bs ih =>
    intro j0 h
    simp only [flds]
    rw [fv_other (h j0 (Nat.le_refl _)).1 (h j0 (Nat.le_refl _)).2, ih (j0 + 1) (fun j hj => h j (by omega))]
theorem cell_other {cA : Nat → ClassId} {ad : Nat → Nat} {σ τ : Hp} {i : Nat} (h1 : hI τ i = hI σ i) (h2 : hR τ i = hR σ i) (h3 : hJ τ i = hJ σ i) (h4 : hK τ i = hK σ i) (h5 : hL τ i = hL σ i) : cellE cA ad τ i = cellE cA ad σ i := by
  have h6 : ∀ bs, flds ad τ i 0 bs = flds ad σ i 0 bs := fun bs => flds_other bs 0 (fun j _ => ⟨by rw [h1], by rw [h2]⟩)
  unfold cellE
  rw [h4, h5, h1, h3, h2, h6]
theorem up2_ne {α : Type} {f : Nat → Nat → α} {i j a : Nat} {v : α} (h : a ≠ i) : up2 f i j v a = f a := by
  funext b
  simp [up2, h]
theorem up2_row {α : Type} {f : Nat → Nat → α} {i j : Nat} {v : α} : up2 f i j v i = fun b => if b = j then v else f i b := by
  funext b
  simp [up2]
theorem flds_setI {ad : Nat → Nat} {σ : Hp} {i : Nat} (x : Int32) (bs : List Bool) : ∀ (j0 k : Nat), bs[k]? = some false → flds ad (pI σ i (j0 + k) x) i j0 bs = (flds ad σ i j0 bs).set k (.int x) := by
  induction bs with
  | nil => intro j0 k h; simp at h
  | cons b bs ih =>
    intro j0 k h
    cases k with
    | zero =>
      have hb : b = false := by simpa using h
      subst hb
      simp only [flds, List.set_cons_zero]
      congr 1
      · simp [fv, pI, hI, up2]
      · refine flds_other bs (j0 + 1) fun j hj => ⟨?_, rfl⟩
        show up2 (hI σ) i (j0 + 0) x i j = _
        rw [up2, if_neg (by omega)]
    | succ k =>
      simp only [flds, List.set_cons_succ]
      congr 1
      · refine fv_other ?_ rfl
        show up2 (hI σ) i (j0 + (k + 1)) x i j0 = _
        rw [up2, if_neg (by omega)]
      · have h2 := ih (j0 + 1) k (by simpa using h)
        rw [show j0 + 1 + k = j0 + (k + 1) by omega] at h2
        exact h2
theorem flds_setR {ad : Nat → Nat} {σ : Hp} {i : Nat} (x : Option Nat) (bs : List Bool) : ∀ (j0 k : Nat), bs[k]? = some true → flds ad (pR σ i (j0 + k) x) i j0 bs = (flds ad σ i j0 bs).set k (va_rf (x.map ad)) := by
  induction bs with
  | nil => intro j0 k h; simp at h
  | cons b bs ih =>
    intro j0 k h
    cases k with
    | zero =>
      have hb : b = true := by simpa using h
      subst hb
      simp only [flds, List.set_cons_zero]
      congr 1
      · simp [fv, pR, hR, up2]
      · refine flds_other bs (j0 + 1) fun j hj => ⟨rfl, ?_⟩
        show up2 (hR σ) i (j0 + 0) x i j = _
        rw [up2, if_neg (by omega)]
    | succ k =>
      simp only [flds, List.set_cons_succ]
      congr 1
      · refine fv_other rfl ?_
        show up2 (hR σ) i (j0 + (k + 1)) x i j0 = _
        rw [up2, if_neg (by omega)]
      · have h2 := ih (j0 + 1) k (by simpa using h)
        rw [show j0 + 1 + k = j0 + (k + 1) by omega] at h2
        exact h2
theorem cell_obj {cA : Nat → ClassId} {ad : Nat → Nat} {σ : Hp} {i c : Nat} (h : hK σ i = c) (hc : c < 13) : cellE cA ad σ i = .inr (c, flds ad σ i 0 (fR c)) := by
  unfold cellE
  rw [h, if_pos hc]
theorem cell_13 {cA : Nat → ClassId} {ad : Nat → Nat} {σ : Hp} {i : Nat} (h : hK σ i = 13) : cellE cA ad σ i = .inl (cA 13, hL σ i, .inl (hI σ i)) := by
  simp only [cellE, h]
  rfl
theorem cell_17 {cA : Nat → ClassId} {ad : Nat → Nat} {σ : Hp} {i : Nat} (h : hK σ i = 17) : cellE cA ad σ i = .inl (cA 17, hL σ i, .inr (.inl (hJ σ i))) := by
  simp only [cellE, h]
  rfl
theorem cell_q {cA : Nat → ClassId} {ad : Nat → Nat} {σ : Hp} {i c : Nat} (h : hK σ i = c) (h1 : 13 < c) (h2 : c < 17) : cellE cA ad σ i = .inl (cA c, hL σ i, .inr (.inr (.inr (.inr (fun j => (hR σ i j).map ad))))) := by
  unfold cellE
  rw [h, if_neg (by omega), if_neg (by omega), if_neg (by omega)]
theorem wT.I {σ : Hp} (h : wT σ) (i j : Nat) (v : Int32) : wT (pI σ i j v) := h
theorem wT.J {σ : Hp} (h : wT σ) (i j : Nat) (v : Int64) : wT (pJ σ i j v) := h
theorem wT.R {σ : Hp} (h : wT σ) {i j : Nat} {v : Option Nat} (hv : oT σ v (rT (hK σ i) j)) : wT (pR σ i j v) := by
  intro a ha b k hk
  have hk2 : up2 (hR σ) i j v a b = some k := hk
  unfold up2 at hk2
  by_cases hc : a = i ∧ b = j
  · rw [if_pos hc] at hk2
    obtain ⟨rfl, rfl⟩ := hc
    exact hv k hk2
  · rw [if_neg hc] at hk2
    exact h a ha b k hk2
theorem GW_pI {D : va_G} {cA : Nat → ClassId} {base : Nat} {ad : Nat → Nat} {σ : Hp} {H H1 : Heap} {i j c : Nat} {x : Int32} (h : GW D cA base ad σ H) (hi : i < hN σ) (hk : hK σ i = c) (hc : c < 13) (hj : (fR c)[j]? = some false) (hP : va_P D vwCl ((wl cA ad σ).set i (ad i, .inr (c, (flds ad σ i 0 (fR c)).set j (.int x)))) H1) : GW D cA base ad (pI σ i j x) H1 := by
  refine h.set hi hP rfl ?_ (fun a ha => cell_other (up2_ne ha) rfl rfl rfl rfl) (h.2.2.2.I i j x)
  rw [cell_obj (σ := pI σ i j x) (show hK (pI σ i j x) i = c from hk) hc]
  have h2 := flds_setI (ad := ad) (σ := σ) (i := i) x (fR c) 0 j hj
  rw [Nat.zero_add] at h2
  rw [h2]
theorem GW_pR {D : va_G} {cA : Nat → ClassId} {base : Nat} {ad : Nat → Nat} {σ : Hp} {H H1 : Heap} {i j c : Nat} {x : Option Nat} (h : GW D cA base ad σ H) (hi : i < hN σ) (hk : hK σ i = c) (hc : c < 13) (hj : (fR c)[j]? = some true) (hx : oT σ x (rT c j)) (hP : va_P D vwCl ((wl cA ad σ).set i (ad i, .inr (c, (flds ad σ i 0 (fR c)).set j (va_rf (x.map ad))))) H1) : GW D cA base ad (pR σ i j x) H1 := by
  refine h.set hi hP rfl ?_ (fun a ha => cell_other rfl (up2_ne ha) rfl rfl rfl) (h.2.2.2.R (by rw [hk]; exact hx))
  rw [cell_obj (σ := pR σ i j x) (show hK (pR σ i j x) i = c from hk) hc]
  have h2 := flds_setR (ad := ad) (σ := σ) (i := i) x (fR c) 0 j hj
  rw [Nat.zero_add] at h2
  rw [h2]
theorem GW_pA {D : va_G} {cA : Nat → ClassId} {base : Nat} {ad : Nat → Nat} {σ : Hp} {H H1 : Heap} {i j : Nat} {x : Int32} (h : GW D cA base ad σ H) (hi : i < hN σ) (hk : hK σ i = 13) (hP : va_P D vwCl ((wl cA ad σ).set i (ad i, .inl (cA 13, hL σ i, .inl (upd (hI σ i) j x)))) H1) : GW D cA base ad (pI σ i j x) H1 := by
  refine h.set hi hP rfl ?_ (fun a ha => cell_other (up2_ne ha) rfl rfl rfl rfl) (h.2.2.2.I i j x)
  rw [cell_13 (σ := pI σ i j x) (show hK (pI σ i j x) i = 13 from hk)]
  have h2 : hI (pI σ i j x) i = upd (hI σ i) j x := by
    show up2 (hI σ) i j x i = _
    rw [up2_row]
    funext b
    simp [upd]
  rw [h2]
  rfl
theorem GW_pL {D : va_G} {cA : Nat → ClassId} {base : Nat} {ad : Nat → Nat} {σ : Hp} {H H1 : Heap} {i j : Nat} {x : Int64} (h : GW D cA base ad σ H) (hi : i < hN σ) (hk : hK σ i = 17) (hP : va_P D vwCl ((wl cA ad σ).set i (ad i, .inl (cA 17, hL σ i, .inr (.inl (vp_updL (hJ σ i) j x))))) H1) : GW D cA base ad (pJ σ i j x) H1 := by
  refine h.set hi hP rfl ?_ (fun a ha => cell_other rfl rfl (up2_ne ha) rfl rfl) (h.2.2.2.J i j x)
  rw [cell_17 (σ := pJ σ i j x) (show hK (pJ σ i j x) i = 17 from hk)]
  have h2 : hJ (pJ σ i j x) i = vp_updL (hJ σ i) j x := by
    show up2 (hJ σ) i j x i = _
    rw [up2_row]
    funext b
    simp [vp_updL]
  rw [h2]
  rfl
theorem GW_pQ {D : va_G} {cA : Nat → ClassId} {base : Nat} {ad : Nat → Nat} {σ : Hp} {H H1 : Heap} {i j c : Nat} {x : Option Nat} (h : GW D cA base ad σ H) (hi : i < hN σ) (hk : hK σ i = c) (h1 : 13 < c) (h2 : c < 17) (hx : oT σ x (rT c j)) (hP : va_P D vwCl ((wl cA ad σ).set i (ad i, .inl (cA c, hL σ i, .inr (.inr (.inr (.inr (va_up (fun j => (hR σ i j).map ad) j (x.map ad)))))))) H1) : GW D cA base ad (pR σ i j x) H1 := by
  refine h.set hi hP rfl ?_ (fun a ha => cell_other rfl (up2_ne ha) rfl rfl rfl) (h.2.2.2.R (by rw [hk]; exact hx))
  rw [cell_q (σ := pR σ i j x) (show hK (pR σ i j x) i = c from hk) h1 h2]
  have h3 : (fun b => (hR (pR σ i j x) i b).map ad) = va_up (fun j => (hR σ i j).map ad) j (x.map ad) := by
    funext b
    show (up2 (hR σ) i j x i b).map ad = _
    rw [up2_row]
    by_cases hb : b = j <;> simp [va_up, hb]
  rw [h3]
  rfl
end
section
/-! the tables' words that any method may use, in one list; those of nest mates and casts beside it -/
def TB : List Cond := lw_tbl.filter goodWord
theorem tb_i {w : Cond} (i : Nat) (h : tables_1[i]? = some w) (g : goodWord w = true) : w ∈ TB := List.mem_filter.mpr ⟨List.mem_append_right _ (List.mem_of_getElem? h), g⟩
theorem tb_s {w : Cond} (i : Nat) (h : (k2_sels lw_privs)[i]? = some w) (g : goodWord w = true) : w ∈ TB := List.mem_filter.mpr ⟨List.mem_append_left _ (List.mem_of_getElem? h), g⟩
theorem tb_good {w : Cond} (h : w ∈ TB) : (w.onTables && w.keeps) = true ∨ ∃ ty, w = .arrayClass ty := good_of_word (List.mem_filter.mp h).2
theorem tb_in {ws : List Cond} (h : ∀ w ∈ ws, w ∈ TB) : GoodIn TB ws := fun w hw => ⟨h w hw, tb_good (h w hw)⟩
theorem tb_0 : ∀ w ∈ TB, w ∈ TB := fun _ h => h
theorem tb_c {w : Cond} {ws : List Cond} (h : w ∈ TB) (g : ∀ w ∈ ws, w ∈ TB) : ∀ x ∈ w :: ws, x ∈ TB := fun x hx => by
  rcases List.mem_cons.mp hx with rfl | hx
  · exact h
  · exact g x hx
theorem tb_a {w1 w2 : List Cond} (h : ∀ w ∈ w1, w ∈ TB) (g : ∀ w ∈ w2, w ∈ TB) : ∀ w ∈ w1 ++ w2, w ∈ TB := fun x hx => by
  rcases List.mem_append.mp hx with hx | hx
  · exact h x hx
  · exact g x hx
theorem tb_n : ∀ w ∈ ([] : List Cond), w ∈ TB := fun w h => by cases h

def NXL : List Cond := [(Jvm.Cond.methodLinkNest "ElevenOne" (9 : Nat) ({ cls := "ElevenOne$Room", name := "<init>", desc := "()V" } : Jvm.MethodName) "ElevenOne"), (Jvm.Cond.fieldLinkNest "ElevenOne" (29 : Nat) "ElevenOne$Room" "things" "I" "ElevenOne"), (Jvm.Cond.fieldLinkNest "ElevenOne" (33 : Nat) "ElevenOne$Room" "speaks" "[I" "ElevenOne"), (Jvm.Cond.fieldLinkNest "ElevenOne$RuleTurn" (7 : Nat) "ElevenOne$Room" "jurors" "I" "ElevenOne"), (Jvm.Cond.fieldLinkNest "ElevenOne$CountTurn" (13 : Nat) "ElevenOne$Room" "jurors" "I" "ElevenOne"), (Jvm.Cond.fieldLinkNest "ElevenOne$PressTurn" (19 : Nat) "ElevenOne$Room" "jurors" "I" "ElevenOne"), (Jvm.Cond.fieldLinkNest "ElevenOne$StoryTurn" (24 : Nat) "ElevenOne$Room" "jurors" "I" "ElevenOne"), (Jvm.Cond.fieldLinkNest "ElevenOne" (48 : Nat) "ElevenOne$Room" "jurors" "I" "ElevenOne"), (Jvm.Cond.fieldLinkNest "ElevenOne" (69 : Nat) "ElevenOne$Room" "told" "[I" "ElevenOne"), (Jvm.Cond.fieldLinkNest "ElevenOne" (45 : Nat) "ElevenOne$Room" "laws" "I" "ElevenOne"), (Jvm.Cond.fieldLinkNest "ElevenOne" (159 : Nat) "ElevenOne$Room" "rule" "[I" "ElevenOne"), (Jvm.Cond.fieldLinkNest "ElevenOne" (59 : Nat) "ElevenOne$Room" "begun" "Z" "ElevenOne"), (Jvm.Cond.fieldLinkNest "ElevenOne$SleepingTurn" (9 : Nat) "ElevenOne$Room" "minute" "I" "ElevenOne"), (Jvm.Cond.fieldLinkNest "ElevenOne" (171 : Nat) "ElevenOne$Room" "minute" "I" "ElevenOne"), (Jvm.Cond.fieldLinkNest "ElevenOne" (174 : Nat) "ElevenOne$Room" "turnsTaken" "I" "ElevenOne"), (Jvm.Cond.fieldLinkNest "ElevenOne$StoryTurn" (20 : Nat) "ElevenOne$Room" "slips" "I" "ElevenOne"), (Jvm.Cond.fieldLinkNest "ElevenOne$PressTurn" (27 : Nat) "ElevenOne$Room" "slips" "I" "ElevenOne"), (Jvm.Cond.fieldLinkNest "ElevenOne" (107 : Nat) "ElevenOne$Room" "slips" "I" "ElevenOne"), (Jvm.Cond.fieldLinkNest "ElevenOne" (183 : Nat) "ElevenOne$Room" "firstSlips" "I" "ElevenOne"), (Jvm.Cond.fieldLinkNest "ElevenOne" (177 : Nat) "ElevenOne$Room" "shared" "I" "ElevenOne"), (Jvm.Cond.fieldLinkNest "ElevenOne" (101 : Nat) "ElevenOne$Room" "held" "[I" "ElevenOne"), (Jvm.Cond.fieldLinkNest "ElevenOne" (192 : Nat) "ElevenOne$Room" "weight" "[I" "ElevenOne"), (Jvm.Cond.fieldLinkNest "ElevenOne$RuleTurn" (13 : Nat) "ElevenOne$Room" "pushed" "[I" "ElevenOne"), (Jvm.Cond.fieldLinkNest "ElevenOne" (104 : Nat) "ElevenOne$Room" "pushed" "[I" "ElevenOne"), (Jvm.Cond.fieldLinkNest "ElevenOne$SleepingTurn" (24 : Nat) "ElevenOne$Room" "gaveInTo" "[I" "ElevenOne"), (Jvm.Cond.methodLinkNest "ElevenOne" (28 : Nat) ({ cls := "ElevenOne$Shelf", name := "<init>", desc := "()V" } : Jvm.MethodName) "ElevenOne"), (Jvm.Cond.fieldLinkNest "ElevenOne" (263 : Nat) "ElevenOne$Shelf" "turn" "LElevenOne$Turn;" "ElevenOne"), (Jvm.Cond.fieldLinkNest "ElevenOne" (267 : Nat) "ElevenOne$Shelf" "things" "I" "ElevenOne"), (Jvm.Cond.fieldLinkNest "ElevenOne" (132 : Nat) "ElevenOne$Shelf" "sort" "I" "ElevenOne"), (Jvm.Cond.fieldLinkNest "ElevenOne" (140 : Nat) "ElevenOne$Shelf" "size" "I" "ElevenOne"), (Jvm.Cond.fieldLinkNest "ElevenOne" (137 : Nat) "ElevenOne$Shelf" "elements" "[I" "ElevenOne"), (Jvm.Cond.methodLinkNest "ElevenOne$Room" (56 : Nat) ({ cls := "ElevenOne", name := "store", desc := "([III)V" } : Jvm.MethodName) "ElevenOne"), (Jvm.Cond.methodLinkNest "ElevenOne$Room" (60 : Nat) ({ cls := "ElevenOne", name := "at", desc := "([II)I" } : Jvm.MethodName) "ElevenOne"), (Jvm.Cond.methodLinkNest "ElevenOne$Law" (90 : Nat) ({ cls := "ElevenOne", name := "at", desc := "([II)I" } : Jvm.MethodName) "ElevenOne"), (Jvm.Cond.methodLinkNest "ElevenOne$Law" (32 : Nat) ({ cls := "ElevenOne", name := "copyAll", desc := "([I[I)V" } : Jvm.MethodName) "ElevenOne"), (Jvm.Cond.methodLinkNest "ElevenOne$Law" (55 : Nat) ({ cls := "ElevenOne", name := "store", desc := "([III)V" } : Jvm.MethodName) "ElevenOne"), (Jvm.Cond.fieldLinkNest "ElevenOne" (146 : Nat) "ElevenOne$Law" "fault" "I" "ElevenOne"), (Jvm.Cond.methodLinkNest "ElevenOne$RuleTurn" (17 : Nat) ({ cls := "ElevenOne", name := "at", desc := "([II)I" } : Jvm.MethodName) "ElevenOne"), (Jvm.Cond.methodLinkNest "ElevenOne$RuleTurn" (23 : Nat) ({ cls := "ElevenOne", name := "store", desc := "([III)V" } : Jvm.MethodName) "ElevenOne"), (Jvm.Cond.methodLinkNest "ElevenOne$SleepingTurn" (35 : Nat) ({ cls := "ElevenOne", name := "store", desc := "([III)V" } : Jvm.MethodName) "ElevenOne"), (Jvm.Cond.methodLinkNest "ElevenOne$Room" (176 : Nat) ({ cls := "ElevenOne", name := "copyAll", desc := "([I[I)V" } : Jvm.MethodName) "ElevenOne")]

def CXL : List Cond := [(Jvm.Cond.castable "ElevenOne$ThingTurn" "ElevenOne$Turn"), (Jvm.Cond.castable "ElevenOne$CountTurn" "ElevenOne$Turn"), (Jvm.Cond.castable "ElevenOne$PressTurn" "ElevenOne$Turn"), (Jvm.Cond.castable "ElevenOne$StoryTurn" "ElevenOne$Turn"), (Jvm.Cond.castable "ElevenOne$RuleTurn" "ElevenOne$Turn"), (Jvm.Cond.castable "ElevenOne$SilentTurn" "ElevenOne$Turn"), (Jvm.Cond.castable "ElevenOne$SleepingTurn" "ElevenOne$Turn")]

def nestW : Cond → Bool
  | .fieldLinkNest _ _ _ _ _ _ => true
  | .methodLinkNest _ _ _ _ => true
  | _ => false
theorem NXL_n : NXL.all nestW = true := by decide +kernel
theorem nest_moved {w : Cond} (h : nestW w = true) {s U : State} (hW : s.WarmedH U.vm) (hZ : va_Nw w s) : va_Nw w U := by
  cases w <;> first | exact va_Nw.warmF hW hZ | exact va_Nw.warmM hW hZ | (cases h)
def castW : Cond → Bool
  | .castable _ _ => true
  | _ => false
theorem CXL_n : CXL.all castW = true := by decide +kernel
theorem cast_moved {w : Cond} (h : castW w = true) {s U : State} (hW : s.WarmedH U.vm) (hZ : va_Nw w s) : va_Nw w U := by
  cases w <;> first | exact va_Nw.warmC hW hZ | (cases h)
def NX (s : State) : Prop := (∀ w ∈ NXL, va_Nw w s) ∧ (∀ w ∈ CXL, va_Nw w s) ∧ va_AO "ElevenOne$Turn" s ∧ va_AO "ElevenOne$Law" s ∧ va_AO "ElevenOne$Shelf" s
theorem NX.moved {s U : State} (hW : s.WarmedH U.vm) (h : NX s) : NX U :=
  ⟨fun w hw => nest_moved (List.all_eq_true.mp NXL_n w hw) hW (h.1 w hw), fun w hw => cast_moved (List.all_eq_true.mp CXL_n w hw) hW (h.2.1 w hw), va_AO.moved hW.alike h.2.2.1, va_AO.moved hW.alike h.2.2.2.1, va_AO.moved hW.alike h.2.2.2.2⟩
theorem nest_on {w : Cond} (h : nestW w = true) : w.onTables = true := by cases w <;> first | rfl | (cases h)
theorem cast_on {w : Cond} (h : castW w = true) : w.onTables = true := by cases w <;> first | rfl | (cases h)
theorem NX.same {s U : State} (hv : s.vm = U.vm) (h : NX s) : NX U := by
  refine ⟨fun w hw => va_Nw.same (nest_on (List.all_eq_true.mp NXL_n w hw)) hv (h.1 w hw), fun w hw => va_Nw.same (cast_on (List.all_eq_true.mp CXL_n w hw)) hv (h.2.1 w hw), va_AO.moved ?_ h.2.2.1, va_AO.moved ?_ h.2.2.2.1, va_AO.moved ?_ h.2.2.2.2⟩ <;> (rw [hv]; exact Vm.Alike.refl _)

theorem inX0 : ∀ w ∈ u_ws RX0 TX0 8, w ∈ TB := fun w h => by
  have h2 := (goodIn_of (big := tables_1) (u_ws RX0 TX0 8) (by decide +kernel)) w h
  exact List.mem_filter.mpr ⟨List.mem_append_right _ h2.1, List.all_eq_true.mp (show (u_ws RX0 TX0 8).all goodWord = true by decide +kernel) w h⟩
theorem inX1 : ∀ w ∈ u_ws RX1 TX1 6, w ∈ TB := fun w h => by
  have h2 := (goodIn_of (big := tables_1) (u_ws RX1 TX1 6) (by decide +kernel)) w h
  exact List.mem_filter.mpr ⟨List.mem_append_right _ h2.1, List.all_eq_true.mp (show (u_ws RX1 TX1 6).all goodWord = true by decide +kernel) w h⟩
theorem inX2 : ∀ w ∈ u_ws RX2 TX2 8, w ∈ TB := fun w h => by
  have h2 := (goodIn_of (big := tables_1) (u_ws RX2 TX2 8) (by decide +kernel)) w h
  exact List.mem_filter.mpr ⟨List.mem_append_right _ h2.1, List.all_eq_true.mp (show (u_ws RX2 TX2 8).all goodWord = true by decide +kernel) w h⟩
theorem inX3 : ∀ w ∈ u_ws RX3 TX3 19, w ∈ TB := fun w h => by
  have h2 := (goodIn_of (big := tables_1) (u_ws RX3 TX3 19) (by decide +kernel)) w h
  exact List.mem_filter.mpr ⟨List.mem_append_right _ h2.1, List.all_eq_true.mp (show (u_ws RX3 TX3 19).all goodWord = true by decide +kernel) w h⟩
theorem inX4 : ∀ w ∈ u_ws RX4 TX4 8, w ∈ TB := fun w h => by
  have h2 := (goodIn_of (big := tables_1) (u_ws RX4 TX4 8) (by decide +kernel)) w h
  exact List.mem_filter.mpr ⟨List.mem_append_right _ h2.1, List.all_eq_true.mp (show (u_ws RX4 TX4 8).all goodWord = true by decide +kernel) w h⟩
theorem inX5 : ∀ w ∈ u_ws RX5 TX5 5, w ∈ TB := fun w h => by
  have h2 := (goodIn_of (big := tables_1) (u_ws RX5 TX5 5) (by decide +kernel)) w h
  exact List.mem_filter.mpr ⟨List.mem_append_right _ h2.1, List.all_eq_true.mp (show (u_ws RX5 TX5 5).all goodWord = true by decide +kernel) w h⟩
theorem inX6 : ∀ w ∈ u_ws RX6 TX6 8, w ∈ TB := fun w h => by
  have h2 := (goodIn_of (big := tables_1) (u_ws RX6 TX6 8) (by decide +kernel)) w h
  exact List.mem_filter.mpr ⟨List.mem_append_right _ h2.1, List.all_eq_true.mp (show (u_ws RX6 TX6 8).all goodWord = true by decide +kernel) w h⟩
theorem inX7 : ∀ w ∈ u_ws RX7 TX7 8, w ∈ TB := fun w h => by
  have h2 := (goodIn_of (big := tables_1) (u_ws RX7 TX7 8) (by decide +kernel)) w h
  exact List.mem_filter.mpr ⟨List.mem_append_right _ h2.1, List.all_eq_true.mp (show (u_ws RX7 TX7 8).all goodWord = true by decide +kernel) w h⟩
theorem inX8 : ∀ w ∈ u_ws RX8 TX8 8, w ∈ TB := fun w h => by
  have h2 := (goodIn_of (big := tables_1) (u_ws RX8 TX8 8) (by decide +kernel)) w h
  exact List.mem_filter.mpr ⟨List.mem_append_right _ h2.1, List.all_eq_true.mp (show (u_ws RX8 TX8 8).all goodWord = true by decide +kernel) w h⟩
theorem inX9 : ∀ w ∈ u_ws RX9 TX9 8, w ∈ TB := fun w h => by
  have h2 := (goodIn_of (big := tables_1) (u_ws RX9 TX9 8) (by decide +kernel)) w h
  exact List.mem_filter.mpr ⟨List.mem_append_right _ h2.1, List.all_eq_true.mp (show (u_ws RX9 TX9 8).all goodWord = true by decide +kernel) w h⟩
theorem inX10 : ∀ w ∈ u_ws RX10 TX10 8, w ∈ TB := fun w h => by
  have h2 := (goodIn_of (big := tables_1) (u_ws RX10 TX10 8) (by decide +kernel)) w h
  exact List.mem_filter.mpr ⟨List.mem_append_right _ h2.1, List.all_eq_true.mp (show (u_ws RX10 TX10 8).all goodWord = true by decide +kernel) w h⟩
theorem inX11 : ∀ w ∈ u_ws RX11 TX11 5, w ∈ TB := fun w h => by
  have h2 := (goodIn_of (big := tables_1) (u_ws RX11 TX11 5) (by decide +kernel)) w h
  exact List.mem_filter.mpr ⟨List.mem_append_right _ h2.1, List.all_eq_true.mp (show (u_ws RX11 TX11 5).all goodWord = true by decide +kernel) w h⟩
theorem inX12 : ∀ w ∈ u_ws RX12 TX12 30, w ∈ TB := fun w h => by
  have h2 := (goodIn_of (big := tables_1) (u_ws RX12 TX12 30) (by decide +kernel)) w h
  exact List.mem_filter.mpr ⟨List.mem_append_right _ h2.1, List.all_eq_true.mp (show (u_ws RX12 TX12 30).all goodWord = true by decide +kernel) w h⟩
end
section
/-! what stands through a whole method; then the rows: each takes the function's head (hF) away with its instruction -/
def SX (D : va_G) (cA : Nat → ClassId) (base : Nat) (p : Program) (s : State) (m : MethodId) (args : Array Value) (meth : Method) (c : Code) (cc : ByteArray) (nL : Nat) (ret : Option FieldType) (own : String) : Prop :=
  p.tables.exec = Jvm.exec ∧ c.code = cc ∧ c.maxLocals = nL ∧ meth.sig.returnType = ret ∧ (∀ w ∈ TB, w.before args s = true) ∧ s.vm.findClass own = some m.cls ∧ meth.locks = false ∧ va_K D vwCl (tyl cA) s ∧ NX s ∧ base ≤ s.heap.size
abbrev bA (base : Nat) : Nat → Prop := fun q => base ≤ q
/-- the world of a state -/
def GS (D : va_G) (cA : Nat → ClassId) (base : Nat) (ad : Nat → Nat) (σ : Hp) (U : State) : Prop := GW D cA base ad σ U.heap ∧ va_K D vwCl (tyl cA) U ∧ NX U ∧ base ≤ U.heap.size
def MI (l : Launch) (y : MethodName) (b : ByteArray) (maxL : Nat) (ret : Option FieldType) (rm : Room) (D : va_G) (cA : Nat → ClassId) (base : Nat) (ad : Nat → Nat) (σ : Hp) (av : List Value) (r : Int32) (τ : Hp) : Prop :=
  Met l y (.code y b maxL ret :: TB) rm (va_Pc av (GS D cA base ad σ)) (va_Qi (fun v (_ : Unit) => v = r ∧ xT σ τ) (fun _ t => GS D cA base ad τ t) (bA base)) 0 0 (bA base)
def MV (l : Launch) (y : MethodName) (b : ByteArray) (maxL : Nat) (rm : Room) (D : va_G) (cA : Nat → ClassId) (base : Nat) (ad : Nat → Nat) (σ : Hp) (av : List Value) (τ : Hp) : Prop :=
  Met l y (.code y b maxL none :: TB) rm (va_Pc av (GS D cA base ad σ)) (va_Qv (fun (_ : Unit) => xT σ τ) (fun _ t => GS D cA base ad τ t) (bA base)) 0 0 (bA base)
def ML (l : Launch) (y : MethodName) (b : ByteArray) (maxL : Nat) (rm : Room) (D : va_G) (cA : Nat → ClassId) (base : Nat) (ad : Nat → Nat) (σ : Hp) (av : List Value) (r : Int64) (τ : Hp) : Prop :=
  Met l y (.code y b maxL (some .long) :: TB) rm (va_Pc av (GS D cA base ad σ)) (va_Ql (fun v (_ : Unit) => v = r ∧ xT σ τ) (fun _ t => GS D cA base ad τ t) (bA base)) 0 0 (bA base)
/-- an answer that is a reference: its number, of kind t -/
def MQ2 (l : Launch) (y : MethodName) (b : ByteArray) (maxL : Nat) (ret : Option FieldType) (rm : Room) (D : va_G) (cA : Nat → ClassId) (base : Nat) (ad : Nat → Nat) (σ : Hp) (av : List Value) (r : Option Nat) (τ : Hp) (t : Nat) : Prop :=
  Met l y (.code y b maxL ret :: TB) rm (va_Pc av (GS D cA base ad σ)) (va_Qq (fun v (_ : Unit) => v = r.map ad ∧ xT σ τ ∧ oT τ r t) (fun _ t => GS D cA base ad τ t) (bA base)) 0 0 (bA base)
abbrev ZI (below : List Frame) (s : State) (args : Array Value) (D : va_G) (cA : Nat → ClassId) (base : Nat) (ad : Nat → Nat) (σ : Hp) (r : Int32) (τ : Hp) : State → Prop := MQ below (va_Qi (fun v (_ : Unit) => v = r ∧ xT σ τ) (fun _ t => GS D cA base ad τ t) (bA base)) args s 0 0 (bA base)
abbrev ZV (below : List Frame) (s : State) (args : Array Value) (D : va_G) (cA : Nat → ClassId) (base : Nat) (ad : Nat → Nat) (σ : Hp) (τ : Hp) : State → Prop := MQ below (va_Qv (fun (_ : Unit) => xT σ τ) (fun _ t => GS D cA base ad τ t) (bA base)) args s 0 0 (bA base)
abbrev ZL (below : List Frame) (s : State) (args : Array Value) (D : va_G) (cA : Nat → ClassId) (base : Nat) (ad : Nat → Nat) (σ : Hp) (r : Int64) (τ : Hp) : State → Prop := MQ below (va_Ql (fun v (_ : Unit) => v = r ∧ xT σ τ) (fun _ t => GS D cA base ad τ t) (bA base)) args s 0 0 (bA base)
abbrev ZQ (below : List Frame) (s : State) (args : Array Value) (D : va_G) (cA : Nat → ClassId) (base : Nat) (ad : Nat → Nat) (σ : Hp) (r : Option Nat) (τ : Hp) (t : Nat) : State → Prop := MQ below (va_Qq (fun v (_ : Unit) => v = r.map ad ∧ xT σ τ ∧ oT τ r t) (fun _ t => GS D cA base ad τ t) (bA base)) args s 0 0 (bA base)
section ROWS
variable {p : Program} {l : Launch} {e : Env} {R : Room} {s : State} {m : MethodId} {args : Array Value} {below : List Frame} {meth : Method} {c : Code} {H : Heap} {locs : List Loc} {cells slots : Nat} {Q : State → Prop}
variable {D : va_G} {cA : Nat → ClassId} {base : Nat} {ad : Nat → Nat} {σ : Hp} {cc : ByteArray} {nL : Nat} {ret : Option FieldType} {own : String}
variable {pc : Nat} {ls : Array Slot} {rest : List Value} {ρ : Type} {rr : ρ}
theorem SX.w (X : SX D cA base p s m args meth c cc nL ret own) {w : Cond} (h : w ∈ TB) : w.before args s = true := X.2.2.2.2.1 w h
/-- entry -/
theorem sx_of {y : MethodName} {b : ByteArray} {maxL : Nat} {ret : Option FieldType} {rm : Room} {below : List Frame} {s₁ : State} {ad : Nat → Nat} {σ : Hp} (B : BodyLoose p l y (headSpec (Cond.code y b maxL ret :: TB) rm) b maxL ret e s m args below meth c s₁) (hml : c.maxLocals = maxL) (h : GS D cA base ad σ s) : SX D cA base p s m args meth c b maxL ret y.cls :=
  ⟨B.exec, B.bytes, hml, B.returns, fun w hw => atoms_spec (ws := Cond.code y b maxL ret :: TB) B.pre w (List.mem_cons_of_mem _ hw), findClass_of_methodNamed B.named, B.notSynchronized, h.2.1, h.2.2.1, h.2.2.2⟩
theorem gs_end {t : State} {τ : Hp} (X : SX D cA base p s m args meth c cc nL ret own) (hG : GW D cA base ad τ H) (hS : va_S (bA base) s.heap H locs) (ht : t.heap = H) (hW : s.WarmedH t.vm) : GS D cA base ad τ t :=
  ⟨by rw [ht]; exact hG, va_K.moved hW.alike X.2.2.2.2.2.2.2.1, X.2.2.2.2.2.2.2.2.1.moved hW, by rw [ht]; exact Nat.le_trans X.2.2.2.2.2.2.2.2.2 hS.1⟩
theorem gx_iret {σ0 τ : Hp} {r v : Int32} (X : SX D cA base p s m args meth c cc nL (some .int) own) (hG : GW D cA base ad σ H) (hS : va_S (bA base) s.heap H locs) (hE : xT σ0 σ) (hF : (some (v, σ) : Option (Int32 × Hp)) = some (r, τ)) (hdg : decode cc pc = .ok (.ireturn, 1)) : W p l e R s m args below meth c H locs 0 0 (ZI below s args D cA base ad σ0 r τ) (F0 m pc ls [.int v]) := by
  have hF := Option.some.inj hF
  cases hF
  exact W.iret X.1 X.2.1 X.2.2.2.1 (fun t ht hW => ⟨⟨r, (), rfl, ⟨rfl, hE⟩, gs_end X hG hS ht hW⟩, hS.F ht⟩) hS.2.2 hdg X.2.2.2.2.2.2.1
/-- a boolean: 0 or 1 -/
theorem gx_zret {σ0 τ : Hp} {r v : Int32} (X : SX D cA base p s m args meth c cc nL (some .boolean) own) (hG : GW D cA base ad σ H) (hS : va_S (bA base) s.heap H locs) (hE : xT σ0 σ) (hF : (some (v, σ) : Option (Int32 × Hp)) = some (r, τ)) (hn : narrow .boolean (.int v) = .int v) (hdg : decode cc pc = .ok (.ireturn, 1)) : W p l e R s m args below meth c H locs 0 0 (ZI below s args D cA base ad σ0 r τ) (F0 m pc ls [.int v]) := by
  have hF := Option.some.inj hF
  cases hF
  exact W.zret X.1 X.2.1 X.2.2.2.1 hn (fun t ht hW => ⟨⟨r, (), rfl, ⟨rfl, hE⟩, gs_end X hG hS ht hW⟩, hS.F ht⟩) hS.2.2 hdg X.2.2.2.2.2.2.1
theorem gx_vret {σ0 τ : Hp} (X : SX D cA base p s m args meth c cc nL none own) (hG : GW D cA base ad σ H) (hS : va_S (bA base) s.heap H locs) (hE : xT σ0 σ) (hF : (some σ : Option Hp) = some τ) (hdg : decode cc pc = .ok (.return_, 1)) : W p l e R s m args below meth c H locs 0 0 (ZV below s args D cA base ad σ0 τ) (F0 m pc ls []) := by
  have hF := Option.some.inj hF
  subst hF
  exact W.vret X.1 X.2.1 X.2.2.2.1 (fun t ht hW => ⟨⟨(), rfl, hE, gs_end X hG hS ht hW⟩, hS.F ht⟩) hS.2.2 hdg X.2.2.2.2.2.2.1
theorem gx_lret {σ0 τ : Hp} {r v : Int64} (X : SX D cA base p s m args meth c cc nL (some .long) own) (hG : GW D cA base ad σ H) (hS : va_S (bA base) s.heap H locs) (hE : xT σ0 σ) (hF : (some (v, σ) : Option (Int64 × Hp)) = some (r, τ)) (hdg : decode cc pc = .ok (.lreturn, 1)) : W p l e R s m args below meth c H locs 0 0 (ZL below s args D cA base ad σ0 r τ) (F0 m pc ls [.long v]) := by
  have hF := Option.some.inj hF
  cases hF
  exact W.lret X.1 X.2.1 X.2.2.2.1 (fun t ht hW => ⟨⟨r, (), rfl, ⟨rfl, hE⟩, gs_end X hG hS ht hW⟩, hS.F ht⟩) hS.2.2 hdg X.2.2.2.2.2.2.1
theorem gx_qret {σ0 τ : Hp} {r v : Option Nat} {C : String} {t0 : Nat} (X : SX D cA base p s m args meth c cc nL (some (.object C)) own) (hG : GW D cA base ad σ H) (hS : va_S (bA base) s.heap H locs) (hE : xT σ0 σ) (ho : oT σ v t0) (hF : (some (v, σ) : Option (Option Nat × Hp)) = some (r, τ)) (hdg : decode cc pc = .ok (.areturn, 1)) : W p l e R s m args below meth c H locs 0 0 (ZQ below s args D cA base ad σ0 r τ t0) (F0 m pc ls [va_rf (v.map ad)]) := by
  have hF := Option.some.inj hF
  cases hF
  exact W.aret X.1 X.2.1 X.2.2.2.1 (Or.inl ⟨C, rfl⟩) (va_rf_or _) (fun t ht hW => ⟨⟨r.map ad, (), rfl, ⟨rfl, hE, ho⟩, gs_end X hG hS ht hW⟩, hS.F ht⟩) hS.2.2 hdg X.2.2.2.2.2.2.1
/-! fields -/
theorem gx_get {C ref : String} {T : u_T} {N ci index : Nat} {i : Nat} (j : Nat) {v : Value} (X : SX D cA base p s m args meth c cc nL ret own) (hG : GW D cA base ad σ H) (hi : i < hN σ) (hk : hK σ i = ci) (h13 : ci < 13) (hc : vwCl[ci]? = some (C, T, N)) (hin : ∀ w ∈ u_ws C T N, w ∈ TB) (hj : j < N) (hlink : Cond.fieldLink own index ref (T j).2.1 (T j).2.2.1 ∈ TB) (hsame : ∀ x, s.fieldFound? (T j).1 (T j).2.1 (T j).2.2.1 = some x → s.fieldFound? ref (T j).2.1 (T j).2.2.1 = some x) (hv : (flds ad σ i 0 (fR ci))[j]? = some v) (hdg : decode cc pc = .ok (.getfield index, 3))
    (kk : W p l e R s m args below meth c H locs cells slots Q (F0 m (pc + 3) ls (v :: rest))) : W p l e R s m args below meth c H locs cells slots Q (F0 m pc ls (.ref (ad i) :: rest)) :=
  va_get X.1 X.2.1 X.2.2.2.2.1 hin X.2.2.2.2.2.1 X.2.2.2.2.2.2.2.1 hG.P i (by rw [wl_at hi, cell_obj hk h13]) hc j hj (X.w hlink) hsame hv hdg kk
theorem gx_getN {C ref host : String} {T : u_T} {N ci index : Nat} {i : Nat} (j : Nat) {v : Value} (X : SX D cA base p s m args meth c cc nL ret own) (hG : GW D cA base ad σ H) (hi : i < hN σ) (hk : hK σ i = ci) (h13 : ci < 13) (hc : vwCl[ci]? = some (C, T, N)) (hin : ∀ w ∈ u_ws C T N, w ∈ TB) (hj : j < N) (hlink : Cond.fieldLinkNest own index ref (T j).2.1 (T j).2.2.1 host ∈ NXL) (hsame : ∀ x, s.fieldFound? (T j).1 (T j).2.1 (T j).2.2.1 = some x → s.fieldFound? ref (T j).2.1 (T j).2.2.1 = some x) (hv : (flds ad σ i 0 (fR ci))[j]? = some v) (hdg : decode cc pc = .ok (.getfield index, 3))
    (kk : W p l e R s m args below meth c H locs cells slots Q (F0 m (pc + 3) ls (v :: rest))) : W p l e R s m args below meth c H locs cells slots Q (F0 m pc ls (.ref (ad i) :: rest)) :=
  va_getN X.1 X.2.1 X.2.2.2.2.1 hin X.2.2.2.2.2.1 X.2.2.2.2.2.2.2.1 hG.P i (by rw [wl_at hi, cell_obj hk h13]) hc j hj (va_Nw.use rfl (X.2.2.2.2.2.2.2.2.1.1 _ hlink)) hsame hv hdg kk
theorem gx_putI {C ref : String} {T : u_T} {N ci index : Nat} {i : Nat} (j : Nat) {x : Int32} {ty0 : Nat → FieldType} {f : Hp → Option ρ} (X : SX D cA base p s m args meth c cc nL ret own) (hG : GW D cA base ad σ H) (hS : va_S (bA base) s.heap H locs) (hi : i < hN σ) (hk : hK σ i = ci) (h13 : ci < 13) (hc : vwCl[ci]? = some (C, T, N)) (hin : ∀ w ∈ u_ws C T N, w ∈ TB) (hty : ∀ k, k < N → parseFieldDescriptor (T k).2.2.1 = some (ty0 k)) (hnm : ∀ a, a < N → ∀ b, b < N → a ≠ b → (T a).2.1 ≠ (T b).2.1) (hj : j < N) (hlink : Cond.fieldLink own index ref (T j).2.1 (T j).2.2.1 ∈ TB) (hsame : ∀ x, s.fieldFound? (T j).1 (T j).2.1 (T j).2.2.1 = some x → s.fieldFound? ref (T j).2.1 (T j).2.2.1 = some x) (hfin : (T j).2.2.2 = false) (hn : narrow (ty0 j) (.int x) = .int x) (hfit : fits (ty0 j) (.int x) = true) (hr : (fR ci)[j]? = some false) (hlen : j < (flds ad σ i 0 (fR ci)).length) (hdg : decode cc pc = .ok (.putfield index, 3)) (hF : lt (pI σ i j x) f = some rr)
    (kk : ∀ (τ : Hp) (H1 : Heap) (locs1 : List Loc), GW D cA base ad τ H1 → va_S (bA base) s.heap H1 locs1 → xT σ τ → f τ = some rr → W p l e R s m args below meth c H1 locs1 cells slots Q (F0 m (pc + 3) ls rest)) : W p l e R s m args below meth c H locs cells slots Q (F0 m pc ls (.int x :: .ref (ad i) :: rest)) :=
  va_put X.1 X.2.1 X.2.2.2.2.1 hin ty0 hty hnm X.2.2.2.2.2.1 X.2.2.2.2.2.2.2.1 hG.P hG.D hS i (by rw [wl_at hi, cell_obj hk h13]) hc j hj (X.w hlink) hsame hfin (hty j hj) hn hfit hlen hdg (fun H1 locs1 hP _ hS1 => kk _ H1 locs1 (GW_pI hG hi hk h13 hr hP) hS1 (xT.I σ i j x) hF)
theorem gx_putIN {C ref host : String} {T : u_T} {N ci index : Nat} {i : Nat} (j : Nat) {x : Int32} {ty0 : Nat → FieldType} {f : Hp → Option ρ} (X : SX D cA base p s m args meth c cc nL ret own) (hG : GW D cA base ad σ H) (hS : va_S (bA base) s.heap H locs) (hi : i < hN σ) (hk : hK σ i = ci) (h13 : ci < 13) (hc : vwCl[ci]? = some (C, T, N)) (hin : ∀ w ∈ u_ws C T N, w ∈ TB) (hty : ∀ k, k < N → parseFieldDescriptor (T k).2.2.1 = some (ty0 k)) (hnm : ∀ a, a < N → ∀ b, b < N → a ≠ b → (T a).2.1 ≠ (T b).2.1) (hj : j < N) (hlink : Cond.fieldLinkNest own index ref (T j).2.1 (T j).2.2.1 host ∈ NXL) (hsame : ∀ x, s.fieldFound? (T j).1 (T j).2.1 (T j).2.2.1 = some x → s.fieldFound? ref (T j).2.1 (T j).2.2.1 = some x) (hfin : (T j).2.2.2 = false) (hn : narrow (ty0 j) (.int x) = .int x) (hfit : fits (ty0 j) (.int x) = true) (hr : (fR ci)[j]? = some false) (hlen : j < (flds ad σ i 0 (fR ci)).length) (hdg : decode cc pc = .ok (.putfield index, 3)) (hF : lt (pI σ i j x) f = some rr)
    (kk : ∀ (τ : Hp) (H1 : Heap) (locs1 : List Loc), GW D cA base ad τ H1 → va_S (bA base) s.heap H1 locs1 → xT σ τ → f τ = some rr → W p l e R s m args below meth c H1 locs1 cells slots Q (F0 m (pc + 3) ls rest)) : W p l e R s m args below meth c H locs cells slots Q (F0 m pc ls (.int x :: .ref (ad i) :: rest)) :=
  va_putN X.1 X.2.1 X.2.2.2.2.1 hin ty0 hty hnm X.2.2.2.2.2.1 X.2.2.2.2.2.2.2.1 hG.P hG.D hS i (by rw [wl_at hi, cell_obj hk h13]) hc j hj (va_Nw.use rfl (X.2.2.2.2.2.2.2.2.1.1 _ hlink)) hsame hfin (hty j hj) hn hfit hlen hdg (fun H1 locs1 hP _ hS1 => kk _ H1 locs1 (GW_pI hG hi hk h13 hr hP) hS1 (xT.I σ i j x) hF)
theorem gx_putR {C ref : String} {T : u_T} {N ci index : Nat} {i : Nat} (j : Nat) {x : Option Nat} {ty0 : Nat → FieldType} {f : Hp → Option ρ} (X : SX D cA base p s m args meth c cc nL ret own) (hG : GW D cA base ad σ H) (hS : va_S (bA base) s.heap H locs) (hi : i < hN σ) (hk : hK σ i = ci) (h13 : ci < 13) (hc : vwCl[ci]? = some (C, T, N)) (hin : ∀ w ∈ u_ws C T N, w ∈ TB) (hty : ∀ k, k < N → parseFieldDescriptor (T k).2.2.1 = some (ty0 k)) (hnm : ∀ a, a < N → ∀ b, b < N → a ≠ b → (T a).2.1 ≠ (T b).2.1) (hj : j < N) (hlink : Cond.fieldLink own index ref (T j).2.1 (T j).2.2.1 ∈ TB) (hsame : ∀ x, s.fieldFound? (T j).1 (T j).2.1 (T j).2.2.1 = some x → s.fieldFound? ref (T j).2.1 (T j).2.2.1 = some x) (hfin : (T j).2.2.2 = false) (hn : narrow (ty0 j) (va_rf (x.map ad)) = va_rf (x.map ad)) (hfit : fits (ty0 j) (va_rf (x.map ad)) = true) (hr : (fR ci)[j]? = some true) (ho : oT σ x (rT ci j)) (hlen : j < (flds ad σ i 0 (fR ci)).length) (hdg : decode cc pc = .ok (.putfield index, 3)) (hF : lt (pR σ i j x) f = some rr)
    (kk : ∀ (τ : Hp) (H1 : Heap) (locs1 : List Loc), GW D cA base ad τ H1 → va_S (bA base) s.heap H1 locs1 → xT σ τ → f τ = some rr → W p l e R s m args below meth c H1 locs1 cells slots Q (F0 m (pc + 3) ls rest)) : W p l e R s m args below meth c H locs cells slots Q (F0 m pc ls (va_rf (x.map ad) :: .ref (ad i) :: rest)) :=
  va_put X.1 X.2.1 X.2.2.2.2.1 hin ty0 hty hnm X.2.2.2.2.2.1 X.2.2.2.2.2.2.2.1 hG.P hG.D hS i (by rw [wl_at hi, cell_obj hk h13]) hc j hj (X.w hlink) hsame hfin (hty j hj) hn hfit hlen hdg (fun H1 locs1 hP _ hS1 => kk _ H1 locs1 (GW_pR hG hi hk h13 hr ho hP) hS1 (xT.R σ i j x) hF)
/-- final fields, in the constructor -/
theorem gx_putFI {C : String} {T : u_T} {N ci index : Nat} {i : Nat} (j : Nat) {x : Int32} {ty0 : Nat → FieldType} {f : Hp → Option ρ} (X : SX D cA base p s m args meth c cc nL ret own) (hG : GW D cA base ad σ H) (hS : va_S (bA base) s.heap H locs) (hi : i < hN σ) (hk : hK σ i = ci) (h13 : ci < 13) (hc : vwCl[ci]? = some (C, T, N)) (hin : ∀ w ∈ u_ws C T N, w ∈ TB) (hty : ∀ k, k < N → parseFieldDescriptor (T k).2.2.1 = some (ty0 k)) (hnm : ∀ a, a < N → ∀ b, b < N → a ≠ b → (T a).2.1 ≠ (T b).2.1) (hj : j < N) (hlink : Cond.fieldLink own index (T j).1 (T j).2.1 (T j).2.2.1 ∈ TB) (hfin : (T j).2.2.2 = true) (hm : meth.name = "<init>") (hd : (T j).1 = own) (hn : narrow (ty0 j) (.int x) = .int x) (hfit : fits (ty0 j) (.int x) = true) (hr : (fR ci)[j]? = some false) (hlen : j < (flds ad σ i 0 (fR ci)).length) (hdg : decode cc pc = .ok (.putfield index, 3)) (hF : lt (pI σ i j x) f = some rr)
    (kk : ∀ (τ : Hp) (H1 : Heap) (locs1 : List Loc), GW D cA base ad τ H1 → va_S (bA base) s.heap H1 locs1 → xT σ τ → f τ = some rr → W p l e R s m args below meth c H1 locs1 cells slots Q (F0 m (pc + 3) ls rest)) : W p l e R s m args below meth c H locs cells slots Q (F0 m pc ls (.int x :: .ref (ad i) :: rest)) :=
  va_putF X.1 X.2.1 X.2.2.2.2.1 hin ty0 hty hnm X.2.2.2.2.2.1 X.2.2.2.2.2.2.2.1 hG.P hG.D hS i (by rw [wl_at hi, cell_obj hk h13]) hc j hj (X.w hlink) (fun _ h => h) hfin hm hd (hty j hj) hn hfit hlen hdg (fun H1 locs1 hP _ hS1 => kk _ H1 locs1 (GW_pI hG hi hk h13 hr hP) hS1 (xT.I σ i j x) hF)
theorem gx_putFR {C : String} {T : u_T} {N ci index : Nat} {i : Nat} (j : Nat) {x : Option Nat} {ty0 : Nat → FieldType} {f : Hp → Option ρ} (X : SX D cA base p s m args meth c cc nL ret own) (hG : GW D cA base ad σ H) (hS : va_S (bA base) s.heap H locs) (hi : i < hN σ) (hk : hK σ i = ci) (h13 : ci < 13) (hc : vwCl[ci]? = some (C, T, N)) (hin : ∀ w ∈ u_ws C T N, w ∈ TB) (hty : ∀ k, k < N → parseFieldDescriptor (T k).2.2.1 = some (ty0 k)) (hnm : ∀ a, a < N → ∀ b, b < N → a ≠ b → (T a).2.1 ≠ (T b).2.1) (hj : j < N) (hlink : Cond.fieldLink own index (T j).1 (T j).2.1 (T j).2.2.1 ∈ TB) (hfin : (T j).2.2.2 = true) (hm : meth.name = "<init>") (hd : (T j).1 = own) (hn : narrow (ty0 j) (va_rf (x.map ad)) = va_rf (x.map ad)) (hfit : fits (ty0 j) (va_rf (x.map ad)) = true) (hr : (fR ci)[j]? = some true) (ho : oT σ x (rT ci j)) (hlen : j < (flds ad σ i 0 (fR ci)).length) (hdg : decode cc pc = .ok (.putfield index, 3)) (hF : lt (pR σ i j x) f = some rr)
    (kk : ∀ (τ : Hp) (H1 : Heap) (locs1 : List Loc), GW D cA base ad τ H1 → va_S (bA base) s.heap H1 locs1 → xT σ τ → f τ = some rr → W p l e R s m args below meth c H1 locs1 cells slots Q (F0 m (pc + 3) ls rest)) : W p l e R s m args below meth c H locs cells slots Q (F0 m pc ls (va_rf (x.map ad) :: .ref (ad i) :: rest)) :=
  va_putF X.1 X.2.1 X.2.2.2.2.1 hin ty0 hty hnm X.2.2.2.2.2.1 X.2.2.2.2.2.2.2.1 hG.P hG.D hS i (by rw [wl_at hi, cell_obj hk h13]) hc j hj (X.w hlink) (fun _ h => h) hfin hm hd (hty j hj) hn hfit hlen hdg (fun H1 locs1 hP _ hS1 => kk _ H1 locs1 (GW_pR hG hi hk h13 hr ho hP) hS1 (xT.R σ i j x) hF)
/-! arrays -/
theorem gx_iald {i : Nat} {x : Int32} {f : Option ρ} (X : SX D cA base p s m args meth c cc nL ret own) (hG : GW D cA base ad σ H) (h : hT σ i 13) (hF : ck (¬ (x < 0 ∨ hL σ i ≤ x.toNatClampNeg)) f = some rr) (hdg : decode cc pc = .ok (.iaload, 1))
    (kk : f = some rr → W p l e R s m args below meth c H locs cells slots Q (F0 m (pc + 1) ls (.int (hI σ i x.toNatClampNeg) :: rest))) : W p l e R s m args below meth c H locs cells slots Q (F0 m pc ls (.int x :: .ref (ad i) :: rest)) :=
  va_iald X.1 X.2.1 X.2.2.2.2.2.2.2.1 hG.P i 0 (by rw [wl_at h.1, cell_13 (h.eq (by decide))]) rfl (ck_ex hF).1 hdg (kk (ck_ex hF).2)
theorem gx_iast {i : Nat} {x v : Int32} {f : Hp → Option ρ} (X : SX D cA base p s m args meth c cc nL ret own) (hG : GW D cA base ad σ H) (hS : va_S (bA base) s.heap H locs) (h : hT σ i 13) (hF : ck (¬ (x < 0 ∨ hL σ i ≤ x.toNatClampNeg)) (lt (pI σ i x.toNatClampNeg v) f) = some rr) (hdg : decode cc pc = .ok (.iastore, 1))
    (kk : ∀ (τ : Hp) (H1 : Heap) (locs1 : List Loc), GW D cA base ad τ H1 → va_S (bA base) s.heap H1 locs1 → xT σ τ → f τ = some rr → W p l e R s m args below meth c H1 locs1 cells slots Q (F0 m (pc + 1) ls rest)) : W p l e R s m args below meth c H locs cells slots Q (F0 m pc ls (.int v :: .int x :: .ref (ad i) :: rest)) :=
  va_iast X.1 X.2.1 X.2.2.2.2.2.2.2.1 hG.P hG.D hS i 0 (by rw [wl_at h.1, cell_13 (h.eq (by decide))]) rfl (ck_ex hF).1 hdg (fun H1 locs1 hP _ hS1 => kk _ H1 locs1 (GW_pA hG h.1 (h.eq (by decide)) hP) hS1 (xT.I σ i _ v) (ck_ex hF).2)
theorem gx_lald {i : Nat} {x : Int32} {f : Option ρ} (X : SX D cA base p s m args meth c cc nL ret own) (hG : GW D cA base ad σ H) (h : hT σ i 17) (hF : ck (¬ (x < 0 ∨ hL σ i ≤ x.toNatClampNeg)) f = some rr) (hdg : decode cc pc = .ok (.laload, 1))
    (kk : f = some rr → W p l e R s m args below meth c H locs cells slots Q (F0 m (pc + 1) ls (.long (hJ σ i x.toNatClampNeg) :: rest))) : W p l e R s m args below meth c H locs cells slots Q (F0 m pc ls (.int x :: .ref (ad i) :: rest)) :=
  va_lald X.1 X.2.1 X.2.2.2.2.2.2.2.1 hG.P i 4 (by rw [wl_at h.1, cell_17 (h.eq (by decide))]) rfl (ck_ex hF).1 hdg (kk (ck_ex hF).2)
theorem gx_last {i : Nat} {x : Int32} {v : Int64} {f : Hp → Option ρ} (X : SX D cA base p s m args meth c cc nL ret own) (hG : GW D cA base ad σ H) (hS : va_S (bA base) s.heap H locs) (h : hT σ i 17) (hF : ck (¬ (x < 0 ∨ hL σ i ≤ x.toNatClampNeg)) (lt (pJ σ i x.toNatClampNeg v) f) = some rr) (hdg : decode cc pc = .ok (.lastore, 1))
    (kk : ∀ (τ : Hp) (H1 : Heap) (locs1 : List Loc), GW D cA base ad τ H1 → va_S (bA base) s.heap H1 locs1 → xT σ τ → f τ = some rr → W p l e R s m args below meth c H1 locs1 cells slots Q (F0 m (pc + 1) ls rest)) : W p l e R s m args below meth c H locs cells slots Q (F0 m pc ls (.long v :: .int x :: .ref (ad i) :: rest)) :=
  va_last X.1 X.2.1 X.2.2.2.2.2.2.2.1 hG.P hG.D hS i 4 (by rw [wl_at h.1, cell_17 (h.eq (by decide))]) rfl (ck_ex hF).1 hdg (fun H1 locs1 hP _ hS1 => kk _ H1 locs1 (GW_pL hG h.1 (h.eq (by decide)) hP) hS1 (xT.J σ i _ v) (ck_ex hF).2)
/-- a row of references: what is read gets a name -/
theorem gx_qald {i t0 k0 : Nat} {C : String} {x : Int32} {f : Option Nat → Option ρ} (X : SX D cA base p s m args meth c cc nL ret own) (hG : GW D cA base ad σ H) (h : hT σ i k0) (h1 : 13 < k0) (h2 : k0 < 17) (ht : (tyl cA)[t0]? = some (cA k0, .object C)) (hF : ck (¬ (x < 0 ∨ hL σ i ≤ x.toNatClampNeg)) (lt (hR σ i x.toNatClampNeg) f) = some rr) (hdg : decode cc pc = .ok (.aaload, 1))
    (kk : ∀ r : Option Nat, oT σ r (rT k0 x.toNatClampNeg) → f r = some rr → W p l e R s m args below meth c H locs cells slots Q (F0 m (pc + 1) ls (va_rf (r.map ad) :: rest))) : W p l e R s m args below meth c H locs cells slots Q (F0 m pc ls (.int x :: .ref (ad i) :: rest)) :=
  va_aldq X.1 X.2.1 X.2.2.2.2.2.2.2.1 hG.P i t0 (by rw [wl_at h.1, cell_q (h.eq (by omega)) h1 h2]) ht (ck_ex hF).1 hdg (kk _ (by
    have h3 := hG.2.2.2 i h.1 x.toNatClampNeg
    rw [h.eq (by omega)] at h3
    exact h3) (ck_ex hF).2)
theorem gx_alen {i t0 k0 : Nat} {ty : FieldType} (X : SX D cA base p s m args meth c cc nL ret own) (hG : GW D cA base ad σ H) (h : hT σ i k0) (h1 : 12 < k0) (h2 : k0 < 18) (ht : (tyl cA)[t0]? = some (cA k0, ty)) (hdg : decode cc pc = .ok (.arraylength, 1))
    (kk : W p l e R s m args below meth c H locs cells slots Q (F0 m (pc + 1) ls (.int (nI (hL σ i)) :: rest))) : W p l e R s m args below meth c H locs cells slots Q (F0 m pc ls (.ref (ad i) :: rest)) := by
  have hk := h.eq (show k0 < 100 by omega)
  by_cases a : k0 = 13
  · subst a
    exact va_alen X.1 X.2.1 X.2.2.2.2.2.2.2.1 hG.P i t0 (x := (hL σ i, .inl (hI σ i))) (by rw [wl_at h.1, cell_13 hk]) ht rfl hdg kk
  · by_cases b : k0 = 17
    · subst b
      exact va_alen X.1 X.2.1 X.2.2.2.2.2.2.2.1 hG.P i t0 (x := (hL σ i, .inr (.inl (hJ σ i)))) (by rw [wl_at h.1, cell_17 hk]) ht rfl hdg kk
    · exact va_alen X.1 X.2.1 X.2.2.2.2.2.2.2.1 hG.P i t0 (x := (hL σ i, .inr (.inr (.inr (.inr (fun j => (hR σ i j).map ad)))))) (by rw [wl_at h.1, cell_q hk (by omega) (by omega)]) ht rfl hdg kk
end ROWS
end
section
/-! calls: the run of a call by the callee's contract; what goes on behind it -/
section CALLS
variable {p : Program} {l : Launch} {e : Env} {R : Room} {s : State} {m : MethodId} {args : Array Value} {below : List Frame} {meth : Method} {c : Code} {H : Heap} {locs : List Loc} {cells slots : Nat} {Q : State → Prop}
variable {D : va_G} {cA : Nat → ClassId} {base : Nat} {ad : Nat → Nat} {σ : Hp} {cc : ByteArray} {nL : Nat} {ret : Option FieldType} {own : String}
variable {pc : Nat} {ls : Array Slot} {rest st0 : List Value}
variable {y : MethodName} {b : ByteArray} {maxL mc ms n index : Nat} {rt : Option FieldType} {rm : Room} {Qc : Array Value → State → Outcome → State → Prop} {As : List Value}
theorem gs_blind {av : List Value} : FrameBlind (va_Pc av (GS D cA base ad σ)) := fun a U g mk h => ⟨h.1, h.2.1, va_K.moved (u := U) (U := U.calling g mk a) (Vm.Alike.refl U.vm) h.2.2.1, NX.same (s := U) (U := U.calling g mk a) rfl h.2.2.2.1, h.2.2.2.2⟩
theorem gs_call (X : SX D cA base p s m args meth c cc nL ret own) (hG : GW D cA base ad σ H) (hS : va_S (bA base) s.heap H locs) (av : List Value) : ∀ U : State, U.heap = H → s.WarmedH U.vm → va_Pc av (GS D cA base ad σ) av.toArray U := fun U hU hW =>
  ⟨rfl, by rw [hU]; exact hG, va_K.moved hW.alike X.2.2.2.2.2.2.2.1, X.2.2.2.2.2.2.2.2.1.moved hW, by rw [hU]; exact Nat.le_trans X.2.2.2.2.2.2.2.2.2 hS.1⟩
theorem gs_recv {C : String} {T : u_T} {N ci i : Nat} (X : SX D cA base p s m args meth c cc nL ret own) (hG : GW D cA base ad σ H) (hi : i < hN σ) (hk : hK σ i = ci) (h13 : ci < 13) (hc : vwCl[ci]? = some (C, T, N)) : ∃ cell : Cell, H[ad i]? = some cell ∧ cell.vm.isStatics = false ∧ s.vm.findClass C = some cell.cls :=
  va_recv X.2.2.2.2.2.2.2.1 hG.P hc (by rw [wl_at hi, cell_obj hk h13])
theorem sx_fix (X : SX D cA base p s m args meth c cc nL ret own) : CallFix p m c cc nL s args TB own := ⟨X.1, X.2.1, X.2.2.1, X.2.2.2.2.2.1, X.2.2.2.2.1⟩
/-- a method of the receiver's own class -/
theorem gx_runV {C : String} {T : u_T} {N ci i : Nat} (X : SX D cA base p s m args meth c cc nL ret own) (hG : GW D cA base ad σ H) (hS : va_S (bA base) s.heap H locs) (hi : i < hN σ) (hk : hK σ i = ci) (h13 : ci < 13) (hc : vwCl[ci]? = some (C, T, N))
    (hM : Met l y (.code y b maxL rt :: TB) rm (va_Pc (.ref (ad i) :: As) (GS D cA base ad σ)) Qc mc ms (bA base)) (hcode : Cond.code y b maxL rt ∈ TB) (hl : Cond.methodLink own index y ∈ TB) (hin : Cond.instanceMethod y ∈ TB) (hse : Cond.selects C y y ∈ TB) (hini : Cond.initialized C ∈ TB)
    (hd : y.cls = C ∧ y.cls ≠ "java/lang/invoke/MethodHandle" ∧ y.cls ≠ "java/lang/invoke/VarHandle" ∧ (parseMethodDescriptor y.desc).map (fun d => d.parameters.length) = some n) (hrc : rm.cells = mc) (hrs : rm.slots = ms) (hR : rm.frames + 1 ≤ R.frames ∧ 8 + (maxL + 11) + rm.locals ≤ R.locals) (hn : As.length = n) (hsize : ls.size = nL) (hstack : st0 = As.reverse ++ .ref (ad i) :: rest) (hW : (rest.map fun v => v.category).sum ≤ 8) (hdg : decode cc pc = .ok (.invokevirtual index, 3)) (hf : cells + mc ≤ R.cells ∧ slots + ms ≤ R.slots) :
    va_Run p l e R s m args below meth c H locs cells slots mc ms (F0 m pc ls st0) rest (Qc (Value.ref (ad i) :: As).toArray) (bA base) :=
  va_runV (sx_fix X) hM (cwV n X.2.2.2.2.1 (tb_in (tb_a (tb_c hl (tb_c hin (tb_c hse (tb_c hini tb_n)))) (tb_c hcode tb_0))) rfl hrc hrs hd hR) ⟨gs_blind, gs_recv X hG hi hk h13 hc, gs_call X hG hS _⟩ rfl hn hsize hstack (by show 2 * 0 + _ ≤ 8; omega) hdg hf
/-- a method that the receiver's class has of its own, where x is named; or one that it inherits -/
theorem gx_runO {C owner : String} {T : u_T} {N ci i : Nat} {x : MethodName} {b0 : ByteArray} {m0 : Nat} {r0 : Option FieldType} (X : SX D cA base p s m args meth c cc nL ret own) (hG : GW D cA base ad σ H) (hS : va_S (bA base) s.heap H locs) (hi : i < hN σ) (hk : hK σ i = ci) (h13 : ci < 13) (hc : vwCl[ci]? = some (C, T, N))
    (hM : Met l y (.code y b maxL rt :: TB) rm (va_Pc (.ref (ad i) :: As) (GS D cA base ad σ)) Qc mc ms (bA base)) (hcode : Cond.code y b maxL rt ∈ TB) (hl : Cond.methodLink own index x ∈ TB) (hsm : Cond.sameMethod x.cls owner x.name x.desc ∈ TB) (hin0 : Cond.instanceMethod ⟨owner, x.name, x.desc⟩ ∈ TB) (hse : Cond.selects C x y ∈ TB) (hin : Cond.instanceMethod y ∈ TB) (hini : Cond.initialized y.cls ∈ TB) (h0 : Cond.code ⟨owner, x.name, x.desc⟩ b0 m0 r0 ∈ TB)
    (hd : owner ≠ "java/lang/invoke/MethodHandle" ∧ owner ≠ "java/lang/invoke/VarHandle" ∧ (parseMethodDescriptor x.desc).map (fun d => d.parameters.length) = some n) (hrc : rm.cells = mc) (hrs : rm.slots = ms) (hR : rm.frames + 1 ≤ R.frames ∧ 8 + (maxL + 11) + rm.locals ≤ R.locals) (hn : As.length = n) (hsize : ls.size = nL) (hstack : st0 = As.reverse ++ .ref (ad i) :: rest) (hW : (rest.map fun v => v.category).sum ≤ 8) (hdg : decode cc pc = .ok (.invokevirtual index, 3)) (hf : cells + mc ≤ R.cells ∧ slots + ms ≤ R.slots) :
    va_Run p l e R s m args below meth c H locs cells slots mc ms (F0 m pc ls st0) rest (Qc (Value.ref (ad i) :: As).toArray) (bA base) :=
  va_runU (sx_fix X) hM (va_cwO n X.2.2.2.2.1 (tb_in (by unfold va_wsO; exact tb_a (tb_c hl (tb_c hsm (tb_c hin0 (tb_c hse (tb_c hin (tb_c hini tb_n)))))) (tb_c hcode tb_0))) rfl hrc hrs h0 hd hR) ⟨gs_blind, gs_recv X hG hi hk h13 hc, gs_call X hG hS _⟩ rfl hn hsize hstack (by show 2 * 0 + _ ≤ 8; omega) hdg hf
theorem gx_runU {C owner : String} {T : u_T} {N ci i : Nat} {x : MethodName} (X : SX D cA base p s m args meth c cc nL ret own) (hG : GW D cA base ad σ H) (hS : va_S (bA base) s.heap H locs) (hi : i < hN σ) (hk : hK σ i = ci) (h13 : ci < 13) (hc : vwCl[ci]? = some (C, T, N))
    (hM : Met l y (.code y b maxL rt :: TB) rm (va_Pc (.ref (ad i) :: As) (GS D cA base ad σ)) Qc mc ms (bA base)) (hcode : Cond.code y b maxL rt ∈ TB) (hl : Cond.methodLink own index x ∈ TB) (hsm : Cond.sameMethod x.cls owner x.name x.desc ∈ TB) (hse : Cond.selects C x y ∈ TB) (hin : Cond.instanceMethod y ∈ TB) (hini : Cond.initialized y.cls ∈ TB) (hyx : y = ⟨owner, x.name, x.desc⟩)
    (hd : owner ≠ "java/lang/invoke/MethodHandle" ∧ owner ≠ "java/lang/invoke/VarHandle" ∧ (parseMethodDescriptor x.desc).map (fun d => d.parameters.length) = some n) (hrc : rm.cells = mc) (hrs : rm.slots = ms) (hR : rm.frames + 1 ≤ R.frames ∧ 8 + (maxL + 11) + rm.locals ≤ R.locals) (hn : As.length = n) (hsize : ls.size = nL) (hstack : st0 = As.reverse ++ .ref (ad i) :: rest) (hW : (rest.map fun v => v.category).sum ≤ 8) (hdg : decode cc pc = .ok (.invokevirtual index, 3)) (hf : cells + mc ≤ R.cells ∧ slots + ms ≤ R.slots) :
    va_Run p l e R s m args below meth c H locs cells slots mc ms (F0 m pc ls st0) rest (Qc (Value.ref (ad i) :: As).toArray) (bA base) :=
  va_runU (sx_fix X) hM (va_cwU n X.2.2.2.2.1 (tb_in (by unfold va_wsU; exact tb_a (tb_c hl (tb_c hsm (tb_c hse (tb_c hin (tb_c hini tb_n))))) (tb_c hcode tb_0))) rfl hrc hrs hyx hd hR) ⟨gs_blind, gs_recv X hG hi hk h13 hc, gs_call X hG hS _⟩ rfl hn hsize hstack (by show 2 * 0 + _ ≤ 8; omega) hdg hf
/-- super.name(..) -/
theorem gx_runP {C : String} {T : u_T} {N ci i : Nat} (X : SX D cA base p s m args meth c cc nL ret own) (hG : GW D cA base ad σ H) (hS : va_S (bA base) s.heap H locs) (hi : i < hN σ) (hk : hK σ i = ci) (h13 : ci < 13) (hc : vwCl[ci]? = some (C, T, N))
    (hM : Met l y (.code y b maxL rt :: TB) rm (va_Pc (.ref (ad i) :: As) (GS D cA base ad σ)) Qc mc ms (bA base)) (hcode : Cond.code y b maxL rt ∈ TB) (hl : Cond.methodLink own index y ∈ TB) (hsm : Cond.sameMethod y.cls y.cls y.name y.desc ∈ TB) (hsu : Cond.superclass own y.cls ∈ TB) (hin : Cond.instanceMethod y ∈ TB) (hini : Cond.initialized y.cls ∈ TB)
    (hd : y.name ≠ "<init>" ∧ (parseMethodDescriptor y.desc).map (fun d => d.parameters.length) = some n) (hrc : rm.cells = mc) (hrs : rm.slots = ms) (hR : rm.frames + 1 ≤ R.frames ∧ 8 + (maxL + 11) + rm.locals ≤ R.locals) (hn : As.length = n) (hsize : ls.size = nL) (hstack : st0 = As.reverse ++ .ref (ad i) :: rest) (hW : (rest.map fun v => v.category).sum ≤ 8) (hdg : decode cc pc = .ok (.invokespecial index, 3)) (hf : cells + mc ≤ R.cells ∧ slots + ms ≤ R.slots) :
    va_Run p l e R s m args below meth c H locs cells slots mc ms (F0 m pc ls st0) rest (Qc (Value.ref (ad i) :: As).toArray) (bA base) :=
  va_runSU (X.2.2.2.2.2.2.2.1.1 ci _ hc).2 (sx_fix X) hM (va_cwSU n X.2.2.2.2.1 (tb_in (by unfold va_wsSU; exact tb_a (tb_c hl (tb_c hsm (tb_c hsu (tb_c hin (tb_c hini tb_n))))) (tb_c hcode tb_0))) rfl hrc hrs hd hR) ⟨gs_blind, gs_recv X hG hi hk h13 hc, gs_call X hG hS _⟩ rfl hn hsize hstack (by show 2 * 0 + _ ≤ 8; omega) hdg hf
/-- constructors -/
theorem gx_runI {i : Nat} (X : SX D cA base p s m args meth c cc nL ret own) (hG : GW D cA base ad σ H) (hS : va_S (bA base) s.heap H locs)
    (hM : Met l y (.code y b maxL none :: TB) rm (va_Pc (.ref (ad i) :: As) (GS D cA base ad σ)) Qc mc ms (bA base)) (hcode : Cond.code y b maxL none ∈ TB) (hl : Cond.methodLink own index y ∈ TB) (hin : Cond.instanceMethod y ∈ TB) (hini : Cond.initialized y.cls ∈ TB) (hy : y.name = "<init>")
    (hd : y.cls ≠ "java/lang/invoke/MethodHandle" ∧ y.cls ≠ "java/lang/invoke/VarHandle" ∧ (parseMethodDescriptor y.desc).map (fun d => d.parameters.length) = some n) (hrc : rm.cells = mc) (hrs : rm.slots = ms) (hR : rm.frames + 1 ≤ R.frames ∧ 8 + (maxL + 11) + rm.locals ≤ R.locals) (hn : As.length = n) (hsize : ls.size = nL) (hstack : st0 = As.reverse ++ .ref (ad i) :: rest) (hW : (rest.map fun v => v.category).sum ≤ 8) (hdg : decode cc pc = .ok (.invokespecial index, 3)) (hf : cells + mc ≤ R.cells ∧ slots + ms ≤ R.slots) :
    va_Run p l e R s m args below meth c H locs cells slots mc ms (F0 m pc ls st0) rest (Qc (Value.ref (ad i) :: As).toArray) (bA base) :=
  va_runI (sx_fix X) hM (cwI n X.2.2.2.2.1 (tb_in (tb_c hcode tb_0)) rfl hrc hrs (X.w hini) (X.w hl) (X.w hin) hy hd hR) ⟨gs_blind, gs_call X hG hS _⟩ rfl hn hsize hstack (by show 2 * 0 + _ ≤ 8; omega) hdg hf
theorem gx_runIN {i : Nat} {host : String} (X : SX D cA base p s m args meth c cc nL ret own) (hG : GW D cA base ad σ H) (hS : va_S (bA base) s.heap H locs)
    (hM : Met l y (.code y b maxL none :: TB) rm (va_Pc (.ref (ad i) :: As) (GS D cA base ad σ)) Qc mc ms (bA base)) (hcode : Cond.code y b maxL none ∈ TB) (hl : Cond.methodLinkNest own index y host ∈ NXL) (hin : Cond.instanceMethod y ∈ TB) (hini : Cond.initialized y.cls ∈ TB) (hy : y.name = "<init>")
    (hd : y.cls ≠ "java/lang/invoke/MethodHandle" ∧ y.cls ≠ "java/lang/invoke/VarHandle" ∧ (parseMethodDescriptor y.desc).map (fun d => d.parameters.length) = some n) (hrc : rm.cells = mc) (hrs : rm.slots = ms) (hR : rm.frames + 1 ≤ R.frames ∧ 8 + (maxL + 11) + rm.locals ≤ R.locals) (hn : As.length = n) (hsize : ls.size = nL) (hstack : st0 = As.reverse ++ .ref (ad i) :: rest) (hW : (rest.map fun v => v.category).sum ≤ 8) (hdg : decode cc pc = .ok (.invokespecial index, 3)) (hf : cells + mc ≤ R.cells ∧ slots + ms ≤ R.slots) :
    va_Run p l e R s m args below meth c H locs cells slots mc ms (F0 m pc ls st0) rest (Qc (Value.ref (ad i) :: As).toArray) (bA base) :=
  va_runIN (sx_fix X) hM ⟨va_cnB n X.2.2.2.2.1 (tb_in (tb_c hcode tb_0)) rfl hrc hrs (X.2.2.2.2.2.2.2.2.1.1 _ hl) (X.w hini) hd hR, hy, X.w hin⟩ ⟨gs_blind, gs_call X hG hS _⟩ rfl hn hsize hstack (by show 2 * 0 + _ ≤ 8; omega) hdg hf
/-- static methods, of a nest mate too -/
theorem gx_runS (X : SX D cA base p s m args meth c cc nL ret own) (hG : GW D cA base ad σ H) (hS : va_S (bA base) s.heap H locs)
    (hM : Met l y (.code y b maxL rt :: TB) rm (va_Pc As (GS D cA base ad σ)) Qc mc ms (bA base)) (hcode : Cond.code y b maxL rt ∈ TB) (hl : Cond.methodLink own index y ∈ TB) (hst : Cond.static y ∈ TB) (hini : Cond.initialized y.cls ∈ TB)
    (hd : y.cls ≠ "java/lang/invoke/MethodHandle" ∧ y.cls ≠ "java/lang/invoke/VarHandle" ∧ (parseMethodDescriptor y.desc).map (fun d => d.parameters.length) = some n) (hrc : rm.cells = mc) (hrs : rm.slots = ms) (hR : rm.frames + 1 ≤ R.frames ∧ 8 + (maxL + 11) + rm.locals ≤ R.locals) (hn : As.length = n) (hsize : ls.size = nL) (hstack : st0 = As.reverse ++ rest) (hW : (rest.map fun v => v.category).sum ≤ 8) (hdg : decode cc pc = .ok (.invokestatic index, 3)) (hf : cells + mc ≤ R.cells ∧ slots + ms ≤ R.slots) :
    va_Run p l e R s m args below meth c H locs cells slots mc ms (F0 m pc ls st0) rest (Qc As.toArray) (bA base) :=
  va_runS (sx_fix X) hM (va_cwS n X.2.2.2.2.1 (tb_in (by unfold va_wsS; exact tb_a (tb_c hl (tb_c hst (tb_c hini tb_n))) (tb_c hcode tb_0))) rfl hrc hrs hd hR) ⟨gs_blind, gs_call X hG hS _⟩ rfl hn hsize hstack (by show 2 * 0 + _ ≤ 8; omega) hdg hf
theorem gx_runSN {host : String} (X : SX D cA base p s m args meth c cc nL ret own) (hG : GW D cA base ad σ H) (hS : va_S (bA base) s.heap H locs)
    (hM : Met l y (.code y b maxL rt :: TB) rm (va_Pc As (GS D cA base ad σ)) Qc mc ms (bA base)) (hcode : Cond.code y b maxL rt ∈ TB) (hl : Cond.methodLinkNest own index y host ∈ NXL) (hst : Cond.static y ∈ TB) (hini : Cond.initialized y.cls ∈ TB)
    (hd : y.cls ≠ "java/lang/invoke/MethodHandle" ∧ y.cls ≠ "java/lang/invoke/VarHandle" ∧ (parseMethodDescriptor y.desc).map (fun d => d.parameters.length) = some n) (hrc : rm.cells = mc) (hrs : rm.slots = ms) (hR : rm.frames + 1 ≤ R.frames ∧ 8 + (maxL + 11) + rm.locals ≤ R.locals) (hn : As.length = n) (hsize : ls.size = nL) (hstack : st0 = As.reverse ++ rest) (hW : (rest.map fun v => v.category).sum ≤ 8) (hdg : decode cc pc = .ok (.invokestatic index, 3)) (hf : cells + mc ≤ R.cells ∧ slots + ms ≤ R.slots) :
    va_Run p l e R s m args below meth c H locs cells slots mc ms (F0 m pc ls st0) rest (Qc As.toArray) (bA base) :=
  va_runSN (sx_fix X) hM ⟨va_cnB n X.2.2.2.2.1 (tb_in (tb_c hcode tb_0)) rfl hrc hrs (X.2.2.2.2.2.2.2.2.1.1 _ hl) (X.w hini) hd hR, X.w hst, trivial⟩ ⟨gs_blind, gs_call X hG hS _⟩ rfl hn hsize hstack (by show 2 * 0 + _ ≤ 8; omega) hdg hf
/-! what goes on: int, nothing, long, reference -/
theorem gx_rI {a : Array Value} {r : Int32} {τ : Hp} (hr : va_Run p l e R s m args below meth c H locs cells slots 0 0 (F0 m pc ls st0) rest (va_Qi (fun v (_ : Unit) => v = r ∧ xT σ τ) (fun _ t => GS D cA base ad τ t) (bA base) a) (bA base)) (hS : va_S (bA base) s.heap H locs)
    (kk : ∀ (H1 : Heap) (locs1 : List Loc), GW D cA base ad τ H1 → va_S (bA base) s.heap H1 locs1 → xT σ τ → W p l e R s m args below meth c H1 locs1 cells slots Q (F0 m (pc + 3) ls (.int r :: rest))) : W p l e R s m args below meth c H locs cells slots Q (F0 m pc ls st0) := by
  refine va_calli hr hS (fun _ _ h => h) (fun _ h => h) (fun r1 u t H1 locs1 ht hvm hp hB hz hk hS1 => ?_)
  obtain ⟨rfl, hx⟩ := hp
  exact kk H1 locs1 (by rw [← ht]; exact hB.1) hS1 hx
theorem gx_rV {a : Array Value} {τ : Hp} (hr : va_Run p l e R s m args below meth c H locs cells slots 0 0 (F0 m pc ls st0) rest (va_Qv (fun (_ : Unit) => xT σ τ) (fun _ t => GS D cA base ad τ t) (bA base) a) (bA base)) (hS : va_S (bA base) s.heap H locs)
    (kk : ∀ (H1 : Heap) (locs1 : List Loc), GW D cA base ad τ H1 → va_S (bA base) s.heap H1 locs1 → xT σ τ → W p l e R s m args below meth c H1 locs1 cells slots Q (F0 m (pc + 3) ls rest)) : W p l e R s m args below meth c H locs cells slots Q (F0 m pc ls st0) := by
  refine va_callv hr hS (fun _ _ h => h) (fun _ h => h) (fun u t H1 locs1 ht hvm hp hB hz hk hS1 => ?_)
  exact kk H1 locs1 (by rw [← ht]; exact hB.1) hS1 hp
theorem gx_rL {a : Array Value} {r : Int64} {τ : Hp} (hr : va_Run p l e R s m args below meth c H locs cells slots 0 0 (F0 m pc ls st0) rest (va_Ql (fun v (_ : Unit) => v = r ∧ xT σ τ) (fun _ t => GS D cA base ad τ t) (bA base) a) (bA base)) (hS : va_S (bA base) s.heap H locs)
    (kk : ∀ (H1 : Heap) (locs1 : List Loc), GW D cA base ad τ H1 → va_S (bA base) s.heap H1 locs1 → xT σ τ → W p l e R s m args below meth c H1 locs1 cells slots Q (F0 m (pc + 3) ls (.long r :: rest))) : W p l e R s m args below meth c H locs cells slots Q (F0 m pc ls st0) := by
  refine va_calll hr hS (fun _ _ h => h) (fun _ h => h) (fun r1 u t H1 locs1 ht hvm hp hB hz hk hS1 => ?_)
  obtain ⟨rfl, hx⟩ := hp
  exact kk H1 locs1 (by rw [← ht]; exact hB.1) hS1 hx
theorem gx_rQ {a : Array Value} {r : Option Nat} {τ : Hp} {t0 : Nat} (hr : va_Run p l e R s m args below meth c H locs cells slots 0 0 (F0 m pc ls st0) rest (va_Qq (fun v (_ : Unit) => v = r.map ad ∧ xT σ τ ∧ oT τ r t0) (fun _ t => GS D cA base ad τ t) (bA base) a) (bA base)) (hS : va_S (bA base) s.heap H locs)
    (kk : ∀ (H1 : Heap) (locs1 : List Loc), GW D cA base ad τ H1 → va_S (bA base) s.heap H1 locs1 → xT σ τ → oT τ r t0 → W p l e R s m args below meth c H1 locs1 cells slots Q (F0 m (pc + 3) ls (va_rf (r.map ad) :: rest))) : W p l e R s m args below meth c H locs cells slots Q (F0 m pc ls st0) := by
  refine va_callq hr hS (fun _ _ h => h) (fun _ h => h) (fun r1 u t H1 locs1 ht hvm hp hB hz hk hS1 => ?_)
  obtain ⟨rfl, hx, ho⟩ := hp
  exact kk H1 locs1 (by rw [← ht]; exact hB.1) hS1 hx ho
end CALLS
end
section
/-! references that may be null; the TURNS' kinds; Math -/
theorem gw_T {D : va_G} {cA : Nat → ClassId} {base : Nat} {ad : Nat → Nat} {σ : Hp} {H : Heap} {i j t k : Nat} (hG : GW D cA base ad σ H) (h : hT σ i t) (ht : t < 100) (hr : hR σ i j = some k) : hT σ k (rT t j) := by
  have h2 := hG.2.2.2 i h.1 j k hr
  rw [h.eq ht] at h2
  exact h2
theorem gw_O {D : va_G} {cA : Nat → ClassId} {base : Nat} {ad : Nat → Nat} {σ : Hp} {H : Heap} {i j t : Nat} (hG : GW D cA base ad σ H) (h : hT σ i t) (ht : t < 100) : oT σ (hR σ i j) (rT t j) := fun k hr => gw_T hG h ht hr
theorem nz_b {v : Int32} (h : v = 0 ∨ v = 1) : narrow .boolean (.int v) = .int v := by rcases h with rfl | rfl <;> rfl
theorem fz_b {v : Int32} (h : v = 0 ∨ v = 1) : fits .boolean (.int v) = true := by rcases h with rfl | rfl <;> rfl
theorem ne_lit {x k : Int32} {z : Int} (h : ¬ x = k) (hk : k.toInt = z) : x.toInt ≠ z := fun e => h (Int32.toInt_inj.mp (e.trans hk.symm))
theorem isT_100 {t k : Nat} (h : isT t k = true) (ht : t = 100 ∨ t = 101 ∨ t = 102 ∨ t = 103) : k = 0 ∨ k = 2 ∨ k = 4 ∨ k = 6 ∨ k = 7 ∨ k = 8 ∨ k = 9 ∨ k = 10 := by
  rcases ht with rfl | rfl | rfl | rfl <;> simp only [isT, Bool.or_eq_true, beq_iff_eq] at h <;> omega
theorem hT.up {σ : Hp} {i t : Nat} (h : hT σ i t) (ht : t = 0 ∨ t = 2 ∨ t = 4 ∨ t = 6 ∨ t = 7 ∨ t = 8 ∨ t = 9 ∨ t = 10 ∨ t = 100 ∨ t = 101 ∨ t = 102 ∨ t = 103) : hT σ i 100 := by
  refine ⟨h.1, ?_⟩
  have h2 := h.2
  rcases ht with rfl | rfl | rfl | rfl | rfl | rfl | rfl | rfl | rfl | rfl | rfl | rfl <;> simp only [isT, Bool.or_eq_true, beq_iff_eq] at h2 ⊢ <;> omega
theorem hT.of {σ : Hp} {i t k : Nat} (h : hT σ i t) (hk : hK σ i = k) (ht : isT k k = true) : hT σ i k := ⟨h.1, by rw [hk]; exact ht⟩
/-- what all TURNS have alike -/
theorem turnK {k : Nat} (h : k = 0 ∨ k = 2 ∨ k = 4 ∨ k = 6 ∨ k = 7 ∨ k = 8 ∨ k = 9 ∨ k = 10) : ∃ (C : String) (T : u_T), vwCl[k]? = some (C, T, 8) ∧ (∀ w ∈ u_ws C T 8, w ∈ TB) ∧ T = TX10 ∧ k < 13 ∧ fR k = [false, false, false, false, false, false, false, true] ∧ rT k 7 = 1 := by
  rcases h with rfl | rfl | rfl | rfl | rfl | rfl | rfl | rfl
  · exact ⟨_, _, rfl, inX0, by funext j; unfold TX0 TX10; split <;> rfl, by decide, rfl, rfl⟩
  · exact ⟨_, _, rfl, inX2, by funext j; unfold TX2 TX10; split <;> rfl, by decide, rfl, rfl⟩
  · exact ⟨_, _, rfl, inX4, by funext j; unfold TX4 TX10; split <;> rfl, by decide, rfl, rfl⟩
  · exact ⟨_, _, rfl, inX6, by funext j; unfold TX6 TX10; split <;> rfl, by decide, rfl, rfl⟩
  · exact ⟨_, _, rfl, inX7, by funext j; unfold TX7 TX10; split <;> rfl, by decide, rfl, rfl⟩
  · exact ⟨_, _, rfl, inX8, by funext j; unfold TX8 TX10; split <;> rfl, by decide, rfl, rfl⟩
  · exact ⟨_, _, rfl, inX9, by funext j; unfold TX9 TX10; split <;> rfl, by decide, rfl, rfl⟩
  · exact ⟨_, _, rfl, inX10, rfl, by decide, rfl, rfl⟩
section MORE
variable {p : Program} {l : Launch} {e : Env} {R : Room} {s : State} {m : MethodId} {args : Array Value} {below : List Frame} {meth : Method} {c : Code} {H : Heap} {locs : List Loc} {cells slots : Nat} {Q : State → Prop}
variable {D : va_G} {cA : Nat → ClassId} {base : Nat} {ad : Nat → Nat} {σ : Hp} {cc : ByteArray} {nL : Nat} {ret : Option FieldType} {own : String}
variable {pc : Nat} {ls : Array Slot} {rest : List Value} {ρ : Type} {rr : ρ}
/-- a field of a TURN of any kind: the int fields, and its LAW -/
theorem gx_getT {ref : String} {index i : Nat} (j : Nat) {v : Value} (X : SX D cA base p s m args meth c cc nL ret own) (hG : GW D cA base ad σ H) (h : hT σ i 100) (hj : j < 8) (hlink : Cond.fieldLink own index ref (TX10 j).2.1 (TX10 j).2.2.1 ∈ TB) (hsame : ∀ x, s.fieldFound? (TX10 j).1 (TX10 j).2.1 (TX10 j).2.2.1 = some x → s.fieldFound? ref (TX10 j).2.1 (TX10 j).2.2.1 = some x) (hv : (flds ad σ i 0 [false, false, false, false, false, false, false, true])[j]? = some v) (hdg : decode cc pc = .ok (.getfield index, 3))
    (kk : W p l e R s m args below meth c H locs cells slots Q (F0 m (pc + 3) ls (v :: rest))) : W p l e R s m args below meth c H locs cells slots Q (F0 m pc ls (.ref (ad i) :: rest)) := by
  obtain ⟨C, T, h1, h2, rfl, h3, h4, -⟩ := turnK (isT_100 h.2 (Or.inl rfl))
  exact gx_get j X hG h.1 rfl h3 h1 h2 hj hlink hsame (by rw [h4]; exact hv) hdg kk
theorem gw_law {i : Nat} (hG : GW D cA base ad σ H) (h : hT σ i 100) : oT σ (hR σ i 7) 1 := by
  obtain ⟨C, T, h1, h2, rfl, h3, h4, h5⟩ := turnK (isT_100 h.2 (Or.inl rfl))
  have h6 := hG.2.2.2 i h.1 7
  rw [h5] at h6
  exact h6
theorem gx_aload_n {k : Fin 4} {i : Nat} {r : Option Nat} (hexec : p.tables.exec = Jvm.exec) (hb : c.code = cc) (hdg : decode cc pc = .ok (.aload_n k, 1)) (hi : (k : Nat) = i) (hl : ls[i]? = some (.val (va_rf r)))
    (kk : W p l e R s m args below meth c H locs cells slots Q (F0 m (pc + 1) ls (va_rf r :: rest))) : W p l e R s m args below meth c H locs cells slots Q (F0 m pc ls rest) := by
  cases r with
  | none => exact lv_aload_nN hexec hb hdg hi hl kk
  | some a => exact lv_aload_n hexec hb hdg hi hl kk
theorem gx_aload {i : Nat} {r : Option Nat} (hexec : p.tables.exec = Jvm.exec) (hb : c.code = cc) (hdg : decode cc pc = .ok (.aload i, 2)) (hl : ls[i]? = some (.val (va_rf r)))
    (kk : W p l e R s m args below meth c H locs cells slots Q (F0 m (pc + 2) ls (va_rf r :: rest))) : W p l e R s m args below meth c H locs cells slots Q (F0 m pc ls rest) := by
  cases r with
  | none => exact lv_aloadN hexec hb hdg hl kk
  | some a => exact lv_aload hexec hb hdg hl kk
theorem gx_astore_n {k : Fin 4} {i : Nat} {r : Option Nat} {lv lv' : List (Nat × Value)} (hexec : p.tables.exec = Jvm.exec) (hb : c.code = cc) (hdg : decode cc pc = .ok (.astore_n k, 1)) (hi : (k : Nat) = i) (h : lv_has ls nL lv) (hn : i < nL) (hl : (i, va_rf r) :: lv.filter (fun q => !(q.1 == i) && !(q.1 + 1 == i && q.2.category == 2)) = lv')
    (kk : ∀ ls', lv_has ls' nL lv' → W p l e R s m args below meth c H locs cells slots Q (F0 m (pc + 1) ls' rest)) : W p l e R s m args below meth c H locs cells slots Q (F0 m pc ls (va_rf r :: rest)) := by
  cases r with
  | none => exact lv_astore_nN hexec hb hdg hi h hn hl kk
  | some a => exact lv_astore_n hexec hb hdg hi h hn hl kk
theorem gx_astore {i : Nat} {r : Option Nat} {lv lv' : List (Nat × Value)} (hexec : p.tables.exec = Jvm.exec) (hb : c.code = cc) (hdg : decode cc pc = .ok (.astore i, 2)) (h : lv_has ls nL lv) (hn : i < nL) (hl : (i, va_rf r) :: lv.filter (fun q => !(q.1 == i) && !(q.1 + 1 == i && q.2.category == 2)) = lv')
    (kk : ∀ ls', lv_has ls' nL lv' → W p l e R s m args below meth c H locs cells slots Q (F0 m (pc + 2) ls' rest)) : W p l e R s m args below meth c H locs cells slots Q (F0 m pc ls (va_rf r :: rest)) := by
  cases r with
  | none => exact lv_astoreN hexec hb hdg h hn hl kk
  | some a => exact lv_astore hexec hb hdg h hn hl kk
theorem gx_ifnull {off : Int} {tgt : Nat} {r : Option Nat} {a : Option ρ} {f : Nat → Option ρ} (hexec : p.tables.exec = Jvm.exec) (hb : c.code = cc) (hdg : decode cc pc = .ok (.ifnull off, 3)) (ht : (pc : Int) + off = (tgt : Int)) (hF : om r a f = some rr)
    (kn : r = none → a = some rr → W p l e R s m args below meth c H locs cells slots Q (F0 m tgt ls rest)) (ks : ∀ i, r = some i → f i = some rr → W p l e R s m args below meth c H locs cells slots Q (F0 m (pc + 3) ls rest)) : W p l e R s m args below meth c H locs cells slots Q (F0 m pc ls (va_rf (Option.map ad r) :: rest)) := by
  cases r with
  | none => exact lv_ifnullN hexec hb hdg ht (kn rfl hF)
  | some i => exact lv_ifnull hexec hb hdg (ks i rfl hF)
theorem gx_ifnonnull {off : Int} {tgt : Nat} {r : Option Nat} {a : Option ρ} {f : Nat → Option ρ} (hexec : p.tables.exec = Jvm.exec) (hb : c.code = cc) (hdg : decode cc pc = .ok (.ifnonnull off, 3)) (ht : (pc : Int) + off = (tgt : Int)) (hF : om r a f = some rr)
    (kn : r = none → a = some rr → W p l e R s m args below meth c H locs cells slots Q (F0 m (pc + 3) ls rest)) (ks : ∀ i, r = some i → f i = some rr → W p l e R s m args below meth c H locs cells slots Q (F0 m tgt ls rest)) : W p l e R s m args below meth c H locs cells slots Q (F0 m pc ls (va_rf (Option.map ad r) :: rest)) := by
  cases r with
  | none => exact lv_ifnonnullN hexec hb hdg (kn rfl hF)
  | some i => exact lv_ifnonnull hexec hb hdg ht (ks i rfl hF)
theorem qa_row {σ : Hp} {i j : Nat} {ad : Nat → Nat} {x : Option Nat} {f : Nat → Option Nat} (hf : f = fun j => (hR σ i j).map ad) : va_up f j (x.map ad) = va_up (fun j => (hR σ i j).map ad) j (x.map ad) := by rw [hf]
/-- into a row of references: null, or one whose class is the row's own -/
theorem gx_qast {i t0 k0 ci : Nat} {r : vw_C} {x : Int32} {v : Option Nat} {f : Hp → Option ρ} (X : SX D cA base p s m args meth c cc nL ret own) (hG : GW D cA base ad σ H) (hS : va_S (bA base) s.heap H locs) (h : hT σ i k0) (h1 : 13 < k0) (h2 : k0 < 17) (ht : (tyl cA)[t0]? = some (cA k0, .object r.1)) (hc : vwCl[ci]? = some r) (hci : ci < 13) (hv : oT σ v ci) (hrt : rT k0 x.toNatClampNeg = ci) (hF : ck (¬ (x < 0 ∨ hL σ i ≤ x.toNatClampNeg)) (lt (pR σ i x.toNatClampNeg v) f) = some rr) (hdg : decode cc pc = .ok (.aastore, 1))
    (kk : ∀ (τ : Hp) (H1 : Heap) (locs1 : List Loc), GW D cA base ad τ H1 → va_S (bA base) s.heap H1 locs1 → xT σ τ → f τ = some rr → W p l e R s m args below meth c H1 locs1 cells slots Q (F0 m (pc + 1) ls rest)) : W p l e R s m args below meth c H locs cells slots Q (F0 m pc ls (va_rf (v.map ad) :: .int x :: .ref (ad i) :: rest)) := by
  have hk := h.eq (show k0 < 100 by omega)
  cases v with
  | none => exact va_astqN X.1 X.2.1 X.2.2.2.2.2.2.2.1 hG.P hG.D hS i t0 (by rw [wl_at h.1, cell_q hk h1 h2]) ht (ck_ex hF).1 hdg (fun H1 locs1 hP _ hS1 => kk _ H1 locs1 (GW_pQ hG h.1 hk h1 h2 oT.none hP) hS1 (xT.R σ i _ none) (ck_ex hF).2)
  | some a =>
    have ha := hv a rfl
    exact va_astq X.1 X.2.1 X.2.2.2.2.2.2.2.1 hG.P hG.D hS i t0 a ci (by rw [wl_at h.1, cell_q hk h1 h2]) ht (by rw [wl_at ha.1, cell_obj (ha.eq (show ci < 100 by omega)) hci]) hc (ck_ex hF).1 hdg (fun H1 locs1 hP _ hS1 => kk _ H1 locs1 (GW_pQ (x := some a) hG h.1 hk h1 h2 (by rw [hrt]; exact hv) hP) hS1 (xT.R σ i _ (some a)) (ck_ex hF).2)
/-- a TURN of any kind into a row of TURNS -/
theorem gx_qastT {i : Nat} {x : Int32} {v : Option Nat} {f : Hp → Option ρ} (X : SX D cA base p s m args meth c cc nL ret own) (hG : GW D cA base ad σ H) (hS : va_S (bA base) s.heap H locs) (h : hT σ i 16) (hv : oT σ v 100) (hF : ck (¬ (x < 0 ∨ hL σ i ≤ x.toNatClampNeg)) (lt (pR σ i x.toNatClampNeg v) f) = some rr) (hdg : decode cc pc = .ok (.aastore, 1))
    (kk : ∀ (τ : Hp) (H1 : Heap) (locs1 : List Loc), GW D cA base ad τ H1 → va_S (bA base) s.heap H1 locs1 → xT σ τ → f τ = some rr → W p l e R s m args below meth c H1 locs1 cells slots Q (F0 m (pc + 1) ls rest)) : W p l e R s m args below meth c H locs cells slots Q (F0 m pc ls (va_rf (v.map ad) :: .int x :: .ref (ad i) :: rest)) := by
  have hk := h.eq (show 16 < 100 by decide)
  cases v with
  | none => exact va_astqN X.1 X.2.1 X.2.2.2.2.2.2.2.1 hG.P hG.D hS i 3 (by rw [wl_at h.1, cell_q hk (by decide) (by decide)]) rfl (ck_ex hF).1 hdg (fun H1 locs1 hP _ hS1 => kk _ H1 locs1 (GW_pQ hG h.1 hk (by decide) (by decide) oT.none hP) hS1 (xT.R σ i _ none) (ck_ex hF).2)
  | some a =>
    have ha := hv a rfl
    have go : ∀ H1 locs1, va_P D vwCl ((wl cA ad σ).set i (ad i, .inl (cA 16, hL σ i, .inr (.inr (.inr (.inr (va_up (fun j => (hR σ i j).map ad) x.toNatClampNeg (some (ad a))))))))) H1 → va_D (bA base) ((wl cA ad σ).set i (ad i, .inl (cA 16, hL σ i, .inr (.inr (.inr (.inr (va_up (fun j => (hR σ i j).map ad) x.toNatClampNeg (some (ad a))))))))) → va_S (bA base) s.heap H1 locs1 → W p l e R s m args below meth c H1 locs1 cells slots Q (F0 m (pc + 1) ls rest) := fun H1 locs1 hP _ hS1 => kk _ H1 locs1 (GW_pQ (x := some a) hG h.1 hk (by decide) (by decide) hv hP) hS1 (xT.R σ i _ (some a)) (ck_ex hF).2
    have hq : (wl cA ad σ)[i]? = some (ad i, .inl (cA 16, hL σ i, .inr (.inr (.inr (.inr (fun j => (hR σ i j).map ad)))))) := by rw [wl_at h.1, cell_q hk (by decide) (by decide)]
    have hcx : ∀ w ∈ CXL, va_Nw w s := X.2.2.2.2.2.2.2.2.1.2.1
    generalize hka : hK σ a = k
    have hkk := isT_100 ha.2 (Or.inl rfl)
    rw [hka] at hkk
    rcases hkk with rfl | rfl | rfl | rfl | rfl | rfl | rfl | rfl
    · exact va_astqO X.1 X.2.1 X.2.2.2.2.2.2.2.1 hG.P hG.D hS i 3 a 0 hq rfl (r := (RX0, TX0, 8)) (hcx _ (by decide +kernel)) (by rw [wl_at ha.1, cell_obj hka (by decide)]) rfl (ck_ex hF).1 hdg go
    · exact va_astqO X.1 X.2.1 X.2.2.2.2.2.2.2.1 hG.P hG.D hS i 3 a 2 hq rfl (r := (RX2, TX2, 8)) (hcx _ (by decide +kernel)) (by rw [wl_at ha.1, cell_obj hka (by decide)]) rfl (ck_ex hF).1 hdg go
    · exact va_astqO X.1 X.2.1 X.2.2.2.2.2.2.2.1 hG.P hG.D hS i 3 a 4 hq rfl (r := (RX4, TX4, 8)) (hcx _ (by decide +kernel)) (by rw [wl_at ha.1, cell_obj hka (by decide)]) rfl (ck_ex hF).1 hdg go
    · exact va_astqO X.1 X.2.1 X.2.2.2.2.2.2.2.1 hG.P hG.D hS i 3 a 6 hq rfl (r := (RX6, TX6, 8)) (hcx _ (by decide +kernel)) (by rw [wl_at ha.1, cell_obj hka (by decide)]) rfl (ck_ex hF).1 hdg go
    · exact va_astqO X.1 X.2.1 X.2.2.2.2.2.2.2.1 hG.P hG.D hS i 3 a 7 hq rfl (r := (RX7, TX7, 8)) (hcx _ (by decide +kernel)) (by rw [wl_at ha.1, cell_obj hka (by decide)]) rfl (ck_ex hF).1 hdg go
    · exact va_astqO X.1 X.2.1 X.2.2.2.2.2.2.2.1 hG.P hG.D hS i 3 a 8 hq rfl (r := (RX8, TX8, 8)) (hcx _ (by decide +kernel)) (by rw [wl_at ha.1, cell_obj hka (by decide)]) rfl (ck_ex hF).1 hdg go
    · exact va_astqO X.1 X.2.1 X.2.2.2.2.2.2.2.1 hG.P hG.D hS i 3 a 9 hq rfl (r := (RX9, TX9, 8)) (hcx _ (by decide +kernel)) (by rw [wl_at ha.1, cell_obj hka (by decide)]) rfl (ck_ex hF).1 hdg go
    · exact va_astq X.1 X.2.1 X.2.2.2.2.2.2.2.1 hG.P hG.D hS i 3 a 10 hq (r := (RX10, TX10, 8)) rfl (by rw [wl_at ha.1, cell_obj hka (by decide)]) rfl (ck_ex hF).1 hdg go
end MORE
end
