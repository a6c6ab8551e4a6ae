section
-- ===== PART A: goes FIRST, ahead of the names: the tables' words, and 'selects' of the private methods out of them =====
/-- a private method of a class that the tables say can be made, by its rows of tables_1 -/
def lw_okq (q : MethodName × Nat) : Prop := (q.1.cls ≠ "java/lang/invoke/MethodHandle" ∧ q.1.cls ≠ "java/lang/invoke/VarHandle") ∧ Cond.instantiable q.1.cls q.2 ∈ tables_1 ∧ Cond.privateMethod q.1 ∈ tables_1 ∧ Cond.instanceMethod q.1 ∈ tables_1
theorem lw_p0 : lw_okq (⟨"LastUseDesk$Machine", "writeIfDirty", "(I)V"⟩, 8) := ⟨⟨by decide +kernel, by decide +kernel⟩, List.mem_of_getElem? (i := 160) (by decide +kernel), List.mem_of_getElem? (i := 298) (by decide +kernel), List.mem_of_getElem? (i := 299) (by decide +kernel)⟩
theorem lw_p1 : lw_okq (⟨"LastUseDesk", "hitsContradictLog", "(I)Z"⟩, 7) := ⟨⟨by decide +kernel, by decide +kernel⟩, List.mem_of_getElem? (i := 20) (by decide +kernel), List.mem_of_getElem? (i := 361) (by decide +kernel), List.mem_of_getElem? (i := 362) (by decide +kernel)⟩
theorem lw_p2 : lw_okq (⟨"LastUseDesk", "hasKeyThatNextLacks", "(I)Z"⟩, 7) := ⟨⟨by decide +kernel, by decide +kernel⟩, List.mem_of_getElem? (i := 20) (by decide +kernel), List.mem_of_getElem? (i := 369) (by decide +kernel), List.mem_of_getElem? (i := 370) (by decide +kernel)⟩
theorem lw_p3 : lw_okq (⟨"LastUseDesk", "chosenMap", "(I)LLastUseDesk$UseMap;"⟩, 7) := ⟨⟨by decide +kernel, by decide +kernel⟩, List.mem_of_getElem? (i := 20) (by decide +kernel), List.mem_of_getElem? (i := 397) (by decide +kernel), List.mem_of_getElem? (i := 398) (by decide +kernel)⟩
theorem lw_p4 : lw_okq (⟨"java/lang/Throwable", "fillInStackTrace", "(I)Ljava/lang/Throwable;"⟩, 6) := ⟨⟨by decide +kernel, by decide +kernel⟩, List.mem_of_getElem? (i := 443) (by decide +kernel), List.mem_of_getElem? (i := 441) (by decide +kernel), List.mem_of_getElem? (i := 442) (by decide +kernel)⟩
theorem lw_p5 : lw_okq (⟨"LastUseDesk$UseMap", "recordOut", "(I)V"⟩, 6) := ⟨⟨by decide +kernel, by decide +kernel⟩, List.mem_of_getElem? (i := 28) (by decide +kernel), List.mem_of_getElem? (i := 505) (by decide +kernel), List.mem_of_getElem? (i := 506) (by decide +kernel)⟩
theorem lw_p6 : lw_okq (⟨"LastUseDesk", "askCaches", "(I)I"⟩, 7) := ⟨⟨by decide +kernel, by decide +kernel⟩, List.mem_of_getElem? (i := 20) (by decide +kernel), List.mem_of_getElem? (i := 766) (by decide +kernel), List.mem_of_getElem? (i := 767) (by decide +kernel)⟩
theorem lw_p7 : lw_okq (⟨"LastUseDesk$RequestLog", "distanceTo", "(I)I"⟩, 4) := ⟨⟨by decide +kernel, by decide +kernel⟩, List.mem_of_getElem? (i := 85) (by decide +kernel), List.mem_of_getElem? (i := 780) (by decide +kernel), List.mem_of_getElem? (i := 781) (by decide +kernel)⟩
theorem lw_p8 : lw_okq (⟨"LastUseDesk", "chosenCache", "(I)LLastUseDesk$Cache;"⟩, 7) := ⟨⟨by decide +kernel, by decide +kernel⟩, List.mem_of_getElem? (i := 20) (by decide +kernel), List.mem_of_getElem? (i := 794) (by decide +kernel), List.mem_of_getElem? (i := 795) (by decide +kernel)⟩
theorem lw_p9 : lw_okq (⟨"LastUseDesk$ProgramReader", "pass", "(I)V"⟩, 3) := ⟨⟨by decide +kernel, by decide +kernel⟩, List.mem_of_getElem? (i := 106) (by decide +kernel), List.mem_of_getElem? (i := 891) (by decide +kernel), List.mem_of_getElem? (i := 892) (by decide +kernel)⟩
theorem lw_p10 : lw_okq (⟨"LastUseDesk$ProgramReader", "readPart", "()Z"⟩, 3) := ⟨⟨by decide +kernel, by decide +kernel⟩, List.mem_of_getElem? (i := 106) (by decide +kernel), List.mem_of_getElem? (i := 903) (by decide +kernel), List.mem_of_getElem? (i := 904) (by decide +kernel)⟩
theorem lw_p11 : lw_okq (⟨"LastUseDesk$ProgramReader", "readStep", "(I)Z"⟩, 3) := ⟨⟨by decide +kernel, by decide +kernel⟩, List.mem_of_getElem? (i := 106) (by decide +kernel), List.mem_of_getElem? (i := 907) (by decide +kernel), List.mem_of_getElem? (i := 908) (by decide +kernel)⟩
theorem lw_p12 : lw_okq (⟨"LastUseDesk$ProgramReader", "readNumber", "(II)I"⟩, 3) := ⟨⟨by decide +kernel, by decide +kernel⟩, List.mem_of_getElem? (i := 106) (by decide +kernel), List.mem_of_getElem? (i := 911) (by decide +kernel), List.mem_of_getElem? (i := 912) (by decide +kernel)⟩
theorem lw_p13 : lw_okq (⟨"LastUseDesk$ProgramReader", "countDigits", "()I"⟩, 3) := ⟨⟨by decide +kernel, by decide +kernel⟩, List.mem_of_getElem? (i := 106) (by decide +kernel), List.mem_of_getElem? (i := 915) (by decide +kernel), List.mem_of_getElem? (i := 916) (by decide +kernel)⟩
theorem lw_p14 : lw_okq (⟨"LastUseDesk$ProgramReader", "readSign", "(I)Z"⟩, 3) := ⟨⟨by decide +kernel, by decide +kernel⟩, List.mem_of_getElem? (i := 106) (by decide +kernel), List.mem_of_getElem? (i := 922) (by decide +kernel), List.mem_of_getElem? (i := 923) (by decide +kernel)⟩
theorem lw_p15 : lw_okq (⟨"LastUseDesk$ProgramReader", "readLoopStart", "()Z"⟩, 3) := ⟨⟨by decide +kernel, by decide +kernel⟩, List.mem_of_getElem? (i := 106) (by decide +kernel), List.mem_of_getElem? (i := 930) (by decide +kernel), List.mem_of_getElem? (i := 931) (by decide +kernel)⟩
def lw_privs_1 : List (MethodName × Nat) := [(⟨"LastUseDesk$Machine", "writeIfDirty", "(I)V"⟩, 8), (⟨"LastUseDesk", "hitsContradictLog", "(I)Z"⟩, 7), (⟨"LastUseDesk", "hasKeyThatNextLacks", "(I)Z"⟩, 7), (⟨"LastUseDesk", "chosenMap", "(I)LLastUseDesk$UseMap;"⟩, 7), (⟨"java/lang/Throwable", "fillInStackTrace", "(I)Ljava/lang/Throwable;"⟩, 6), (⟨"LastUseDesk$UseMap", "recordOut", "(I)V"⟩, 6), (⟨"LastUseDesk", "askCaches", "(I)I"⟩, 7), (⟨"LastUseDesk$RequestLog", "distanceTo", "(I)I"⟩, 4), (⟨"LastUseDesk", "chosenCache", "(I)LLastUseDesk$Cache;"⟩, 7), (⟨"LastUseDesk$ProgramReader", "pass", "(I)V"⟩, 3), (⟨"LastUseDesk$ProgramReader", "readPart", "()Z"⟩, 3), (⟨"LastUseDesk$ProgramReader", "readStep", "(I)Z"⟩, 3), (⟨"LastUseDesk$ProgramReader", "readNumber", "(II)I"⟩, 3), (⟨"LastUseDesk$ProgramReader", "countDigits", "()I"⟩, 3), (⟨"LastUseDesk$ProgramReader", "readSign", "(I)Z"⟩, 3), (⟨"LastUseDesk$ProgramReader", "readLoopStart", "()Z"⟩, 3)]
theorem lw_r1 : ∀ q ∈ lw_privs_1, lw_okq q := List.forall_mem_cons.mpr ⟨lw_p0, List.forall_mem_cons.mpr ⟨lw_p1, List.forall_mem_cons.mpr ⟨lw_p2, List.forall_mem_cons.mpr ⟨lw_p3, List.forall_mem_cons.mpr ⟨lw_p4, List.forall_mem_cons.mpr ⟨lw_p5, List.forall_mem_cons.mpr ⟨lw_p6, List.forall_mem_cons.mpr ⟨lw_p7, List.forall_mem_cons.mpr ⟨lw_p8, List.forall_mem_cons.mpr ⟨lw_p9, List.forall_mem_cons.mpr ⟨lw_p10, List.forall_mem_cons.mpr ⟨lw_p11, List.forall_mem_cons.mpr ⟨lw_p12, List.forall_mem_cons.mpr ⟨lw_p13, List.forall_mem_cons.mpr ⟨lw_p14, List.forall_mem_cons.mpr ⟨lw_p15, fun _ h => absurd h List.not_mem_nil⟩⟩⟩⟩⟩⟩⟩⟩⟩⟩⟩⟩⟩⟩⟩⟩
theorem lw_p16 : lw_okq (⟨"LastUseDesk$ProgramReader", "readLoopEnd", "()Z"⟩, 3) := ⟨⟨by decide +kernel, by decide +kernel⟩, List.mem_of_getElem? (i := 106) (by decide +kernel), List.mem_of_getElem? (i := 942) (by decide +kernel), List.mem_of_getElem? (i := 943) (by decide +kernel)⟩
theorem lw_p17 : lw_okq (⟨"LastUseDesk", "performStep", "(II)V"⟩, 7) := ⟨⟨by decide +kernel, by decide +kernel⟩, List.mem_of_getElem? (i := 20) (by decide +kernel), List.mem_of_getElem? (i := 974) (by decide +kernel), List.mem_of_getElem? (i := 975) (by decide +kernel)⟩
theorem lw_p18 : lw_okq (⟨"LastUseDesk$Machine", "access", "(I)V"⟩, 8) := ⟨⟨by decide +kernel, by decide +kernel⟩, List.mem_of_getElem? (i := 160) (by decide +kernel), List.mem_of_getElem? (i := 982) (by decide +kernel), List.mem_of_getElem? (i := 983) (by decide +kernel)⟩
theorem lw_p19 : lw_okq (⟨"LastUseDesk$Machine", "storeWord", "(II)V"⟩, 8) := ⟨⟨by decide +kernel, by decide +kernel⟩, List.mem_of_getElem? (i := 160) (by decide +kernel), List.mem_of_getElem? (i := 993) (by decide +kernel), List.mem_of_getElem? (i := 994) (by decide +kernel)⟩
theorem lw_p20 : lw_okq (⟨"LastUseDeskModel", "noPair", "(III)Z"⟩, 36) := ⟨⟨by decide +kernel, by decide +kernel⟩, List.mem_of_getElem? (i := 1055) (by decide +kernel), List.mem_of_getElem? (i := 1174) (by decide +kernel), List.mem_of_getElem? (i := 1175) (by decide +kernel)⟩
theorem lw_p21 : lw_okq (⟨"LastUseDeskModel", "noKey", "(II)Z"⟩, 36) := ⟨⟨by decide +kernel, by decide +kernel⟩, List.mem_of_getElem? (i := 1055) (by decide +kernel), List.mem_of_getElem? (i := 1178) (by decide +kernel), List.mem_of_getElem? (i := 1179) (by decide +kernel)⟩
theorem lw_p22 : lw_okq (⟨"LastUseDeskModel", "noMap", "(I)Z"⟩, 36) := ⟨⟨by decide +kernel, by decide +kernel⟩, List.mem_of_getElem? (i := 1055) (by decide +kernel), List.mem_of_getElem? (i := 1182) (by decide +kernel), List.mem_of_getElem? (i := 1183) (by decide +kernel)⟩
theorem lw_p23 : lw_okq (⟨"LastUseDeskModel", "fails", "(ZI)Z"⟩, 36) := ⟨⟨by decide +kernel, by decide +kernel⟩, List.mem_of_getElem? (i := 1055) (by decide +kernel), List.mem_of_getElem? (i := 1189) (by decide +kernel), List.mem_of_getElem? (i := 1190) (by decide +kernel)⟩
theorem lw_p24 : lw_okq (⟨"LastUseDeskModel", "ends", "(I)V"⟩, 36) := ⟨⟨by decide +kernel, by decide +kernel⟩, List.mem_of_getElem? (i := 1055) (by decide +kernel), List.mem_of_getElem? (i := 1193) (by decide +kernel), List.mem_of_getElem? (i := 1194) (by decide +kernel)⟩
theorem lw_p25 : lw_okq (⟨"LastUseDeskModel", "placeIn", "(II)I"⟩, 36) := ⟨⟨by decide +kernel, by decide +kernel⟩, List.mem_of_getElem? (i := 1055) (by decide +kernel), List.mem_of_getElem? (i := 1197) (by decide +kernel), List.mem_of_getElem? (i := 1198) (by decide +kernel)⟩
theorem lw_p26 : lw_okq (⟨"LastUseDeskModel", "takes", "(II)I"⟩, 36) := ⟨⟨by decide +kernel, by decide +kernel⟩, List.mem_of_getElem? (i := 1055) (by decide +kernel), List.mem_of_getElem? (i := 1201) (by decide +kernel), List.mem_of_getElem? (i := 1202) (by decide +kernel)⟩
theorem lw_p27 : lw_okq (⟨"LastUseDeskModel", "comes", "(III)V"⟩, 36) := ⟨⟨by decide +kernel, by decide +kernel⟩, List.mem_of_getElem? (i := 1055) (by decide +kernel), List.mem_of_getElem? (i := 1205) (by decide +kernel), List.mem_of_getElem? (i := 1206) (by decide +kernel)⟩
theorem lw_p28 : lw_okq (⟨"LastUseDeskModel", "uses", "(II)I"⟩, 36) := ⟨⟨by decide +kernel, by decide +kernel⟩, List.mem_of_getElem? (i := 1055) (by decide +kernel), List.mem_of_getElem? (i := 1213) (by decide +kernel), List.mem_of_getElem? (i := 1214) (by decide +kernel)⟩
theorem lw_p29 : lw_okq (⟨"LastUseDeskModel", "noPlace", "(II)Z"⟩, 36) := ⟨⟨by decide +kernel, by decide +kernel⟩, List.mem_of_getElem? (i := 1055) (by decide +kernel), List.mem_of_getElem? (i := 1253) (by decide +kernel), List.mem_of_getElem? (i := 1254) (by decide +kernel)⟩
theorem lw_p30 : lw_okq (⟨"LastUseDeskModel", "asks", "(I)I"⟩, 36) := ⟨⟨by decide +kernel, by decide +kernel⟩, List.mem_of_getElem? (i := 1055) (by decide +kernel), List.mem_of_getElem? (i := 1297) (by decide +kernel), List.mem_of_getElem? (i := 1298) (by decide +kernel)⟩
theorem lw_p31 : lw_okq (⟨"LastUseDeskModel", "cachePlace", "(II)I"⟩, 36) := ⟨⟨by decide +kernel, by decide +kernel⟩, List.mem_of_getElem? (i := 1055) (by decide +kernel), List.mem_of_getElem? (i := 1301) (by decide +kernel), List.mem_of_getElem? (i := 1302) (by decide +kernel)⟩
def lw_privs_2 : List (MethodName × Nat) := [(⟨"LastUseDesk$ProgramReader", "readLoopEnd", "()Z"⟩, 3), (⟨"LastUseDesk", "performStep", "(II)V"⟩, 7), (⟨"LastUseDesk$Machine", "access", "(I)V"⟩, 8), (⟨"LastUseDesk$Machine", "storeWord", "(II)V"⟩, 8), (⟨"LastUseDeskModel", "noPair", "(III)Z"⟩, 36), (⟨"LastUseDeskModel", "noKey", "(II)Z"⟩, 36), (⟨"LastUseDeskModel", "noMap", "(I)Z"⟩, 36), (⟨"LastUseDeskModel", "fails", "(ZI)Z"⟩, 36), (⟨"LastUseDeskModel", "ends", "(I)V"⟩, 36), (⟨"LastUseDeskModel", "placeIn", "(II)I"⟩, 36), (⟨"LastUseDeskModel", "takes", "(II)I"⟩, 36), (⟨"LastUseDeskModel", "comes", "(III)V"⟩, 36), (⟨"LastUseDeskModel", "uses", "(II)I"⟩, 36), (⟨"LastUseDeskModel", "noPlace", "(II)Z"⟩, 36), (⟨"LastUseDeskModel", "asks", "(I)I"⟩, 36), (⟨"LastUseDeskModel", "cachePlace", "(II)I"⟩, 36)]
theorem lw_r2 : ∀ q ∈ lw_privs_2, lw_okq q := List.forall_mem_cons.mpr ⟨lw_p16, List.forall_mem_cons.mpr ⟨lw_p17, List.forall_mem_cons.mpr ⟨lw_p18, List.forall_mem_cons.mpr ⟨lw_p19, List.forall_mem_cons.mpr ⟨lw_p20, List.forall_mem_cons.mpr ⟨lw_p21, List.forall_mem_cons.mpr ⟨lw_p22, List.forall_mem_cons.mpr ⟨lw_p23, List.forall_mem_cons.mpr ⟨lw_p24, List.forall_mem_cons.mpr ⟨lw_p25, List.forall_mem_cons.mpr ⟨lw_p26, List.forall_mem_cons.mpr ⟨lw_p27, List.forall_mem_cons.mpr ⟨lw_p28, List.forall_mem_cons.mpr ⟨lw_p29, List.forall_mem_cons.mpr ⟨lw_p30, List.forall_mem_cons.mpr ⟨lw_p31, fun _ h => absurd h List.not_mem_nil⟩⟩⟩⟩⟩⟩⟩⟩⟩⟩⟩⟩⟩⟩⟩⟩
theorem lw_p32 : lw_okq (⟨"LastUseDeskModel", "leaves", "(II)V"⟩, 36) := ⟨⟨by decide +kernel, by decide +kernel⟩, List.mem_of_getElem? (i := 1055) (by decide +kernel), List.mem_of_getElem? (i := 1305) (by decide +kernel), List.mem_of_getElem? (i := 1306) (by decide +kernel)⟩
theorem lw_p33 : lw_okq (⟨"LastUseDeskModel", "noCache", "(I)Z"⟩, 36) := ⟨⟨by decide +kernel, by decide +kernel⟩, List.mem_of_getElem? (i := 1055) (by decide +kernel), List.mem_of_getElem? (i := 1317) (by decide +kernel), List.mem_of_getElem? (i := 1318) (by decide +kernel)⟩
theorem lw_p34 : lw_okq (⟨"LastUseDeskModel", "noRequest", "(I)Z"⟩, 36) := ⟨⟨by decide +kernel, by decide +kernel⟩, List.mem_of_getElem? (i := 1055) (by decide +kernel), List.mem_of_getElem? (i := 1341) (by decide +kernel), List.mem_of_getElem? (i := 1342) (by decide +kernel)⟩
theorem lw_p35 : lw_okq (⟨"LastUseDeskModel", "distance", "(I)I"⟩, 36) := ⟨⟨by decide +kernel, by decide +kernel⟩, List.mem_of_getElem? (i := 1055) (by decide +kernel), List.mem_of_getElem? (i := 1349) (by decide +kernel), List.mem_of_getElem? (i := 1350) (by decide +kernel)⟩
theorem lw_p36 : lw_okq (⟨"LastUseDeskModel", "nearerThan", "(I)I"⟩, 36) := ⟨⟨by decide +kernel, by decide +kernel⟩, List.mem_of_getElem? (i := 1055) (by decide +kernel), List.mem_of_getElem? (i := 1357) (by decide +kernel), List.mem_of_getElem? (i := 1358) (by decide +kernel)⟩
theorem lw_p37 : lw_okq (⟨"LastUseDeskModel", "takesBytes", "(I)V"⟩, 36) := ⟨⟨by decide +kernel, by decide +kernel⟩, List.mem_of_getElem? (i := 1055) (by decide +kernel), List.mem_of_getElem? (i := 1372) (by decide +kernel), List.mem_of_getElem? (i := 1373) (by decide +kernel)⟩
theorem lw_p38 : lw_okq (⟨"LastUseDeskModel", "readsAll", "()Z"⟩, 36) := ⟨⟨by decide +kernel, by decide +kernel⟩, List.mem_of_getElem? (i := 1055) (by decide +kernel), List.mem_of_getElem? (i := 1384) (by decide +kernel), List.mem_of_getElem? (i := 1385) (by decide +kernel)⟩
theorem lw_p39 : lw_okq (⟨"LastUseDeskModel", "reads", "()V"⟩, 36) := ⟨⟨by decide +kernel, by decide +kernel⟩, List.mem_of_getElem? (i := 1055) (by decide +kernel), List.mem_of_getElem? (i := 1388) (by decide +kernel), List.mem_of_getElem? (i := 1389) (by decide +kernel)⟩
theorem lw_p40 : lw_okq (⟨"LastUseDeskModel", "isSignNow", "(I)Z"⟩, 36) := ⟨⟨by decide +kernel, by decide +kernel⟩, List.mem_of_getElem? (i := 1055) (by decide +kernel), List.mem_of_getElem? (i := 1395) (by decide +kernel), List.mem_of_getElem? (i := 1396) (by decide +kernel)⟩
theorem lw_p41 : lw_okq (⟨"LastUseDeskModel", "readsItem", "(I)Z"⟩, 36) := ⟨⟨by decide +kernel, by decide +kernel⟩, List.mem_of_getElem? (i := 1055) (by decide +kernel), List.mem_of_getElem? (i := 1399) (by decide +kernel), List.mem_of_getElem? (i := 1400) (by decide +kernel)⟩
theorem lw_p42 : lw_okq (⟨"LastUseDeskModel", "takesNumber", "(II)Z"⟩, 36) := ⟨⟨by decide +kernel, by decide +kernel⟩, List.mem_of_getElem? (i := 1055) (by decide +kernel), List.mem_of_getElem? (i := 1403) (by decide +kernel), List.mem_of_getElem? (i := 1404) (by decide +kernel)⟩
theorem lw_p43 : lw_okq (⟨"LastUseDeskModel", "runs", "()I"⟩, 36) := ⟨⟨by decide +kernel, by decide +kernel⟩, List.mem_of_getElem? (i := 1055) (by decide +kernel), List.mem_of_getElem? (i := 1407) (by decide +kernel), List.mem_of_getElem? (i := 1408) (by decide +kernel)⟩
theorem lw_p44 : lw_okq (⟨"LastUseDeskModel", "does", "(II)V"⟩, 36) := ⟨⟨by decide +kernel, by decide +kernel⟩, List.mem_of_getElem? (i := 1055) (by decide +kernel), List.mem_of_getElem? (i := 1411) (by decide +kernel), List.mem_of_getElem? (i := 1412) (by decide +kernel)⟩
theorem lw_p45 : lw_okq (⟨"LastUseDeskModel", "accesses", "(I)V"⟩, 36) := ⟨⟨by decide +kernel, by decide +kernel⟩, List.mem_of_getElem? (i := 1055) (by decide +kernel), List.mem_of_getElem? (i := 1415) (by decide +kernel), List.mem_of_getElem? (i := 1416) (by decide +kernel)⟩
theorem lw_p46 : lw_okq (⟨"LastUseDeskModel", "pagePlace", "(I)I"⟩, 36) := ⟨⟨by decide +kernel, by decide +kernel⟩, List.mem_of_getElem? (i := 1055) (by decide +kernel), List.mem_of_getElem? (i := 1419) (by decide +kernel), List.mem_of_getElem? (i := 1420) (by decide +kernel)⟩
theorem lw_p47 : lw_okq (⟨"LastUseDeskModel", "out", "(I)V"⟩, 36) := ⟨⟨by decide +kernel, by decide +kernel⟩, List.mem_of_getElem? (i := 1055) (by decide +kernel), List.mem_of_getElem? (i := 1423) (by decide +kernel), List.mem_of_getElem? (i := 1424) (by decide +kernel)⟩
def lw_privs_3 : List (MethodName × Nat) := [(⟨"LastUseDeskModel", "leaves", "(II)V"⟩, 36), (⟨"LastUseDeskModel", "noCache", "(I)Z"⟩, 36), (⟨"LastUseDeskModel", "noRequest", "(I)Z"⟩, 36), (⟨"LastUseDeskModel", "distance", "(I)I"⟩, 36), (⟨"LastUseDeskModel", "nearerThan", "(I)I"⟩, 36), (⟨"LastUseDeskModel", "takesBytes", "(I)V"⟩, 36), (⟨"LastUseDeskModel", "readsAll", "()Z"⟩, 36), (⟨"LastUseDeskModel", "reads", "()V"⟩, 36), (⟨"LastUseDeskModel", "isSignNow", "(I)Z"⟩, 36), (⟨"LastUseDeskModel", "readsItem", "(I)Z"⟩, 36), (⟨"LastUseDeskModel", "takesNumber", "(II)Z"⟩, 36), (⟨"LastUseDeskModel", "runs", "()I"⟩, 36), (⟨"LastUseDeskModel", "does", "(II)V"⟩, 36), (⟨"LastUseDeskModel", "accesses", "(I)V"⟩, 36), (⟨"LastUseDeskModel", "pagePlace", "(I)I"⟩, 36), (⟨"LastUseDeskModel", "out", "(I)V"⟩, 36)]
theorem lw_r3 : ∀ q ∈ lw_privs_3, lw_okq q := List.forall_mem_cons.mpr ⟨lw_p32, List.forall_mem_cons.mpr ⟨lw_p33, List.forall_mem_cons.mpr ⟨lw_p34, List.forall_mem_cons.mpr ⟨lw_p35, List.forall_mem_cons.mpr ⟨lw_p36, List.forall_mem_cons.mpr ⟨lw_p37, List.forall_mem_cons.mpr ⟨lw_p38, List.forall_mem_cons.mpr ⟨lw_p39, List.forall_mem_cons.mpr ⟨lw_p40, List.forall_mem_cons.mpr ⟨lw_p41, List.forall_mem_cons.mpr ⟨lw_p42, List.forall_mem_cons.mpr ⟨lw_p43, List.forall_mem_cons.mpr ⟨lw_p44, List.forall_mem_cons.mpr ⟨lw_p45, List.forall_mem_cons.mpr ⟨lw_p46, List.forall_mem_cons.mpr ⟨lw_p47, fun _ h => absurd h List.not_mem_nil⟩⟩⟩⟩⟩⟩⟩⟩⟩⟩⟩⟩⟩⟩⟩⟩
theorem lw_p48 : lw_okq (⟨"LastUseDeskModel", "writesPage", "(I)I"⟩, 36) := ⟨⟨by decide +kernel, by decide +kernel⟩, List.mem_of_getElem? (i := 1055) (by decide +kernel), List.mem_of_getElem? (i := 1427) (by decide +kernel), List.mem_of_getElem? (i := 1428) (by decide +kernel)⟩
theorem lw_p49 : lw_okq (⟨"LastUseDeskModel", "writesAll", "()I"⟩, 36) := ⟨⟨by decide +kernel, by decide +kernel⟩, List.mem_of_getElem? (i := 1055) (by decide +kernel), List.mem_of_getElem? (i := 1439) (by decide +kernel), List.mem_of_getElem? (i := 1440) (by decide +kernel)⟩
theorem lw_p50 : lw_okq (⟨"LastUseDeskModel", "noAddress", "(I)Z"⟩, 36) := ⟨⟨by decide +kernel, by decide +kernel⟩, List.mem_of_getElem? (i := 1055) (by decide +kernel), List.mem_of_getElem? (i := 1455) (by decide +kernel), List.mem_of_getElem? (i := 1456) (by decide +kernel)⟩
def lw_privs_4 : List (MethodName × Nat) := [(⟨"LastUseDeskModel", "writesPage", "(I)I"⟩, 36), (⟨"LastUseDeskModel", "writesAll", "()I"⟩, 36), (⟨"LastUseDeskModel", "noAddress", "(I)Z"⟩, 36)]
theorem lw_r4 : ∀ q ∈ lw_privs_4, lw_okq q := List.forall_mem_cons.mpr ⟨lw_p48, List.forall_mem_cons.mpr ⟨lw_p49, List.forall_mem_cons.mpr ⟨lw_p50, fun _ h => absurd h List.not_mem_nil⟩⟩⟩
def lw_privs : List (MethodName × Nat) := lw_privs_1 ++ (lw_privs_2 ++ (lw_privs_3 ++ (lw_privs_4)))
def lw_tbl : List Cond := k2_sels lw_privs ++ tables_1
theorem lw_privs_ok : ∀ q ∈ lw_privs, lw_okq q := by
  show ∀ q ∈ lw_privs_1 ++ (lw_privs_2 ++ (lw_privs_3 ++ (lw_privs_4))), lw_okq q
  exact List.forall_mem_append.mpr ⟨lw_r1, List.forall_mem_append.mpr ⟨lw_r2, List.forall_mem_append.mpr ⟨lw_r3, lw_r4⟩⟩⟩
/-- the streams that the claim lets the run draw from -/
abbrev lw_cs : List Choice := [Jvm.Choice.named "NaN.bits"]
theorem lw_bits : nanBits ∈ lw_cs := by first | decide | exact List.mem_cons_self | simp [lw_cs, nanBits]
-- ===== end of PART A; then your names; then what follows =====
end
section
/-! ===== BEGIN words of one list among another's, by their places ===== -/
theorem goodIn_r {big : List Cond} (ws : List Cond) (ps : List Nat) (hp : ws = ps.filterMap (fun i => big[i]?)) (h : ws.all goodWord = true) : GoodIn big ws := by
  intro w hw
  have h1 := List.all_eq_true.mp h w hw
  rw [hp] at hw
  obtain ⟨i, -, hi⟩ := List.mem_filterMap.mp hw
  have hm : w ∈ big := by first | exact List.mem_of_getElem? hi | exact List.getElem?_mem hi
  exact ⟨hm, good_of_word h1⟩
theorem goodIn_app {big a b : List Cond} (ha : GoodIn big a) (hb : GoodIn big b) : GoodIn big (a ++ b) := fun w h => (List.mem_append.mp h).elim (ha w) (hb w)
theorem goodIn_ca {big a b : List Cond} {c : Cond} (ha : GoodIn big (c :: a)) (hb : GoodIn big b) : GoodIn big (c :: (a ++ b)) := fun w h => (List.mem_cons.mp h).elim (fun e => ha w (List.mem_cons.mpr (Or.inl e))) (fun h => (List.mem_append.mp h).elim (fun h => ha w (List.mem_cons.mpr (Or.inr h))) (hb w))
theorem goodIn_sub {big ws : List Cond} (hm : ∀ w ∈ ws, w ∈ big) (h : ws.all goodWord = true) : GoodIn big ws := fun w hw => ⟨hm w hw, good_of_word (List.all_eq_true.mp h w hw)⟩
/-! ===== END ===== -/

/-! ===== BEGIN exceptions that leave a method, and their catching by the caller (launches without stack traces) ===== -/
section VXA
/-! The laws vx_back, vx_callV, vx_callS, vx_callSW, vx_throw0, vx_throwS follow proofs of the library, with one case more: JvmDerived/Free/Laws.lean (Back.of_free), Shelf42/LK1.lean (callV, callS), Shelf/KitTraced.lean (throwNew0V, throwNewS). -/
/-- where a method has thrown q: the class by its name, the cell, what was written, the world -/
def vx_T (XC : String → State → State → Prop) (st : State) (q : Addr) (t : State) (mc ms : Nat) (free : Addr → Prop) : Prop :=
  ∃ (E : String) (ce : Cell) (L : List Loc), XC E st t ∧ t.heap[q]? = some ce ∧ ce.vm = .none ∧ st.vm.findClass E = some ce.cls ∧ st.WarmedH t.vm ∧ st.sameButNew ({ t with vm := st.vm } : State) L mc ms ∧ ∀ z ∈ L, free z.base
def vx_Q (Qc : Array Value → State → Outcome → State → Prop) (XC : String → State → State → Prop) (mc ms : Nat) (free : Addr → Prop) : Array Value → State → Outcome → State → Prop := fun a st o t =>
  (Qc a st o t ∧ ∃ L, FrameEnd st o t L mc ms ∧ ∀ q ∈ L, free q.base) ∨ ∃ q, o = .threw q ∧ vx_T XC st q t mc ms free
/-- a callee that returns or throws -/
def vx_Met (l : Launch) (y : MethodName) (ws : List Cond) (rm : Room) (Pc : Array Value → State → Prop) (Qc : Array Value → State → Outcome → State → Prop) (XC : String → State → State → Prop) (mc ms : Nat) (free : Addr → Prop) : Prop :=
  MetFree l y (headSpec ws rm) Pc (fun _ _ _ _ _ => True) (vx_Q Qc XC mc ms free)
def vx_Post (XC : String → State → State → Prop) (mc ms : Nat) (free : Addr → Prop) : Pt → Array Value → Addr → Pt → Prop := fun A a q B =>
  ∃ (g : JFrame) (mk : MethodId) (t : State) (L : List Loc) (E : String) (ce : Cell), B.U.heap = t.heap ∧ B.U.vm = t.vm ∧ XC E (A.U.calling g mk a) t ∧ t.heap[q]? = some ce ∧ ce.vm = .none ∧ A.U.vm.findClass E = some ce.cls ∧ B.locs = A.locs ++ L ∧ (∀ z ∈ L, free z.base) ∧ B.cells = A.cells + mc ∧ B.slots = A.slots + ms
def vx_Back (l : Launch) (R : Room) (p : Program) (e : Env) (below : List Frame) (s : State) (sargs : Array Value) (y : MethodName) (len W9 : Nat)
    (Pre : Pt → Array Value → Prop) (Post : Pt → Array Value → Option Value → Pt → Prop) (PostX : Pt → Array Value → Addr → Pt → Prop) : Prop :=
  ∀ (m : MethodId) (meth : Method) (c : Code) (A : Pt) (g : JFrame) (ig : Instr) (mk : MethodId) (a : Array Value),
    Stand p l e R s m sargs below meth c A.U A.locs A.cells A.slots → g.method = m → g.locals.size = c.maxLocals → decode c.code g.pc = .ok (ig, len) →
    2 * g.monitorRoom + (g.stack.map fun v => v.category).sum ≤ W9 → A.U.methodNamed? y = some mk → Pre A a →
    (∃ (v : Option Value) (B : Pt), Stand p l e R s m sargs below meth c B.U B.locs B.cells B.slots ∧ Post A a v B ∧
      Steps p.tables e below (doInvoke e (A.U.setTop g) [] mk a).1 (B.U.setTop { g with pc := g.pc + len, stack := v.toList ++ g.stack })) ∨
    (∃ (q : Addr) (B : Pt), Stand p l e R s m sargs below meth c B.U B.locs B.cells B.slots ∧ PostX A a q B ∧
      Steps p.tables e below (doInvoke e (A.U.setTop g) [] mk a).1 ((B.U.setTop g).pushFrame (.throwing q)))
section Payer
variable {l : Launch} {R : Room} {p : Program} {e : Env} {below : List Frame} {s : State} {sargs : Array Value} {y : MethodName} {len W9 : Nat}
theorem vx_back {ws : List Cond} {rm : Room} {Pc : Array Value → State → Prop} {Qc : Array Value → State → Outcome → State → Prop} {XC : String → State → State → Prop} {mc ms : Nat} {free : Addr → Prop} {bytes : ByteArray} {maxL : Nat} {ret : Option FieldType}
    (hM : vx_Met l y ws rm Pc Qc XC mc ms free) (hblind : FrameBlind Pc) (hrc : rm.cells = mc) (hrs : rm.slots = ms)
    (hframes : rm.frames + 1 ≤ R.frames) (hlocals : W9 + (maxL + 11) + rm.locals ≤ R.locals)
    (hws : ∀ w ∈ ws, ∀ a' U, s.WarmedH U.vm → w.before a' U = true) (hcode : Cond.code y bytes maxL ret ∈ ws) (hinit : ∀ a' U, s.WarmedH U.vm → (Cond.initialized y.cls).before a' U = true) :
    vx_Back l R p e below s sargs y len W9 (PreOf R mc ms Pc) (PostOf Qc mc ms free) (vx_Post XC mc ms free) := by
  intro m meth c A g ig mk a X hg hsize hdg hW hn hp
  have h1 : (headSpec ws rm).pre.before a A.U = true := atoms_intro fun w hw => hws w hw _ _ X.warmed
  have h2 : (Cond.code y bytes maxL ret).before a A.U = true := hws _ hcode _ _ X.warmed
  have h3 : (Cond.initialized y.cls).before a A.U = true := hinit _ _ X.warmed
  have h4 : A.cells + (headSpec ws rm).room.cells ≤ R.cells := by rw [show (headSpec ws rm).room.cells = mc from hrc]; exact hp.1
  have h5 : A.slots + (headSpec ws rm).room.slots ≤ R.slots := by rw [show (headSpec ws rm).room.slots = ms from hrs]; exact hp.2.1
  have hPc : Pc a (A.U.calling g mk a) := hblind _ _ _ _ hp.2.2
  obtain ⟨U, Ls, c0, s0⟩ := A
  dsimp only [Pt.U, Pt.locs, Pt.cells, Pt.slots] at h1 h2 h3 h4 h5 X hn hPc ⊢
  obtain ⟨methY, cY, hmY, hcY, -, hlY, -, -, -, -⟩ := Cond.code_spec hn h2
  obtain ⟨kY, hkY, -⟩ := className_of_methodNamed hn
  have hinitY : kY.init = .initialized := Cond.initialized_spec (findClass_of_methodNamed hn) hkY h3
  have h : At U g.method c below := by rw [hg]; exact X.here
  have hlocals9 : W9 + (maxL + 11) + (headSpec ws rm).room.locals ≤ R.locals := hlocals
  have happ : (headSpec ws rm).appliesLoose y e.platform (U.calling g mk a) = true :=
    Spec.appliesLoose_calling (g := g) h hdg hn hkY hinitY
      (X.room_calling (g := g) (R' := (headSpec ws rm).room) hsize hmY hcY hframes (by rw [hlY]; omega) h4 h5) h1
  obtain ⟨mid, hmid⟩ := h.above
  have hfr : (U.setTop g).frames = (.java g :: mid) ++ below := by rw [State.frames_setTop' g h.top, hmid]; rfl
  obtain ⟨o, s₂, hsteps, -, hend, hq⟩ := Steps.callFree hM p X.admits X.cas X.clock (acts := []) hfr happ hPc trivial
  have hq' : vx_Q Qc XC mc ms free a (U.calling g mk a) o s₂ := hq
  rw [State.frames_setTop' g h.top] at hend
  obtain ⟨g₀, hg0⟩ := Option.isSome_iff_exists.mp h.top
  obtain ⟨r, hr⟩ := State.topJava?_eq_some.mp hg0
  have hr' : (({ U with heap := s₂.heap, slotsUsed := s₂.slotsUsed } : State).setVm s₂.vm).frames = .java g₀ :: r := hr
  rcases hq' with ⟨hqc, L, hfe, hL⟩ | ⟨q, rfl, E, ce, L, hx, hce, hcv, hcl, hW₂, hsm, hL⟩
  · obtain ⟨⟨v, rfl⟩, hW₂, e2, q2, q3, q4, q5, q6⟩ := id hfe
    have e3 : s₂ = ({ (U.calling g mk a).setFrames s₂.frames with heap := s₂.heap, slotsUsed := s₂.slotsUsed } : State).setVm s₂.vm := by
      have : s₂ = ({ s₂ with vm := (U.calling g mk a).vm } : State).setVm s₂.vm := rfl
      rw [e2] at this
      exact this
    obtain ⟨c₂, i₂, len₂, hc₂, hd₂, hf₂⟩ := hend
    have hW' : U.WarmedH s₂.vm := hW₂
    have hcc : c₂ = c := by
      have h1 : s₂.code? g.method = U.code? g.method := by
        rw [State.code?_eq, State.code?_eq, hW'.alike.method?]
      exact Option.some.inj (hc₂.symm.trans (h1.trans h.code))
    subst hcc
    have hlen : len₂ = len := by rw [hdg] at hd₂; cases hd₂; rfl
    subst hlen
    have hs₂ : s₂ = (({ U with heap := s₂.heap, slotsUsed := s₂.slotsUsed } : State).setVm s₂.vm).setTop { g with pc := g.pc + len₂, stack := v.toList ++ g.stack } := by
      refine e3.trans ?_
      rw [hf₂, State.calling_eq h.top, State.setFrames_setFrames, State.setTop_of_frames _ hr', hr]
      rfl
    have hsame : U.sameButNew ({ U with heap := s₂.heap, slotsUsed := s₂.slotsUsed } : State) L mc ms := by
      refine ⟨?_, q2, q3, q4, q5, q6⟩
      obtain ⟨t, ht, -⟩ := State.frames_cons hr
      show ({ U with heap := s₂.heap, slotsUsed := s₂.slotsUsed } : State) = { U.setFrames U.frames with heap := s₂.heap, slotsUsed := s₂.slotsUsed }
      rw [State.setFrames_self ht]
    subst hg
    refine Or.inl ⟨v, ⟨(({ U with heap := s₂.heap, slotsUsed := s₂.slotsUsed } : State).setVm s₂.vm), Ls ++ L, c0 + mc, s0 + ms⟩,
      ⟨X.admits, X.cas, X.clock, X.frames, X.room, X.hears, X.method, X.code, (X.here.setHeapUsed s₂.heap s₂.slotsUsed).setVm hW'.alike, X.tail, State.WarmedH.trans X.warmed hW', X.limits, X.bytes, X.same.trans (hsame.setVm s.vm)⟩,
      ⟨g, mk, s₂, L, rfl, rfl, hqc, rfl, hL, rfl, rfl⟩, ?_⟩
    show Steps p.tables e below _ ((({ U with heap := s₂.heap, slotsUsed := s₂.slotsUsed } : State).setVm s₂.vm).setTop { g with pc := g.pc + len₂, stack := v.toList ++ g.stack })
    rw [← hs₂]
    exact hsteps
  · obtain ⟨e2, q2, q3, q4, q5, q6⟩ := id hsm
    have e3 : s₂ = ({ (U.calling g mk a).setFrames s₂.frames with heap := s₂.heap, slotsUsed := s₂.slotsUsed } : State).setVm s₂.vm := by
      have : s₂ = ({ s₂ with vm := (U.calling g mk a).vm } : State).setVm s₂.vm := rfl
      rw [e2] at this
      exact this
    have hf₂ : s₂.frames = .throwing q :: .java g :: U.frames.tail := hend
    have hW' : U.WarmedH s₂.vm := hW₂
    have hs₂ : s₂ = ((({ U with heap := s₂.heap, slotsUsed := s₂.slotsUsed } : State).setVm s₂.vm).setTop g).pushFrame (.throwing q) := by
      refine e3.trans ?_
      rw [hf₂, State.calling_eq h.top, State.setFrames_setFrames, State.pushFrame, State.frames_setTop _ hr', State.setTop_of_frames _ hr', State.setFrames_setFrames, hr]
      rfl
    have hsame : U.sameButNew ({ U with heap := s₂.heap, slotsUsed := s₂.slotsUsed } : State) L mc ms := by
      refine ⟨?_, q2, q3, q4, q5, q6⟩
      obtain ⟨t, ht, -⟩ := State.frames_cons hr
      show ({ U with heap := s₂.heap, slotsUsed := s₂.slotsUsed } : State) = { U.setFrames U.frames with heap := s₂.heap, slotsUsed := s₂.slotsUsed }
      rw [State.setFrames_self ht]
    subst hg
    refine Or.inr ⟨q, ⟨(({ U with heap := s₂.heap, slotsUsed := s₂.slotsUsed } : State).setVm s₂.vm), Ls ++ L, c0 + mc, s0 + ms⟩,
      ⟨X.admits, X.cas, X.clock, X.frames, X.room, X.hears, X.method, X.code, (X.here.setHeapUsed s₂.heap s₂.slotsUsed).setVm hW'.alike, X.tail, State.WarmedH.trans X.warmed hW', X.limits, X.bytes, X.same.trans (hsame.setVm s.vm)⟩,
      ⟨g, mk, s₂, L, E, ce, rfl, rfl, hx, hce, hcv, hcl, rfl, hL, rfl, rfl⟩, ?_⟩
    show Steps p.tables e below _ (((({ U with heap := s₂.heap, slotsUsed := s₂.slotsUsed } : State).setVm s₂.vm).setTop g).pushFrame (.throwing q))
    rw [← hs₂]
    exact hsteps
end Payer
section Calls
variable {p : Program} {l : Launch} {e : Env} {R : Room} {s : State} {m : MethodId} {args : Array Value} {below : List Frame} {meth : Method} {c : Code} {T : State} {locs : List Loc} {cells slots : Nat}
theorem vx_callV (X : Stand p l e R s m args below meth c T locs cells slots) (hexec : p.tables.exec = Jvm.exec) {own C : String} {index : Nat} {y : MethodName} {bytes : ByteArray} {maxL : Nat} {ret : Option FieldType}
    (hown : s.vm.findClass own = some m.cls) (hlink : (Cond.methodLink own index y).before args s = true) (hinst : (Cond.instanceMethod y).before args s = true) (hsel : (Cond.selects C y y).before args s = true)
    (hcode : (Cond.code y bytes maxL ret).before args s = true) (hy : y.cls ≠ "java/lang/invoke/MethodHandle" ∧ y.cls ≠ "java/lang/invoke/VarHandle")
    {W9 : Nat} {Pre : Pt → Array Value → Prop} {Post : Pt → Array Value → Option Value → Pt → Prop} {PostX : Pt → Array Value → Addr → Pt → Prop} (hK : vx_Back l R p e below s args y 3 W9 Pre Post PostX)
    {b : Addr} {cellB : Cell} (hcell : T.heap[b]? = some cellB) (hobj : cellB.vm.isStatics = false) (hcls : s.vm.findClass C = some cellB.cls)
    {g : JFrame} (hg : g.method = m) (hsize : g.locals.size = c.maxLocals) {argsL rest : List Value} (hlen : ∀ sig, parseMethodDescriptor y.desc = some sig → argsL.length = sig.parameters.length)
    (hstack : g.stack = argsL.reverse ++ .ref b :: rest) (hW : 2 * g.monitorRoom + (rest.map fun v => v.category).sum ≤ W9) (hdg : decode c.code g.pc = .ok (.invokevirtual index, 3))
    (hpre : ∀ vm₁, s.WarmedH vm₁ → Pre ⟨T.setVm vm₁, locs, cells, slots⟩ (Value.ref b :: argsL).toArray) :
    (∃ (v : Option Value) (vm₁ : Vm) (B : Pt), s.WarmedH vm₁ ∧ Stand p l e R s m args below meth c B.U B.locs B.cells B.slots ∧ Post ⟨T.setVm vm₁, locs, cells, slots⟩ (Value.ref b :: argsL).toArray v B ∧
      ∀ target, Steps p.tables e below (B.U.setTop { g with pc := g.pc + 3, stack := v.toList ++ rest }) target → Steps p.tables e below (T.setTop g) target) ∨
    (∃ (q : Addr) (vm₁ : Vm) (B : Pt), s.WarmedH vm₁ ∧ Stand p l e R s m args below meth c B.U B.locs B.cells B.slots ∧ PostX ⟨T.setVm vm₁, locs, cells, slots⟩ (Value.ref b :: argsL).toArray q B ∧
      Steps p.tables e below (T.setTop g) ((B.U.setTop { g with stack := rest }).pushFrame (.throwing q))) := by
  obtain ⟨mk, methM, hnamed, hmethM, hstM, habM⟩ := Cond.instanceMethod_spec hinst
  obtain ⟨methM', cM, hmethM', -, -, -, -, -, -, hsigM⟩ := Cond.code_spec hnamed hcode
  cases hmethM.symm.trans hmethM'
  obtain ⟨c2, r2, m2, q1, q2, q3, q4, kP, hkP, hkPi⟩ := Cond.selects_spec hsel
  cases hcls.symm.trans q1
  cases (State.methodFound?_of_named hnamed hy).symm.trans q2
  cases hnamed.symm.trans q3
  have hselP : selectMethod e.platform s.vm cellB.cls mk = .method mk := by rw [Launch.admits_selectMethod X.admits]; exact q4
  obtain ⟨vm₁, X₁, hstep₁⟩ := X.invokevirtual hexec hown hlink hnamed hmethM hstM hkP hkPi hy (a := b) (cell := cellB) hcell
    (fun z h => by rw [h] at hobj; cases hobj) hselP hmethM habM hkP hkPi (g := g) hg (argsL := argsL) (rest := rest) (hlen _ hsigM) hstack hdg
  rcases hK m meth c ⟨T.setVm vm₁, locs, cells, slots⟩ { g with stack := rest } (.invokevirtual index) mk (Value.ref b :: argsL).toArray X₁ hg hsize hdg hW (X₁.named hnamed) (hpre vm₁ X₁.warmed) with ⟨v, B, X', hpost, hsteps⟩ | ⟨q, B, X', hpost, hsteps⟩
  · exact Or.inl ⟨v, vm₁, B, X₁.warmed, X', hpost, fun target h => hstep₁ _ fun acts => by rw [doInvoke_state]; exact hsteps.trans h⟩
  · exact Or.inr ⟨q, vm₁, B, X₁.warmed, X', hpost, hstep₁ _ fun acts => by rw [doInvoke_state]; exact hsteps⟩
theorem vx_callS (X : Stand p l e R s m args below meth c T locs cells slots) (hexec : p.tables.exec = Jvm.exec) {own : String} {index : Nat} {y : MethodName} {bytes : ByteArray} {maxL : Nat} {ret : Option FieldType}
    (hown : s.vm.findClass own = some m.cls) (hlink : (Cond.methodLink own index y).before args s = true) (hstat : (Cond.static y).before args s = true) (hinit : (Cond.initialized y.cls).before args s = true)
    (hcode : (Cond.code y bytes maxL ret).before args s = true) (hy : y.cls ≠ "java/lang/invoke/MethodHandle" ∧ y.cls ≠ "java/lang/invoke/VarHandle")
    {W9 : Nat} {Pre : Pt → Array Value → Prop} {Post : Pt → Array Value → Option Value → Pt → Prop} {PostX : Pt → Array Value → Addr → Pt → Prop} (hK : vx_Back l R p e below s args y 3 W9 Pre Post PostX)
    {g : JFrame} (hg : g.method = m) (hsize : g.locals.size = c.maxLocals) {argsL rest : List Value} (hlen : ∀ sig, parseMethodDescriptor y.desc = some sig → argsL.length = sig.parameters.length)
    (hstack : g.stack = argsL.reverse ++ rest) (hW : 2 * g.monitorRoom + (rest.map fun v => v.category).sum ≤ W9) (hdg : decode c.code g.pc = .ok (.invokestatic index, 3))
    (hpre : ∀ vm₁, s.WarmedH vm₁ → Pre ⟨T.setVm vm₁, locs, cells, slots⟩ argsL.toArray) :
    (∃ (v : Option Value) (vm₁ : Vm) (B : Pt), s.WarmedH vm₁ ∧ Stand p l e R s m args below meth c B.U B.locs B.cells B.slots ∧ Post ⟨T.setVm vm₁, locs, cells, slots⟩ argsL.toArray v B ∧
      ∀ target, Steps p.tables e below (B.U.setTop { g with pc := g.pc + 3, stack := v.toList ++ rest }) target → Steps p.tables e below (T.setTop g) target) ∨
    (∃ (q : Addr) (vm₁ : Vm) (B : Pt), s.WarmedH vm₁ ∧ Stand p l e R s m args below meth c B.U B.locs B.cells B.slots ∧ PostX ⟨T.setVm vm₁, locs, cells, slots⟩ argsL.toArray q B ∧
      Steps p.tables e below (T.setTop g) ((B.U.setTop { g with stack := rest }).pushFrame (.throwing q))) := by
  obtain ⟨mk, hnamed⟩ := Cond.code_named hcode
  obtain ⟨methM, cM, hmethM, -, -, -, -, -, -, hsigM⟩ := Cond.code_spec hnamed hcode
  have hstatic : methM.isStatic = true := Cond.static_spec hnamed hmethM hstat
  obtain ⟨kP, hkP, -⟩ := className_of_methodNamed hnamed
  have hinitP : kP.init = .initialized := Cond.initialized_spec (findClass_of_methodNamed hnamed) hkP hinit
  obtain ⟨vm₁, X₁, hstep₁⟩ := X.invokestatic hexec hown hlink hnamed hmethM hstatic hkP hinitP hy (g := g) hg (argsL := argsL) (rest := rest) (hlen _ hsigM) hstack hdg
  rcases hK m meth c ⟨T.setVm vm₁, locs, cells, slots⟩ { g with stack := rest } (.invokestatic index) mk argsL.toArray X₁ hg hsize hdg hW (X₁.named hnamed) (hpre vm₁ X₁.warmed) with ⟨v, B, X', hpost, hsteps⟩ | ⟨q, B, X', hpost, hsteps⟩
  · exact Or.inl ⟨v, vm₁, B, X₁.warmed, X', hpost, fun target h => hstep₁ _ fun acts => by rw [doInvoke_state]; exact hsteps.trans h⟩
  · exact Or.inr ⟨q, vm₁, B, X₁.warmed, X', hpost, hstep₁ _ fun acts => by rw [doInvoke_state]; exact hsteps⟩
end Calls
theorem vx_cls {s : State} {T : State} {vm₁ : Vm} {E : String} {k : ClassId} (hW : s.WarmedH vm₁) (h : (T.setVm vm₁).vm.findClass E = some k) : s.vm.findClass E = some k := by
  have h1 : vm₁.findClass E = some k := h
  rw [hW.alike.findClass] at h1
  exact h1
/-- the method's frame g, with q thrown over it -/
def vx_W (p : Program) (l : Launch) (e : Env) (R : Room) (s : State) (m : MethodId) (args : Array Value) (below : List Frame) (meth : Method) (c : Code) (H : Heap) (locs : List Loc) (cells slots : Nat) (Q : State → Prop) (g : JFrame) (q : Addr) : Prop :=
  ∀ T : State, T.heap = H → Stand p l e R s m args below meth c T locs cells slots → ∃ t, Steps p.tables e below ((T.setTop g).pushFrame (.throwing q)) t ∧ Q t
def vx_Run (p : Program) (l : Launch) (e : Env) (R : Room) (s : State) (m : MethodId) (args : Array Value) (below : List Frame) (meth : Method) (c : Code) (H : Heap) (locs : List Loc) (cells slots mc ms : Nat) (g : JFrame) (rest : List Value) (Qa : State → Outcome → State → Prop) (XC : String → State → State → Prop) (free : Addr → Prop) : Prop :=
  ∀ T : State, T.heap = H → Stand p l e R s m args below meth c T locs cells slots →
    (∃ (v : Option Value) (st₀ t T' : State) (L : List Loc), st₀.heap = H ∧ Stand p l e R s m args below meth c T' (locs ++ L) (cells + mc) (slots + ms) ∧ (∀ q ∈ L, free q.base) ∧ T'.heap = t.heap ∧ T'.vm = t.vm ∧ Qa st₀ (.returned v) t ∧
      Goes p e below T g T' { g with pc := g.pc + 3, stack := v.toList ++ rest }) ∨
    (∃ (q : Addr) (st₀ t T' : State) (L : List Loc) (E : String) (ce : Cell), st₀.heap = H ∧ Stand p l e R s m args below meth c T' (locs ++ L) (cells + mc) (slots + ms) ∧ (∀ z ∈ L, free z.base) ∧ T'.heap = t.heap ∧ T'.vm = t.vm ∧ XC E st₀ t ∧ t.heap[q]? = some ce ∧ ce.vm = .none ∧ s.vm.findClass E = some ce.cls ∧
      Steps p.tables e below (T.setTop g) ((T'.setTop { g with stack := rest }).pushFrame (.throwing q)))
def vx_X {S : Type} (px : S → Prop) (B : String → S → State → Prop) (A : Nat → Prop) : String → State → State → Prop := fun E st t => ∃ u : S, px u ∧ B E u t ∧ va_F A st t
section Runs
variable {p : Program} {l : Launch} {e : Env} {R : Room} {s : State} {m : MethodId} {args : Array Value} {below : List Frame} {meth : Method} {c : Code} {H : Heap} {locs : List Loc} {cells slots : Nat}
variable {y : MethodName} {bytes cc : ByteArray} {maxL nL mc ms n index : Nat} {ret : Option FieldType} {ws : List Cond} {rm : Room} {Pc : Array Value → State → Prop} {Qc : Array Value → State → Outcome → State → Prop} {XC : String → State → State → Prop} {free : Addr → Prop} {Ts : List Cond} {own C : String} {b : Addr} {As rest : List Value} {g : JFrame}
theorem vx_callBack (cb : CallB R s args own index y bytes maxL ret ws rm mc ms n) (hM : vx_Met l y ws rm Pc Qc XC mc ms free) (hbl : FrameBlind Pc) : vx_Back l R p e below s args y 3 8 (PreOf R mc ms Pc) (PostOf Qc mc ms free) (vx_Post XC mc ms free) := by
  obtain ⟨hrc, hrs, hfr, hlo, hws, hcw, -, hini, -⟩ := cb
  exact vx_back (bytes := bytes) (maxL := maxL) (ret := ret) hM hbl hrc hrs hfr hlo hws hcw (fun a' U hW => word_at hW (Or.inl (by first | rfl | simp [Cond.onTables, Cond.keeps, Cond.steady])) hini)
theorem vx_runV (S : CallFix p m c cc nL s args Ts own) (hM : vx_Met l y ws rm Pc Qc XC mc ms free) (cw : CallW R s args own C index y bytes maxL ret ws rm mc ms n) (hp : PreV s H C b Pc As)
    (hg : g.method = m) (hn : As.length = n) (hsize : g.locals.size = nL) (hstack : g.stack = As.reverse ++ .ref b :: rest) (hW : 2 * g.monitorRoom + (rest.map fun v => v.category).sum ≤ 8) (hdg : decode cc g.pc = .ok (.invokevirtual index, 3)) (hf : cells + mc ≤ R.cells ∧ slots + ms ≤ R.slots) :
    vx_Run p l e R s m args below meth c H locs cells slots mc ms g rest (Qc (Value.ref b :: As).toArray) XC free := by
  have hK : vx_Back l R p e below s args y 3 8 (PreOf R mc ms Pc) (PostOf Qc mc ms free) (vx_Post XC mc ms free) := vx_callBack cw.1 hM hp.1
  obtain ⟨⟨-, -, -, -, -, -, hcode, -, hy, hlen, hl⟩, hin, hse⟩ := cw
  obtain ⟨hx, hb, hml, ho, -⟩ := S
  obtain ⟨-, ⟨cellB, hcB, hoB, hclB⟩, hPc⟩ := hp
  intro T hT X
  rcases vx_callV X hx (C := C) (bytes := bytes) (maxL := maxL) (ret := ret) ho hl hin hse hcode hy hK (by rw [hT]; exact hcB) hoB hclB hg (hsize.trans hml.symm) (argsL := As) (rest := rest) (fun sig h => hn.trans (hlen sig h)) hstack hW (by rw [hb]; exact hdg)
    (fun vm₁ hW₁ => ⟨hf.1, hf.2, hPc (T.setVm vm₁) hT hW₁⟩) with ⟨v, vm₁, ⟨U', l2, c2, s2⟩, hW₁, X', ⟨g', mk, t, L, e1, e2, hq, h1, hL, h2, h3⟩, st⟩ | ⟨q, vm₁, ⟨U', l2, c2, s2⟩, hW₁, X', ⟨g', mk, t, L, E, ce, e1, e2, hq, hce, hcv, hcl, h1, hL, h2, h3⟩, st⟩
  · dsimp only [Pt.U, Pt.locs, Pt.cells, Pt.slots] at X' e1 e2 h1 h2 h3 st
    subst h1; subst h2; subst h3
    exact Or.inl ⟨v, (T.setVm vm₁).calling g' mk (Value.ref b :: As).toArray, t, U', L, hT, X', hL, e1, e2, hq, st⟩
  · dsimp only [Pt.U, Pt.locs, Pt.cells, Pt.slots] at X' e1 e2 h1 h2 h3 st hcl
    subst h1; subst h2; subst h3
    exact Or.inr ⟨q, (T.setVm vm₁).calling g' mk (Value.ref b :: As).toArray, t, U', L, E, ce, hT, X', hL, e1, e2, hq, hce, hcv, vx_cls hW₁ hcl, st⟩
theorem vx_runS (S : CallFix p m c cc nL s args Ts own) (hM : vx_Met l y ws rm Pc Qc XC mc ms free) (cw : CallB R s args own index y bytes maxL ret ws rm mc ms n ∧ (Cond.static y).before args s = true) (hp : PreS s H Pc As)
    (hg : g.method = m) (hn : As.length = n) (hsize : g.locals.size = nL) (hstack : g.stack = As.reverse ++ rest) (hW : 2 * g.monitorRoom + (rest.map fun v => v.category).sum ≤ 8) (hdg : decode cc g.pc = .ok (.invokestatic index, 3)) (hf : cells + mc ≤ R.cells ∧ slots + ms ≤ R.slots) :
    vx_Run p l e R s m args below meth c H locs cells slots mc ms g rest (Qc As.toArray) XC free := by
  have hK : vx_Back l R p e below s args y 3 8 (PreOf R mc ms Pc) (PostOf Qc mc ms free) (vx_Post XC mc ms free) := vx_callBack cw.1 hM hp.1
  obtain ⟨⟨-, -, -, -, -, -, hcode, hini, hy, hlen, hl⟩, hstt⟩ := cw
  obtain ⟨hx, hb, hml, ho, -⟩ := S
  intro T hT X
  rcases vx_callS X hx (bytes := bytes) (maxL := maxL) (ret := ret) ho hl hstt hini hcode hy hK hg (hsize.trans hml.symm) (argsL := As) (rest := rest) (fun sig h => hn.trans (hlen sig h)) hstack hW (by rw [hb]; exact hdg)
    (fun vm₁ hW₁ => ⟨hf.1, hf.2, hp.2 (T.setVm vm₁) hT hW₁⟩) with ⟨v, vm₁, ⟨U', l2, c2, s2⟩, hW₁, X', ⟨g', mk, t, L, e1, e2, hq, h1, hL, h2, h3⟩, st⟩ | ⟨q, vm₁, ⟨U', l2, c2, s2⟩, hW₁, X', ⟨g', mk, t, L, E, ce, e1, e2, hq, hce, hcv, hcl, h1, hL, h2, h3⟩, st⟩
  · dsimp only [Pt.U, Pt.locs, Pt.cells, Pt.slots] at X' e1 e2 h1 h2 h3 st
    subst h1; subst h2; subst h3
    exact Or.inl ⟨v, (T.setVm vm₁).calling g' mk As.toArray, t, U', L, hT, X', hL, e1, e2, hq, st⟩
  · dsimp only [Pt.U, Pt.locs, Pt.cells, Pt.slots] at X' e1 e2 h1 h2 h3 st hcl
    subst h1; subst h2; subst h3
    exact Or.inr ⟨q, (T.setVm vm₁).calling g' mk As.toArray, t, U', L, E, ce, hT, X', hL, e1, e2, hq, hce, hcv, vx_cls hW₁ hcl, st⟩
end Runs
section Rows
variable {p : Program} {l : Launch} {e : Env} {R : Room} {s : State} {m : MethodId} {args : Array Value} {below : List Frame} {meth : Method} {c : Code} {H : Heap} {locs : List Loc} {cells slots : Nat} {Q : State → Prop}
variable {mc ms : Nat} {free : Addr → Prop} {A0 A1 : Nat → Prop} {H0 : Heap} {a : Array Value} {pc : Nat} {ls : Array Slot} {st0 rest : List Value}
theorem vx_keep {st₀ t T' : State} {L : List Loc} (h0 : st₀.heap = H) (e1 : T'.heap = t.heap) (hS : va_S A0 H0 H locs) (hA : ∀ q, q < H.size → A1 q → A0 q) (hf : ∀ q, free q → A0 q) (hL : ∀ q ∈ L, free q.base) (hF : va_F A1 st₀ t) :
    H.size ≤ T'.heap.size ∧ (∀ q : Nat, q < H.size → ¬ A1 q → T'.heap[q]? = H[q]?) ∧ va_S A0 H0 T'.heap (locs ++ L) := by
  obtain ⟨hz, hk⟩ := hF
  rw [h0] at hz hk
  exact ⟨by rw [e1]; exact hz, fun q h1 h2 => by rw [e1]; exact hk q h1 h2,
    ⟨Nat.le_trans hS.1 (by rw [e1]; exact hz), fun q h1 h2 => by rw [e1, hk q (Nat.lt_of_lt_of_le h1 hS.1) (fun z => h2 (hA q (Nat.lt_of_lt_of_le h1 hS.1) z))]; exact hS.2.1 q h1 h2, fun q hq => by
      rcases List.mem_append.mp hq with h | h
      · exact hS.2.2 q h
      · exact hf _ (hL q h)⟩⟩
theorem vx_calli {S SX : Type} {post : Int32 → S → Prop} {px : SX → Prop} {B : S → State → Prop} {BX : String → SX → State → Prop} {AX : Nat → Prop} (hr : vx_Run p l e R s m args below meth c H locs cells slots mc ms (F0 m pc ls st0) rest (va_Qi post B A1 a) (vx_X px BX AX) free) (hS : va_S A0 H0 H locs) (hA : ∀ q, q < H.size → A1 q → A0 q) (hf : ∀ q, free q → A0 q) (hAX : ∀ q, q < H.size → AX q → A0 q)
    (kx : ∀ (E : String) (ce : Cell) (q9 : Addr) (u : SX) (t : State) (H1 : Heap) (locs1 : List Loc), t.heap = H1 → s.vm.Alike t.vm → px u → BX E u t → H.size ≤ H1.size → (∀ q : Nat, q < H.size → ¬ AX q → H1[q]? = H[q]?) → va_S A0 H0 H1 locs1 → H1[q9]? = some ce → ce.vm = .none → s.vm.findClass E = some ce.cls → vx_W p l e R s m args below meth c H1 locs1 (cells + mc) (slots + ms) Q (F0 m pc ls rest) q9)
    (kk : ∀ (r : Int32) (u : S) (t : State) (H1 : Heap) (locs1 : List Loc), t.heap = H1 → s.vm.Alike t.vm → post r u → B u t → H.size ≤ H1.size → (∀ q : Nat, q < H.size → ¬ A1 q → H1[q]? = H[q]?) → va_S A0 H0 H1 locs1 → W p l e R s m args below meth c H1 locs1 (cells + mc) (slots + ms) Q (F0 m (pc + 3) ls (.int r :: rest))) : W p l e R s m args below meth c H locs cells slots Q (F0 m pc ls st0) := by
  intro T hT X
  rcases hr T hT X with ⟨v, st₀, t, T', L, h0, X', hL, e1, e2, ⟨⟨r, u, hv, hp, hb⟩, hF⟩, st⟩ | ⟨q, st₀, t, T', L, E, ce, h0, X', hL, e1, e2, ⟨u, hp, hb, hF⟩, hce, hcv, hcl, st⟩
  · cases hv
    obtain ⟨k1, k2, k3⟩ := vx_keep h0 e1 hS hA hf hL hF
    obtain ⟨t2, a1, b1⟩ := kk r u t T'.heap (locs ++ L) e1.symm (by rw [← e2]; exact X'.warmed.alike) hp hb k1 k2 k3 T' rfl X'
    exact ⟨t2, st t2 a1, b1⟩
  · obtain ⟨k1, k2, k3⟩ := vx_keep h0 e1 hS hAX hf hL hF
    obtain ⟨t2, a1, b1⟩ := kx E ce q u t T'.heap (locs ++ L) e1.symm (by rw [← e2]; exact X'.warmed.alike) hp hb k1 k2 k3 (by rw [e1]; exact hce) hcv hcl T' rfl X'
    exact ⟨t2, st.trans a1, b1⟩
theorem vx_calll {S SX : Type} {post : Int64 → S → Prop} {px : SX → Prop} {B : S → State → Prop} {BX : String → SX → State → Prop} {AX : Nat → Prop} (hr : vx_Run p l e R s m args below meth c H locs cells slots mc ms (F0 m pc ls st0) rest (va_Ql post B A1 a) (vx_X px BX AX) free) (hS : va_S A0 H0 H locs) (hA : ∀ q, q < H.size → A1 q → A0 q) (hf : ∀ q, free q → A0 q) (hAX : ∀ q, q < H.size → AX q → A0 q)
    (kx : ∀ (E : String) (ce : Cell) (q9 : Addr) (u : SX) (t : State) (H1 : Heap) (locs1 : List Loc), t.heap = H1 → s.vm.Alike t.vm → px u → BX E u t → H.size ≤ H1.size → (∀ q : Nat, q < H.size → ¬ AX q → H1[q]? = H[q]?) → va_S A0 H0 H1 locs1 → H1[q9]? = some ce → ce.vm = .none → s.vm.findClass E = some ce.cls → vx_W p l e R s m args below meth c H1 locs1 (cells + mc) (slots + ms) Q (F0 m pc ls rest) q9)
    (kk : ∀ (r : Int64) (u : S) (t : State) (H1 : Heap) (locs1 : List Loc), t.heap = H1 → s.vm.Alike t.vm → post r u → B u t → H.size ≤ H1.size → (∀ q : Nat, q < H.size → ¬ A1 q → H1[q]? = H[q]?) → va_S A0 H0 H1 locs1 → W p l e R s m args below meth c H1 locs1 (cells + mc) (slots + ms) Q (F0 m (pc + 3) ls (.long r :: rest))) : W p l e R s m args below meth c H locs cells slots Q (F0 m pc ls st0) := by
  intro T hT X
  rcases hr T hT X with ⟨v, st₀, t, T', L, h0, X', hL, e1, e2, ⟨⟨r, u, hv, hp, hb⟩, hF⟩, st⟩ | ⟨q, st₀, t, T', L, E, ce, h0, X', hL, e1, e2, ⟨u, hp, hb, hF⟩, hce, hcv, hcl, st⟩
  · cases hv
    obtain ⟨k1, k2, k3⟩ := vx_keep h0 e1 hS hA hf hL hF
    obtain ⟨t2, a1, b1⟩ := kk r u t T'.heap (locs ++ L) e1.symm (by rw [← e2]; exact X'.warmed.alike) hp hb k1 k2 k3 T' rfl X'
    exact ⟨t2, st t2 a1, b1⟩
  · obtain ⟨k1, k2, k3⟩ := vx_keep h0 e1 hS hAX hf hL hF
    obtain ⟨t2, a1, b1⟩ := kx E ce q u t T'.heap (locs ++ L) e1.symm (by rw [← e2]; exact X'.warmed.alike) hp hb k1 k2 k3 (by rw [e1]; exact hce) hcv hcl T' rfl X'
    exact ⟨t2, st.trans a1, b1⟩
theorem vx_callf {S SX : Type} {post : UInt32 → S → Prop} {px : SX → Prop} {B : S → State → Prop} {BX : String → SX → State → Prop} {AX : Nat → Prop} (hr : vx_Run p l e R s m args below meth c H locs cells slots mc ms (F0 m pc ls st0) rest (va_Qf post B A1 a) (vx_X px BX AX) free) (hS : va_S A0 H0 H locs) (hA : ∀ q, q < H.size → A1 q → A0 q) (hf : ∀ q, free q → A0 q) (hAX : ∀ q, q < H.size → AX q → A0 q)
    (kx : ∀ (E : String) (ce : Cell) (q9 : Addr) (u : SX) (t : State) (H1 : Heap) (locs1 : List Loc), t.heap = H1 → s.vm.Alike t.vm → px u → BX E u t → H.size ≤ H1.size → (∀ q : Nat, q < H.size → ¬ AX q → H1[q]? = H[q]?) → va_S A0 H0 H1 locs1 → H1[q9]? = some ce → ce.vm = .none → s.vm.findClass E = some ce.cls → vx_W p l e R s m args below meth c H1 locs1 (cells + mc) (slots + ms) Q (F0 m pc ls rest) q9)
    (kk : ∀ (r : UInt32) (u : S) (t : State) (H1 : Heap) (locs1 : List Loc), t.heap = H1 → s.vm.Alike t.vm → post r u → B u t → H.size ≤ H1.size → (∀ q : Nat, q < H.size → ¬ A1 q → H1[q]? = H[q]?) → va_S A0 H0 H1 locs1 → W p l e R s m args below meth c H1 locs1 (cells + mc) (slots + ms) Q (F0 m (pc + 3) ls (.float r :: rest))) : W p l e R s m args below meth c H locs cells slots Q (F0 m pc ls st0) := by
  intro T hT X
  rcases hr T hT X with ⟨v, st₀, t, T', L, h0, X', hL, e1, e2, ⟨⟨r, u, hv, hp, hb⟩, hF⟩, st⟩ | ⟨q, st₀, t, T', L, E, ce, h0, X', hL, e1, e2, ⟨u, hp, hb, hF⟩, hce, hcv, hcl, st⟩
  · cases hv
    obtain ⟨k1, k2, k3⟩ := vx_keep h0 e1 hS hA hf hL hF
    obtain ⟨t2, a1, b1⟩ := kk r u t T'.heap (locs ++ L) e1.symm (by rw [← e2]; exact X'.warmed.alike) hp hb k1 k2 k3 T' rfl X'
    exact ⟨t2, st t2 a1, b1⟩
  · obtain ⟨k1, k2, k3⟩ := vx_keep h0 e1 hS hAX hf hL hF
    obtain ⟨t2, a1, b1⟩ := kx E ce q u t T'.heap (locs ++ L) e1.symm (by rw [← e2]; exact X'.warmed.alike) hp hb k1 k2 k3 (by rw [e1]; exact hce) hcv hcl T' rfl X'
    exact ⟨t2, st.trans a1, b1⟩
theorem vx_calld {S SX : Type} {post : UInt64 → S → Prop} {px : SX → Prop} {B : S → State → Prop} {BX : String → SX → State → Prop} {AX : Nat → Prop} (hr : vx_Run p l e R s m args below meth c H locs cells slots mc ms (F0 m pc ls st0) rest (va_Qd post B A1 a) (vx_X px BX AX) free) (hS : va_S A0 H0 H locs) (hA : ∀ q, q < H.size → A1 q → A0 q) (hf : ∀ q, free q → A0 q) (hAX : ∀ q, q < H.size → AX q → A0 q)
    (kx : ∀ (E : String) (ce : Cell) (q9 : Addr) (u : SX) (t : State) (H1 : Heap) (locs1 : List Loc), t.heap = H1 → s.vm.Alike t.vm → px u → BX E u t → H.size ≤ H1.size → (∀ q : Nat, q < H.size → ¬ AX q → H1[q]? = H[q]?) → va_S A0 H0 H1 locs1 → H1[q9]? = some ce → ce.vm = .none → s.vm.findClass E = some ce.cls → vx_W p l e R s m args below meth c H1 locs1 (cells + mc) (slots + ms) Q (F0 m pc ls rest) q9)
    (kk : ∀ (r : UInt64) (u : S) (t : State) (H1 : Heap) (locs1 : List Loc), t.heap = H1 → s.vm.Alike t.vm → post r u → B u t → H.size ≤ H1.size → (∀ q : Nat, q < H.size → ¬ A1 q → H1[q]? = H[q]?) → va_S A0 H0 H1 locs1 → W p l e R s m args below meth c H1 locs1 (cells + mc) (slots + ms) Q (F0 m (pc + 3) ls (.double r :: rest))) : W p l e R s m args below meth c H locs cells slots Q (F0 m pc ls st0) := by
  intro T hT X
  rcases hr T hT X with ⟨v, st₀, t, T', L, h0, X', hL, e1, e2, ⟨⟨r, u, hv, hp, hb⟩, hF⟩, st⟩ | ⟨q, st₀, t, T', L, E, ce, h0, X', hL, e1, e2, ⟨u, hp, hb, hF⟩, hce, hcv, hcl, st⟩
  · cases hv
    obtain ⟨k1, k2, k3⟩ := vx_keep h0 e1 hS hA hf hL hF
    obtain ⟨t2, a1, b1⟩ := kk r u t T'.heap (locs ++ L) e1.symm (by rw [← e2]; exact X'.warmed.alike) hp hb k1 k2 k3 T' rfl X'
    exact ⟨t2, st t2 a1, b1⟩
  · obtain ⟨k1, k2, k3⟩ := vx_keep h0 e1 hS hAX hf hL hF
    obtain ⟨t2, a1, b1⟩ := kx E ce q u t T'.heap (locs ++ L) e1.symm (by rw [← e2]; exact X'.warmed.alike) hp hb k1 k2 k3 (by rw [e1]; exact hce) hcv hcl T' rfl X'
    exact ⟨t2, st.trans a1, b1⟩
theorem vx_callv {S SX : Type} {post : S → Prop} {px : SX → Prop} {B : S → State → Prop} {BX : String → SX → State → Prop} {AX : Nat → Prop} (hr : vx_Run p l e R s m args below meth c H locs cells slots mc ms (F0 m pc ls st0) rest (va_Qv post B A1 a) (vx_X px BX AX) free) (hS : va_S A0 H0 H locs) (hA : ∀ q, q < H.size → A1 q → A0 q) (hf : ∀ q, free q → A0 q) (hAX : ∀ q, q < H.size → AX q → A0 q)
    (kx : ∀ (E : String) (ce : Cell) (q9 : Addr) (u : SX) (t : State) (H1 : Heap) (locs1 : List Loc), t.heap = H1 → s.vm.Alike t.vm → px u → BX E u t → H.size ≤ H1.size → (∀ q : Nat, q < H.size → ¬ AX q → H1[q]? = H[q]?) → va_S A0 H0 H1 locs1 → H1[q9]? = some ce → ce.vm = .none → s.vm.findClass E = some ce.cls → vx_W p l e R s m args below meth c H1 locs1 (cells + mc) (slots + ms) Q (F0 m pc ls rest) q9)
    (kk : ∀ (u : S) (t : State) (H1 : Heap) (locs1 : List Loc), t.heap = H1 → s.vm.Alike t.vm → post u → B u t → H.size ≤ H1.size → (∀ q : Nat, q < H.size → ¬ A1 q → H1[q]? = H[q]?) → va_S A0 H0 H1 locs1 → W p l e R s m args below meth c H1 locs1 (cells + mc) (slots + ms) Q (F0 m (pc + 3) ls (rest))) : W p l e R s m args below meth c H locs cells slots Q (F0 m pc ls st0) := by
  intro T hT X
  rcases hr T hT X with ⟨v, st₀, t, T', L, h0, X', hL, e1, e2, ⟨⟨u, hv, hp, hb⟩, hF⟩, st⟩ | ⟨q, st₀, t, T', L, E, ce, h0, X', hL, e1, e2, ⟨u, hp, hb, hF⟩, hce, hcv, hcl, st⟩
  · cases hv
    obtain ⟨k1, k2, k3⟩ := vx_keep h0 e1 hS hA hf hL hF
    obtain ⟨t2, a1, b1⟩ := kk u t T'.heap (locs ++ L) e1.symm (by rw [← e2]; exact X'.warmed.alike) hp hb k1 k2 k3 T' rfl X'
    exact ⟨t2, st t2 a1, b1⟩
  · obtain ⟨k1, k2, k3⟩ := vx_keep h0 e1 hS hAX hf hL hF
    obtain ⟨t2, a1, b1⟩ := kx E ce q u t T'.heap (locs ++ L) e1.symm (by rw [← e2]; exact X'.warmed.alike) hp hb k1 k2 k3 (by rw [e1]; exact hce) hcv hcl T' rfl X'
    exact ⟨t2, st.trans a1, b1⟩
/-- caught by the row x of this method's table; the rows ahead don't take it -/
theorem vx_catch {own name : String} {E : String} {ce : Cell} {q : Addr} (hown : s.vm.findClass own = some m.cls) (pre : List ExceptionTableEntry) (x : ExceptionTableEntry) (suf : List ExceptionTableEntry) (hsplit : c.exceptionTable.toList = pre ++ x :: suf)
    (hpass : ∀ z ∈ pre, covers z pc = false ∨ (z.catchType ≠ 0 ∧ ∃ nm : String, (Cond.classLink own z.catchType nm).before args s = true ∧ va_Nc E nm s)) (hx : covers x pc = true) (h0 : x.catchType ≠ 0)
    (hlink : (Cond.classLink own x.catchType name).before args s = true) (hcast : (Cond.castable E name).before args s = true) (hcell : H[q]? = some ce) (hv : ce.vm = .none) (hcl : s.vm.findClass E = some ce.cls)
    (kk : W p l e R s m args below meth c H locs cells slots Q (F0 m x.handlerPc ls [.ref q])) : vx_W p l e R s m args below meth c H locs cells slots Q (F0 m pc ls rest) q := by
  intro T hT X
  have hpl : e.platform.magicAccessors = ({} : Platform).magicAccessors := by rw [X.admits.platform]
  obtain ⟨c3, c4, hc3, hc4, hasg⟩ := Cond.castable_spec hcast
  cases Option.some.inj (hc3.symm.trans hcl)
  obtain ⟨c5, hc5, hcl5⟩ := Cond.classLink_spec hown hlink e.platform hpl
  cases Option.some.inj (hc4.symm.trans hc5)
  obtain ⟨vm', X', st⟩ := X.thenCaughtThrough q (g := F0 m pc ls rest) rfl (Steps.refl _) (by rw [hT]; exact hcell) (by rw [hv]; rfl) (by obtain ⟨k9, h9, -⟩ := Vm.findClass_spec hcl; exact ⟨k9, h9⟩) pre x suf hsplit
    (fun z hz => by
      rcases hpass z hz with h | ⟨hz0, nm, hl1, hn1⟩
      · exact Or.inl h
      · obtain ⟨c6, hc6, hcl6⟩ := Cond.classLink_spec hown hl1 e.platform hpl
        obtain ⟨a8, b8, h1, h2, h3⟩ := hn1
        cases Option.some.inj (h1.symm.trans hcl)
        cases Option.some.inj (h2.symm.trans hc6)
        exact Or.inr ⟨hz0, _, hcl6, h3⟩) hx (Or.inr ⟨h0, c4, hcl5, hasg⟩)
  obtain ⟨t, a1, b1⟩ := kk (T.setVm vm') hT X'
  exact ⟨t, st.trans a1, b1⟩
end Rows
section Ends
variable {p : Program} {l : Launch} {e : Env} {R : Room} {s : State} {m : MethodId} {args : Array Value} {below : List Frame} {meth : Method} {c : Code} {H : Heap} {locs : List Loc} {cells slots : Nat} {Q : State → Prop}
variable {mc ms : Nat} {free : Addr → Prop} {A0 A1 : Nat → Prop} {H0 : Heap} {a : Array Value} {ls : Array Slot} {st0 rest : List Value}
variable {Qc : Array Value → State → Outcome → State → Prop} {XC : String → State → State → Prop}
/-- what a body that may throw owes at its end -/
def vx_MQ (below : List Frame) (Qc : Array Value → State → Outcome → State → Prop) (XC : String → State → State → Prop) (a : Array Value) (s : State) (mc ms : Nat) (free : Addr → Prop) : State → Prop := fun t =>
  ∃ o, t.status = .running ∧ Ended t below o ∧ vx_Q Qc XC mc ms free a s o t
theorem vx_ret {g : JFrame} {mc ms : Nat} (k : W p l e R s m args below meth c H locs cells slots (MQ below Qc args s mc ms free) g) : W p l e R s m args below meth c H locs cells slots (vx_MQ below Qc XC args s mc ms free) g := by
  intro T hT X
  obtain ⟨t, a1, o, b1, b2, b3, b4⟩ := k T hT X
  exact ⟨t, a1, o, b1, b2, Or.inl ⟨b3, b4⟩⟩
/-- not caught here: it goes on to the caller -/
theorem vx_widen {g : JFrame} {q : Addr} {k n : Nat} (h1 : cells ≤ k) (h2 : slots ≤ n) (kk : vx_W p l e R s m args below meth c H locs k n Q g q) : vx_W p l e R s m args below meth c H locs cells slots Q g q := fun T hT X => kk T hT (stand_widen X h1 h2)
theorem vx_out {pc : Nat} {E : String} {ce : Cell} {q : Addr} {mc ms : Nat} (hout : ∀ x ∈ c.exceptionTable.toList, covers x pc = false) (hlocks : meth.locks = false) (hcell : H[q]? = some ce) (hv : ce.vm = .none) (hcl : s.vm.findClass E = some ce.cls)
    (hx : ∀ t : State, t.heap = H → s.vm.Alike t.vm → XC E s t) (hf : ∀ z ∈ locs, free z.base) (hc : cells ≤ mc) (hs : slots ≤ ms) :
    vx_W p l e R s m args below meth c H locs cells slots (vx_MQ below Qc XC args s mc ms free) (F0 m pc ls rest) q := by
  intro T hT X
  obtain ⟨st1, hrun, hend, hW, hsm⟩ := X.leaveThrown q (g := F0 m pc ls rest) rfl rfl rfl hout hlocks
  have hcell9 : (T.setFrames (.throwing q :: below)).heap[q]? = some ce := by
    show T.heap[q]? = some ce
    rw [hT]; exact hcell
  exact ⟨_, st1, .threw q, hrun, hend, Or.inr ⟨q, rfl, E, ce, locs, hx _ hT hW.alike, hcell9, hv, hcl, hW, hsm.mono hc hs, hf⟩⟩
theorem vx_frame {U : State} {k n : Nat} (h : s.sameButNew ({ U with vm := s.vm } : State) locs k n) : s.heap.size ≤ U.heap.size ∧ ∀ q : Nat, q < s.heap.size → (∀ z ∈ locs, z.base ≠ q) → U.heap[q]? = s.heap[q]? := by
  obtain ⟨-, h2, -, -, -, h6⟩ := h
  refine ⟨h2, fun q hq hz => ?_⟩
  obtain ⟨c9, e1, e2, e3, e4⟩ := h6 q _ (Array.getElem?_eq_getElem hq)
  have hs : c9.slots = (s.heap[q]).slots := Array.ext_getElem? fun i => e4 i fun hm => hz _ hm rfl
  have h9 : c9 = s.heap[q] := by
    rw [hs] at e2
    exact e2
  have e5 : U.heap[q]? = some c9 := e1
  rw [e5, h9, Array.getElem?_eq_getElem hq]
/-- the words of a throw but the four that speak of the heap -/
def vx_no (w : Cond) : Bool := decide (w ≠ .isRef (.static Bundle.tN "UNASSIGNED_STACK" Bundle.steD)) && decide (w ≠ .isRef (.static Bundle.tN "SUPPRESSED_SENTINEL" Bundle.listD)) && decide (w ≠ .laysStatic Bundle.tN "UNASSIGNED_STACK" Bundle.steD) && decide (w ≠ .laysStatic Bundle.tN "SUPPRESSED_SENTINEL" Bundle.listD)
def vx_at0 (own : String) (ic : Nat) (X : String) (names : List String) : List Cond := (Bundle.ownAtoms0 own ic X names).filter vx_no
def vx_atS (own : String) (ic : Nat) (X : String) (names : List String) : List Cond := (Bundle.ownAtoms own ic X names).filter vx_no
/-- a word that the tables alone decide, or a good one -/
def vx_ot (w : Cond) : Bool := w.onTables || goodWord w
theorem vx_ot_at {args a' : Array Value} {s U : State} {w : Cond} (hW : s.WarmedH U.vm) (hvm : s.vm = U.vm) (hg : vx_ot w = true) (h : w.before args s = true) : w.before a' U = true := by
  simp only [vx_ot, Bool.or_eq_true] at hg
  rcases hg with hg | hg
  · exact va_tabs hg hvm h
  · exact word_at hW (good_of_word hg) h
/-- a list's words: the good ones out of the method's own list, the others by premises of their own -/
theorem vx_hat {args : Array Value} {s : State} {L B : List Cond} (h1 : ∀ w ∈ L.filter goodWord, w.before args s = true) (h2 : ∀ w ∈ L.filter (fun w => !goodWord w), w ∈ B) (h3 : ∀ w ∈ B, w.before args s = true) : ∀ w ∈ L, w.before args s = true := by
  intro w hw
  by_cases g : goodWord w = true
  · exact h1 w (List.mem_filter.mpr ⟨hw, g⟩)
  · refine h3 w (h2 w (List.mem_filter.mpr ⟨hw, ?_⟩))
    show (!goodWord w) = true
    cases hgw : goodWord w
    · rfl
    · exact absurd hgw g
theorem vx_c {args : Array Value} {s : State} {w : Cond} {B : List Cond} (h : w.before args s = true) (t : ∀ w ∈ B, w.before args s = true) : ∀ w' ∈ w :: B, w'.before args s = true := fun w' h' => (List.mem_cons.mp h').elim (fun e => by rw [e]; exact h) (t w')
theorem vx_n {args : Array Value} {s : State} : ∀ w ∈ ([] : List Cond), w.before args s = true := fun _ h => nomatch h
theorem vx_own {args : Array Value} {s : State} {L : List Cond} (h1 : ∀ w ∈ L.filter vx_no, w.before args s = true)
    (hU : (Cond.isRef (.static Bundle.tN "UNASSIGNED_STACK" Bundle.steD)).before args s = true) (hN : (Cond.isRef (.static Bundle.tN "SUPPRESSED_SENTINEL" Bundle.listD)).before args s = true)
    (lU : (Cond.laysStatic Bundle.tN "UNASSIGNED_STACK" Bundle.steD).before args s = true) (lN : (Cond.laysStatic Bundle.tN "SUPPRESSED_SENTINEL" Bundle.listD).before args s = true) : ∀ w ∈ L, w.before args s = true := by
  intro w hw
  by_cases e1 : w = .isRef (.static Bundle.tN "UNASSIGNED_STACK" Bundle.steD)
  · rw [e1]; exact hU
  · by_cases e2 : w = .isRef (.static Bundle.tN "SUPPRESSED_SENTINEL" Bundle.listD)
    · rw [e2]; exact hN
    · by_cases e3 : w = .laysStatic Bundle.tN "UNASSIGNED_STACK" Bundle.steD
      · rw [e3]; exact lU
      · by_cases e4 : w = .laysStatic Bundle.tN "SUPPRESSED_SENTINEL" Bundle.listD
        · rw [e4]; exact lN
        · exact h1 w (List.mem_filter.mpr ⟨hw, by unfold vx_no; rw [decide_eq_true e1, decide_eq_true e2, decide_eq_true e3, decide_eq_true e4]; rfl⟩)
/-- where a static field lies, its class's statics cell in H -/
def vx_L (C n d : String) (A : Nat → Prop) (U : State) (H : Heap) : Prop := ∃ (c : ClassId) (k : Class) (i : Nat) (f : Field) (a : Nat) (cell : Cell), U.vm.findClass C = some c ∧ U.fieldFound? C n d = some (c, k, i, f) ∧ f.isStatic = true ∧ k.statics = some a ∧ H[a]? = some cell ∧ cell.vm.isStatics = true ∧ cell.cls = c ∧ f.slot < cell.slots.size ∧ k.staticTypes[f.slot]? = some f.type ∧ ¬ A a
theorem vx_L.moved {C n d : String} {A : Nat → Prop} {u U : State} {H : Heap} (hvm : u.vm.Alike U.vm) (h : vx_L C n d A u H) : vx_L C n d A U H := by
  obtain ⟨c, k, i, f, a, cell, h1, h2, h3, h4, h5, h6, h7, h8, h9, h10⟩ := h
  obtain ⟨k', hi', he⟩ := State.fieldFound?_setVm hvm h2
  exact ⟨c, k', i, f, a, cell, by rw [hvm.findClass]; exact h1, hi', h3, by rw [he]; exact h4, h5, h6, h7, h8, by rw [he]; exact h9, h10⟩
theorem vx_L.kept {C n d : String} {A : Nat → Prop} {U : State} {H H1 : Heap} (h : vx_L C n d A U H) (hq : ∀ a : Nat, a < H.size → ¬ A a → H1[a]? = H[a]?) : vx_L C n d A U H1 := by
  obtain ⟨c, k, i, f, a, cell, h1, h2, h3, h4, h5, h6, h7, h8, h9, h10⟩ := h
  exact ⟨c, k, i, f, a, cell, h1, h2, h3, h4, by rw [hq a (Array.getElem?_eq_some_iff.mp h5).1 h10]; exact h5, h6, h7, h8, h9, h10⟩
theorem vx_L.narrow {C n d : String} {A B : Nat → Prop} {U : State} {H : Heap} (h : vx_L C n d A U H) (hAB : ∀ q, B q → A q) : vx_L C n d B U H := by
  obtain ⟨c, k, i, f, a, cell, h1, h2, h3, h4, h5, h6, h7, h8, h9, h10⟩ := h
  exact ⟨c, k, i, f, a, cell, h1, h2, h3, h4, h5, h6, h7, h8, h9, fun z => h10 (hAB _ z)⟩
theorem vx_L.word {C n d : String} {A : Nat → Prop} {s : State} {args : Array Value} (h : vx_L C n d A s s.heap) : (Cond.laysStatic C n d).before args s = true := by
  obtain ⟨c, k, i, f, a, cell, h1, h2, h3, h4, h5, h6, h7, h8, h9, -⟩ := h
  show (Cond.laysStatic C n d).holds args s none s [] = true
  exact Cond.laysStatic_of h1 h2 h3 h4 h5 h6 h7 h8 h9
/-- .. and what it holds: null or some reference -/
def vx_Zq (C n d : String) (A : Nat → Prop) (U : State) (H : Heap) : Prop := va_Zq C n d A U H ∧ vx_L C n d A U H
theorem vx_Zq.moved {C n d : String} {A : Nat → Prop} {u U : State} {H : Heap} (hvm : u.vm.Alike U.vm) (h : vx_Zq C n d A u H) : vx_Zq C n d A U H := ⟨va_Zq.moved hvm h.1, vx_L.moved hvm h.2⟩
theorem vx_Zq.kept {C n d : String} {A : Nat → Prop} {U : State} {H H1 : Heap} (h : vx_Zq C n d A U H) (hq : ∀ a : Nat, a < H.size → ¬ A a → H1[a]? = H[a]?) : vx_Zq C n d A U H1 := ⟨va_Zq.kept h.1 hq, vx_L.kept h.2 hq⟩
theorem vx_Zq.narrow {C n d : String} {A B : Nat → Prop} {U : State} {H : Heap} (h : vx_Zq C n d A U H) (hAB : ∀ q, B q → A q) : vx_Zq C n d B U H := ⟨va_Zq.narrow h.1 hAB, vx_L.narrow h.2 hAB⟩
theorem vx_Zqof {args : Array Value} {s : State} {C n d : String} {A : Nat → Prop} (hl : (Cond.laysStatic C n d).before args s = true) (hini : (Cond.initialized C).before args s = true) (h : (Cond.isRef (.static C n d)).before args s = true) (hA : ∀ a : Nat, a < s.heap.size → ¬ A a) : vx_Zq C n d A s s.heap := by
  refine ⟨va_Zqof hl hini h hA, ?_⟩
  obtain ⟨c, k, i, f, a, cell, h1, h2, h3, h4, h5, h6, h7, h8, h9⟩ := Cond.laysStatic_spec hl
  exact ⟨c, k, i, f, a, cell, h1, h2, h3, h4, h5, h6, h7, h8, h9, hA a (Array.getElem?_eq_some_iff.mp h5).1⟩
theorem vx_isRef {C n d : String} {v : Value} {A : Nat → Prop} {s : State} {args : Array Value} (h : va_Z C n d v A s s.heap) (hv : v.isRef = true) : (Cond.isRef (.static C n d)).before args s = true := by
  obtain ⟨cf, kf, fi, f, a, cell, h1, h2, h3, h4, h5, h6, h7, -⟩ := h
  have he : (Term.static C n d).eval args s none [] s = some v := by
    simp [Term.eval, State.fieldNamed?, h1, h2, h4, h5, h6, h7]
  simp only [Cond.before, Cond.holds, Cond.value, he]
  cases v <;> simp_all [Value.isRef]
theorem vx_isRefq {C n d : String} {A : Nat → Prop} {s : State} {args : Array Value} (h : va_Zq C n d A s s.heap) : (Cond.isRef (.static C n d)).before args s = true := by
  rcases h with h | ⟨t, h⟩
  · exact vx_isRef h rfl
  · exact vx_isRef h rfl
/-- the same frame, seen from here: as if the method were called anew in this heap -/
theorem vx_rebase {T : State} (X : Stand p l e R s m args below meth c T locs cells slots) {R' : Room} (hf : R'.frames ≤ R.frames) (hl : R'.locals ≤ R.locals) (hc : cells + R'.cells ≤ R.cells) (hs : slots + R'.slots ≤ R.slots) :
    Stand p l e R' ((T.setVm s.vm).setFrames (.invoking m args :: below)) m args below meth c T [] 0 0 := by
  have htop : (T.setVm s.vm).topJava?.isSome := X.here.top
  have hF : ((T.setVm s.vm).setFrames (.invoking m args :: below)).frames = .invoking m args :: below := State.frames_setFrames _ (State.cur_lt_of_top htop)
  obtain ⟨g₀, hg0⟩ := Option.isSome_iff_exists.mp htop
  obtain ⟨r, hr⟩ := State.topJava?_eq_some.mp hg0
  have hl9 : e.platform.stackLimits (T.setVm s.vm).me = e.platform.stackLimits s.me := X.limits
  have hb9 : (T.setVm s.vm).me.stackBytes = s.me.stackBytes := X.bytes
  refine ⟨X.admits, X.cas, X.clock, hF, ?_, X.hears, X.method, X.code, X.here, X.tail, X.warmed, ?_, ?_, ?_⟩
  · have h := X.room
    have hU : ((T.setVm s.vm).setFrames (.invoking m args :: below)).localsInUse = s.localsInUse := by
      rw [State.localsInUse_invoking hF (meth := meth) (c := c) X.method X.code, State.localsInUse_invoking X.frames X.method X.code]
    simp only [State.hasRoom, Bool.and_eq_true, decide_eq_true_eq] at h ⊢
    obtain ⟨⟨⟨⟨h1, h2, h3, h4, h5, h6⟩, h7⟩, h8⟩, h9⟩ := h
    rw [X.frames, List.length_cons] at h2 h3
    have q1 := X.heapSize
    have q2 := X.used
    simp only [hF, hU, List.length_cons, State.stackLimits_setFrames, State.stackBytes_setFrames, hl9, hb9]
    refine ⟨⟨⟨⟨by omega, by omega, by omega, by omega, by omega, h6⟩, ?_⟩, ?_⟩, X.book⟩
    · show T.heap.size + R'.cells ≤ e.platform.maxCells
      omega
    · show T.slotsUsed + R'.slots ≤ e.platform.maxSlots
      omega
  · rw [State.stackLimits_setFrames]; rfl
  · rw [State.stackBytes_setFrames]; rfl
  · refine ⟨?_, Nat.le_refl _, Nat.le_refl _, ?_, ?_, fun a c9 h9 => ⟨c9, h9, rfl, rfl, fun _ _ => rfl⟩⟩
    · obtain ⟨t, ht, -⟩ := State.frames_cons hr
      show T.setVm s.vm = { ((T.setVm s.vm).setFrames (.invoking m args :: below)).setFrames (T.setVm s.vm).frames with heap := T.heap, slotsUsed := T.slotsUsed }
      rw [State.setFrames_setFrames, State.setFrames_self ht]
      rfl
    · show T.slotsUsed = T.slotsUsed + ((T.heap.toList.drop T.heap.size).map (·.slots.size)).sum
      rw [List.drop_eq_nil_of_le (Nat.le_of_eq Array.length_toList)]
      rfl
    · show ((T.heap.toList.drop T.heap.size).map (·.slots.size)).sum ≤ 0
      rw [List.drop_eq_nil_of_le (Nat.le_of_eq Array.length_toList)]
      exact Nat.le_refl _
/-- 'throw new E()': new; dup; invokespecial; athrow -/
theorem vx_throw0 {cc : ByteArray} {pc : Nat} (hexec : p.tables.exec = Jvm.exec) (hb : c.code = cc) (hl : l.stackTraces = false) {own cls : String} {names : List String} {ik ic mc ms : Nat} {A : Nat → Prop}
    (hown : s.vm.findClass own = some m.cls) (hcls : Bundle.fit cls = true) (hnames : ∀ n ∈ names, Bundle.fit n = true)
    (hk : (Cond.classLink own ik cls).before args s = true) (hini : (Cond.initialized cls).before args s = true) (hat : ∀ w ∈ vx_at0 own ic cls names, w.before args s = true)
    (hgood : ∀ w ∈ Cond.classLink own ik cls :: Cond.initialized cls :: vx_at0 own ic cls names, vx_ot w = true)
    (hU : vx_Zq Bundle.tN "UNASSIGNED_STACK" Bundle.steD A s s.heap) (hN : vx_Zq Bundle.tN "SUPPRESSED_SENTINEL" Bundle.listD A s s.heap) (hS : va_S A s.heap H locs) (hsize : ls.size = c.maxLocals)
    (d0 : decode cc pc = .ok (.new ik, 3)) (d3 : decode cc (pc + 3) = .ok (.dup, 1)) (d4 : decode cc (pc + 4) = .ok (.invokespecial ic, 3)) (d7 : decode cc (pc + 7) = .ok (.athrow, 1))
    (hout : ∀ x ∈ c.exceptionTable.toList, covers x (pc + 7) = false)
    (hRframes : names.length + 3 < R.frames) (hRlocals : (rest.map fun v => v.category).sum + (13 * (names.length + 1) + 42) ≤ R.locals) (hRcells : cells + 1 ≤ R.cells) (hRslots : slots + 6 ≤ R.slots) (hlocks : meth.locks = false)
    (hx : ∀ t : State, s.vm.Alike t.vm → H.size ≤ t.heap.size → (∀ q : Nat, q < H.size → t.heap[q]? = H[q]?) → XC cls s t)
    (hf : ∀ z ∈ locs, free z.base) (hc : cells + 1 ≤ mc) (hs : slots + 6 ≤ ms) :
    W p l e R s m args below meth c H locs cells slots (vx_MQ below Qc XC args s mc ms free) (F0 m pc ls rest) := by
  intro T hT X
  have htr : e.platform.stackTraces = false := (show e.platform.stackTraces = l.stackTraces by rw [X.admits.platform]).trans hl
  have Y := vx_rebase X (R' := { frames := R.frames, locals := R.locals, cells := 1, slots := 6 }) (Nat.le_refl _) (Nat.le_refl _) hRcells hRslots
  obtain ⟨s', hA⟩ : ∃ z, z = (T.setVm s.vm).setFrames (.invoking m args :: below) := ⟨_, rfl⟩
  rw [← hA] at Y
  have hvm : s'.vm = s.vm := by rw [hA]; rfl
  have hhp : s'.heap = H := by rw [hA]; exact hT
  have hW0 : s.WarmedH s'.vm := by rw [hvm]; exact State.WarmedH.refl s
  have hat' : ∀ w ∈ vx_at0 own ic cls names, w.before args s' = true := fun w hw => vx_ot_at hW0 hvm.symm (hgood w (List.mem_cons_of_mem _ (List.mem_cons_of_mem _ hw))) (hat w hw)
  have hk' : (Cond.classLink own ik cls).before args s' = true := vx_ot_at hW0 hvm.symm (hgood _ List.mem_cons_self) hk
  have hini' : (Cond.initialized cls).before args s' = true := vx_ot_at hW0 hvm.symm (hgood _ (List.mem_cons_of_mem _ List.mem_cons_self)) hini
  have hU' : vx_Zq Bundle.tN "UNASSIGNED_STACK" Bundle.steD A s' s'.heap := by rw [hhp]; exact vx_Zq.moved hW0.alike (hU.kept hS.2.1)
  have hN' : vx_Zq Bundle.tN "SUPPRESSED_SENTINEL" Bundle.listD A s' s'.heap := by rw [hhp]; exact vx_Zq.moved hW0.alike (hN.kept hS.2.1)
  have h : ∀ w ∈ Bundle.ownAtoms0 own ic cls names, w.before args s' = true := vx_own hat' (vx_isRefq hU'.1) (vx_isRefq hN'.1) hU'.2.word hN'.2.word
  have hown' : s'.vm.findClass own = some m.cls := by rw [hvm]; exact hown
  have hins : (Cond.instantiable cls 6).before args s' = true := h _ (by simp [Bundle.ownAtoms0])
  obtain ⟨vm₁, cX, kX, hfX, hkX, -, -, X₁, st1⟩ := Y.newCold hexec (own := own) (C := cls) (index := ik) (n := 6) hown' hk' hins hini'
    (g := F0 m pc ls rest) rfl (by rw [hb]; exact d0) (Nat.le_refl _) (Nat.le_refl _)
  generalize hT1 : (T.setVm vm₁).pushCell { cls := cX, slots := kX.instanceTypes.map defaultValue, vm := .none } = T1 at X₁ st1
  have hcat : (Value.ref T.heap.size).category = 1 := rfl
  have hcellA : T1.heap[T.heap.size]? = some (freshCell cX kX) := by rw [← hT1]; exact State.heap_pushCell_size _ _
  have d3' : decode c.code (pc + 3) = .ok (.dup, 1) := by rw [hb]; exact d3
  obtain ⟨U, hsteps, hrun, hend, hW, hsame, ce, hce, hO⟩ := X₁.ctorThrow0 hexec htr (own := own) (cls := cls) (names := names) (ic := ic) hown' hcls hnames h (fun x hx => nomatch hx) hfX hkX hcellA (by rw [hhp, hT]; exact Nat.le_refl _)
    (g := { method := m, pc := pc + 4, locals := ls, stack := .ref T.heap.size :: .ref T.heap.size :: rest, locked := none }) rfl hsize rfl rfl (rest := rest) rfl
    (by rw [hb]; exact d4) (by rw [hb]; exact d7) hout hRframes (by simp only [List.map_cons, List.sum_cons, hcat]; omega) hlocks
  obtain ⟨f1, f2⟩ := vx_frame hsame
  rw [hhp] at f1 f2
  have hWs : s.WarmedH U.vm := State.WarmedH.trans hW0 hW
  have hcl : s.vm.findClass cls = some ce.cls := by
    have h9 := hO.cls
    rw [hvm] at h9
    exact h9
  have hall : s.sameButNew ({ U with vm := s.vm } : State) locs mc ms := by
    subst hA
    obtain ⟨e1, e2⟩ := hsame
    rw [State.setFrames_setFrames] at e1
    have h2 : (T.setVm s.vm).sameButNew ({ U with vm := s.vm } : State) [] (0 + 1) (0 + 6) := ⟨e1, e2⟩
    have h3 := X.same.trans h2
    rw [List.append_nil] at h3
    exact h3.mono hc hs
  refine ⟨U, ?_, .threw T.heap.size, hrun, hend, Or.inr ⟨T.heap.size, rfl, cls, ce, locs, hx U hWs.alike f1 (fun q hq => f2 q hq (fun z hz => nomatch hz)), hce, hO.vm, hcl, hWs, hall, hf⟩⟩
  refine st1 _ ?_
  show Steps p.tables e below (T1.setTop { method := m, pc := pc + 3, locals := ls, stack := .ref T.heap.size :: rest, locked := none }) _
  jvm_step X₁.here [X₁.here.top, hexec, d3', Value.category]
  exact hsteps
/-- 'throw new E("text")': new; dup; ldc; invokespecial; athrow -/
theorem vx_throwS {cc : ByteArray} {pc : Nat} (hexec : p.tables.exec = Jvm.exec) (hb : c.code = cc) (hl : l.stackTraces = false) {own cls text : String} {names : List String} {ik is ic mc ms sa : Nat} {A : Nat → Prop}
    (hown : s.vm.findClass own = some m.cls) (hcls : Bundle.fit cls = true) (hnames : ∀ n ∈ names, Bundle.fit n = true)
    (hk : (Cond.classLink own ik cls).before args s = true) (hini : (Cond.initialized cls).before args s = true) (hstr : vk_R own is text sa s) (hat : ∀ w ∈ vx_atS own ic cls names, w.before args s = true)
    (hgood : ∀ w ∈ Cond.classLink own ik cls :: Cond.initialized cls :: vx_atS own ic cls names, vx_ot w = true)
    (hU : vx_Zq Bundle.tN "UNASSIGNED_STACK" Bundle.steD A s s.heap) (hN : vx_Zq Bundle.tN "SUPPRESSED_SENTINEL" Bundle.listD A s s.heap) (hS : va_S A s.heap H locs) (hsize : ls.size = c.maxLocals)
    (d0 : decode cc pc = .ok (.new ik, 3)) (d3 : decode cc (pc + 3) = .ok (.dup, 1)) (d4 : decode cc (pc + 4) = .ok (.ldc is, 2)) (d6 : decode cc (pc + 6) = .ok (.invokespecial ic, 3)) (d9 : decode cc (pc + 9) = .ok (.athrow, 1))
    (hout : ∀ x ∈ c.exceptionTable.toList, covers x (pc + 9) = false)
    (hRframes : names.length + 3 < R.frames) (hRlocals : (rest.map fun v => v.category).sum + (13 * (names.length + 1) + 43) ≤ R.locals) (hRcells : cells + 1 ≤ R.cells) (hRslots : slots + 6 ≤ R.slots) (hlocks : meth.locks = false)
    (hx : ∀ t : State, s.vm.Alike t.vm → H.size ≤ t.heap.size → (∀ q : Nat, q < H.size → t.heap[q]? = H[q]?) → XC cls s t)
    (hf : ∀ z ∈ locs, free z.base) (hc : cells + 1 ≤ mc) (hs : slots + 6 ≤ ms) :
    W p l e R s m args below meth c H locs cells slots (vx_MQ below Qc XC args s mc ms free) (F0 m pc ls rest) := by
  intro T hT X
  have htr : e.platform.stackTraces = false := (show e.platform.stackTraces = l.stackTraces by rw [X.admits.platform]).trans hl
  have Y := vx_rebase X (R' := { frames := R.frames, locals := R.locals, cells := 1, slots := 6 }) (Nat.le_refl _) (Nat.le_refl _) hRcells hRslots
  obtain ⟨s', hA⟩ : ∃ z, z = (T.setVm s.vm).setFrames (.invoking m args :: below) := ⟨_, rfl⟩
  rw [← hA] at Y
  have hvm : s'.vm = s.vm := by rw [hA]; rfl
  have hhp : s'.heap = H := by rw [hA]; exact hT
  have hW0 : s.WarmedH s'.vm := by rw [hvm]; exact State.WarmedH.refl s
  have hat' : ∀ w ∈ vx_atS own ic cls names, w.before args s' = true := fun w hw => vx_ot_at hW0 hvm.symm (hgood w (List.mem_cons_of_mem _ (List.mem_cons_of_mem _ hw))) (hat w hw)
  have hk' : (Cond.classLink own ik cls).before args s' = true := vx_ot_at hW0 hvm.symm (hgood _ List.mem_cons_self) hk
  have hini' : (Cond.initialized cls).before args s' = true := vx_ot_at hW0 hvm.symm (hgood _ (List.mem_cons_of_mem _ List.mem_cons_self)) hini
  have hU' : vx_Zq Bundle.tN "UNASSIGNED_STACK" Bundle.steD A s' s'.heap := by rw [hhp]; exact vx_Zq.moved hW0.alike (hU.kept hS.2.1)
  have hN' : vx_Zq Bundle.tN "SUPPRESSED_SENTINEL" Bundle.listD A s' s'.heap := by rw [hhp]; exact vx_Zq.moved hW0.alike (hN.kept hS.2.1)
  have h : ∀ w ∈ Bundle.ownAtoms own ic cls names, w.before args s' = true := vx_own hat' (vx_isRefq hU'.1) (vx_isRefq hN'.1) hU'.2.word hN'.2.word
  have hown' : s'.vm.findClass own = some m.cls := by rw [hvm]; exact hown
  have hins : (Cond.instantiable cls 6).before args s' = true := h _ (by simp [Bundle.ownAtoms])
  obtain ⟨vm₁, cX, kX, hfX, hkX, -, -, X₁, st1⟩ := Y.newCold hexec (own := own) (C := cls) (index := ik) (n := 6) hown' hk' hins hini'
    (g := F0 m pc ls rest) rfl (by rw [hb]; exact d0) (Nat.le_refl _) (Nat.le_refl _)
  generalize hT1 : (T.setVm vm₁).pushCell { cls := cX, slots := kX.instanceTypes.map defaultValue, vm := .none } = T1 at X₁ st1
  have hcat : (Value.ref T.heap.size).category = 1 := rfl
  have hcellA : T1.heap[T.heap.size]? = some (freshCell cX kX) := by rw [← hT1]; exact State.heap_pushCell_size _ _
  have d3' : decode c.code (pc + 3) = .ok (.dup, 1) := by rw [hb]; exact d3
  have d4' : decode c.code (pc + 4) = .ok (.ldc is, 2) := by rw [hb]; exact d4
  have hstr' : vk_R own is text sa s' := vk_R.warm hW0 hstr
  obtain ⟨U, hsteps, hrun, hend, hW, hsame, ce, hce, hO⟩ := X₁.ctorThrowS hexec htr (own := own) (cls := cls) (names := names) (ic := ic) hown' hcls hnames h (fun x hx => nomatch hx) hfX hkX hcellA (by rw [hhp, hT]; exact Nat.le_refl _) (msg := .ref sa) rfl
    (g := { method := m, pc := pc + 6, locals := ls, stack := .ref sa :: .ref T.heap.size :: .ref T.heap.size :: rest, locked := none }) rfl hsize rfl rfl (rest := rest) rfl
    (by rw [hb]; exact d6) (by rw [hb]; exact d9) hout hRframes (by simp only [List.map_cons, List.sum_cons, hcat]; omega) hlocks
  obtain ⟨f1, f2⟩ := vx_frame hsame
  rw [hhp] at f1 f2
  have hWs : s.WarmedH U.vm := State.WarmedH.trans hW0 hW
  have hcl : s.vm.findClass cls = some ce.cls := by
    have h9 := hO.cls
    rw [hvm] at h9
    exact h9
  have hall : s.sameButNew ({ U with vm := s.vm } : State) locs mc ms := by
    subst hA
    obtain ⟨e1, e2⟩ := hsame
    rw [State.setFrames_setFrames] at e1
    have h2 : (T.setVm s.vm).sameButNew ({ U with vm := s.vm } : State) [] (0 + 1) (0 + 6) := ⟨e1, e2⟩
    have h3 := X.same.trans h2
    rw [List.append_nil] at h3
    exact h3.mono hc hs
  refine ⟨U, ?_, .threw T.heap.size, hrun, hend, Or.inr ⟨T.heap.size, rfl, cls, ce, locs, hx U hWs.alike f1 (fun q hq => f2 q hq (fun z hz => nomatch hz)), hce, hO.vm, hcl, hWs, hall, hf⟩⟩
  refine st1 _ ?_
  show Steps p.tables e below (T1.setTop { method := m, pc := pc + 3, locals := ls, stack := .ref T.heap.size :: rest, locked := none }) _
  jvm_step X₁.here [X₁.here.top, hexec, d3', Value.category]
  exact X₁.ldcString hexec (own := own) (text := text) (index := is) (a := sa) hown' hstr'.1 hstr'.2
    (g := { method := m, pc := pc + 4, locals := ls, stack := .ref T.heap.size :: .ref T.heap.size :: rest, locked := none }) rfl d4' _ hsteps
/-- 'throw new E("text")', the text by a wide index -/
theorem vx_throwSW {cc : ByteArray} {pc : Nat} (hexec : p.tables.exec = Jvm.exec) (hb : c.code = cc) (hl : l.stackTraces = false) {own cls text : String} {names : List String} {ik is ic mc ms sa : Nat} {A : Nat → Prop}
    (hown : s.vm.findClass own = some m.cls) (hcls : Bundle.fit cls = true) (hnames : ∀ n ∈ names, Bundle.fit n = true)
    (hk : (Cond.classLink own ik cls).before args s = true) (hini : (Cond.initialized cls).before args s = true) (hstr : vk_R own is text sa s) (hat : ∀ w ∈ vx_atS own ic cls names, w.before args s = true)
    (hgood : ∀ w ∈ Cond.classLink own ik cls :: Cond.initialized cls :: vx_atS own ic cls names, vx_ot w = true)
    (hU : vx_Zq Bundle.tN "UNASSIGNED_STACK" Bundle.steD A s s.heap) (hN : vx_Zq Bundle.tN "SUPPRESSED_SENTINEL" Bundle.listD A s s.heap) (hS : va_S A s.heap H locs) (hsize : ls.size = c.maxLocals)
    (d0 : decode cc pc = .ok (.new ik, 3)) (d3 : decode cc (pc + 3) = .ok (.dup, 1)) (d4 : decode cc (pc + 4) = .ok (.ldc_w is, 3)) (d7 : decode cc (pc + 7) = .ok (.invokespecial ic, 3)) (d10 : decode cc (pc + 10) = .ok (.athrow, 1))
    (hout : ∀ x ∈ c.exceptionTable.toList, covers x (pc + 10) = false)
    (hRframes : names.length + 3 < R.frames) (hRlocals : (rest.map fun v => v.category).sum + (13 * (names.length + 1) + 43) ≤ R.locals) (hRcells : cells + 1 ≤ R.cells) (hRslots : slots + 6 ≤ R.slots) (hlocks : meth.locks = false)
    (hx : ∀ t : State, s.vm.Alike t.vm → H.size ≤ t.heap.size → (∀ q : Nat, q < H.size → t.heap[q]? = H[q]?) → XC cls s t)
    (hf : ∀ z ∈ locs, free z.base) (hc : cells + 1 ≤ mc) (hs : slots + 6 ≤ ms) :
    W p l e R s m args below meth c H locs cells slots (vx_MQ below Qc XC args s mc ms free) (F0 m pc ls rest) := by
  intro T hT X
  have htr : e.platform.stackTraces = false := (show e.platform.stackTraces = l.stackTraces by rw [X.admits.platform]).trans hl
  have Y := vx_rebase X (R' := { frames := R.frames, locals := R.locals, cells := 1, slots := 6 }) (Nat.le_refl _) (Nat.le_refl _) hRcells hRslots
  obtain ⟨s', hA⟩ : ∃ z, z = (T.setVm s.vm).setFrames (.invoking m args :: below) := ⟨_, rfl⟩
  rw [← hA] at Y
  have hvm : s'.vm = s.vm := by rw [hA]; rfl
  have hhp : s'.heap = H := by rw [hA]; exact hT
  have hW0 : s.WarmedH s'.vm := by rw [hvm]; exact State.WarmedH.refl s
  have hat' : ∀ w ∈ vx_atS own ic cls names, w.before args s' = true := fun w hw => vx_ot_at hW0 hvm.symm (hgood w (List.mem_cons_of_mem _ (List.mem_cons_of_mem _ hw))) (hat w hw)
  have hk' : (Cond.classLink own ik cls).before args s' = true := vx_ot_at hW0 hvm.symm (hgood _ List.mem_cons_self) hk
  have hini' : (Cond.initialized cls).before args s' = true := vx_ot_at hW0 hvm.symm (hgood _ (List.mem_cons_of_mem _ List.mem_cons_self)) hini
  have hU' : vx_Zq Bundle.tN "UNASSIGNED_STACK" Bundle.steD A s' s'.heap := by rw [hhp]; exact vx_Zq.moved hW0.alike (hU.kept hS.2.1)
  have hN' : vx_Zq Bundle.tN "SUPPRESSED_SENTINEL" Bundle.listD A s' s'.heap := by rw [hhp]; exact vx_Zq.moved hW0.alike (hN.kept hS.2.1)
  have h : ∀ w ∈ Bundle.ownAtoms own ic cls names, w.before args s' = true := vx_own hat' (vx_isRefq hU'.1) (vx_isRefq hN'.1) hU'.2.word hN'.2.word
  have hown' : s'.vm.findClass own = some m.cls := by rw [hvm]; exact hown
  have hins : (Cond.instantiable cls 6).before args s' = true := h _ (by simp [Bundle.ownAtoms])
  obtain ⟨vm₁, cX, kX, hfX, hkX, -, -, X₁, st1⟩ := Y.newCold hexec (own := own) (C := cls) (index := ik) (n := 6) hown' hk' hins hini'
    (g := F0 m pc ls rest) rfl (by rw [hb]; exact d0) (Nat.le_refl _) (Nat.le_refl _)
  generalize hT1 : (T.setVm vm₁).pushCell { cls := cX, slots := kX.instanceTypes.map defaultValue, vm := .none } = T1 at X₁ st1
  have hcat : (Value.ref T.heap.size).category = 1 := rfl
  have hcellA : T1.heap[T.heap.size]? = some (freshCell cX kX) := by rw [← hT1]; exact State.heap_pushCell_size _ _
  have d3' : decode c.code (pc + 3) = .ok (.dup, 1) := by rw [hb]; exact d3
  have d4' : decode c.code (pc + 4) = .ok (.ldc_w is, 3) := by rw [hb]; exact d4
  have hstr' : vk_R own is text sa s' := vk_R.warm hW0 hstr
  obtain ⟨U, hsteps, hrun, hend, hW, hsame, ce, hce, hO⟩ := X₁.ctorThrowS hexec htr (own := own) (cls := cls) (names := names) (ic := ic) hown' hcls hnames h (fun x hx => nomatch hx) hfX hkX hcellA (by rw [hhp, hT]; exact Nat.le_refl _) (msg := .ref sa) rfl
    (g := { method := m, pc := pc + 7, locals := ls, stack := .ref sa :: .ref T.heap.size :: .ref T.heap.size :: rest, locked := none }) rfl hsize rfl rfl (rest := rest) rfl
    (by rw [hb]; exact d7) (by rw [hb]; exact d10) hout hRframes (by simp only [List.map_cons, List.sum_cons, hcat]; omega) hlocks
  obtain ⟨f1, f2⟩ := vx_frame hsame
  rw [hhp] at f1 f2
  have hWs : s.WarmedH U.vm := State.WarmedH.trans hW0 hW
  have hcl : s.vm.findClass cls = some ce.cls := by
    have h9 := hO.cls
    rw [hvm] at h9
    exact h9
  have hall : s.sameButNew ({ U with vm := s.vm } : State) locs mc ms := by
    subst hA
    obtain ⟨e1, e2⟩ := hsame
    rw [State.setFrames_setFrames] at e1
    have h2 : (T.setVm s.vm).sameButNew ({ U with vm := s.vm } : State) [] (0 + 1) (0 + 6) := ⟨e1, e2⟩
    have h3 := X.same.trans h2
    rw [List.append_nil] at h3
    exact h3.mono hc hs
  refine ⟨U, ?_, .threw T.heap.size, hrun, hend, Or.inr ⟨T.heap.size, rfl, cls, ce, locs, hx U hWs.alike f1 (fun q hq => f2 q hq (fun z hz => nomatch hz)), hce, hO.vm, hcl, hWs, hall, hf⟩⟩
  refine st1 _ ?_
  show Steps p.tables e below (T1.setTop { method := m, pc := pc + 3, locals := ls, stack := .ref T.heap.size :: rest, locked := none }) _
  jvm_step X₁.here [X₁.here.top, hexec, d3', Value.category]
  exact X₁.ldcStringW hexec (own := own) (text := text) (index := is) (a := sa) hown' hstr'.1 hstr'.2
    (g := { method := m, pc := pc + 4, locals := ls, stack := .ref T.heap.size :: .ref T.heap.size :: rest, locked := none }) rfl d4' _ hsteps
end Ends
section Bodies
variable {l : Launch}
theorem vx_ofW {y : MethodName} {ws ws' : List Cond} {rm : Room} {Pc : Array Value → State → Prop} {Qc : Array Value → State → Outcome → State → Prop} {XC : String → State → State → Prop} {mc ms : Nat} {free : Addr → Prop} {cc : ByteArray} {maxL : Nat} {ret : Option FieldType}
    (hy : plainName y.cls = true) (hw : ws = Cond.code y cc maxL ret :: ws')
    (body : ∀ p e s m args below meth c s₁, BodyLoose p l y (headSpec ws rm) cc maxL ret e s m args below meth c s₁ → c.maxLocals = maxL → (∀ x ∈ c.exceptionTable.toList, False) → Pc args s →
      W p l e (headSpec ws rm).room s m args below meth c s.heap [] 0 0 (vx_MQ below Qc XC args s mc ms free) (entryFrame m args maxL)) : vx_Met l y ws rm Pc Qc XC mc ms free := by
  refine MetFree.of_bodyS (code := cc) (maxLocals := maxL) (ret := ret) hy ?_ ?_
  · intro args s m h hn
    obtain ⟨meth, c, h1, h2, h3, h4, h5, h6, -, -⟩ := Cond.code_spec hn (atoms_spec (ws := ws) h _ (by rw [hw]; exact List.mem_cons_self))
    exact ⟨meth, c, h1, h2, h3, h4, h5, h6⟩
  · intro p e s m args below meth c s₁ B hml hP _
    have hh0 : s₁.heap = s.heap := by rw [B.state]; rfl
    have ht : ∀ x ∈ c.exceptionTable.toList, False := by
      obtain ⟨meth9, c9, h1, h2, -, -, -, -, h7, -⟩ := Cond.code_spec B.named (atoms_spec (ws := ws) B.pre _ (by rw [hw]; exact List.mem_cons_self))
      cases Option.some.inj (h1.symm.trans B.method)
      cases Option.some.inj (h2.symm.trans (Stand.of_body B).code)
      intro x hx
      rw [Array.isEmpty_iff.mp h7] at hx
      cases hx
    obtain ⟨t, a1, o, b1, b2, b3⟩ := body p e s m args below meth c s₁ B hml ht hP s₁ hh0 (Stand.of_body B)
    exact ⟨t, o, a1, b1, b2, b3⟩
/-- the table of a body with handlers -/
theorem vx_table {p : Program} {x y : MethodName} {S : Spec} {cc bytes : ByteArray} {maxL maxL' : Nat} {ret ret' : Option FieldType} {e : Env} {s s₁ : State} {m : MethodId} {args : Array Value} {below : List Frame} {meth : Method} {c : Code} {hh : List (Nat × Nat × Nat × Nat)}
    (B : BodyLoose p l y S cc maxL ret e s m args below meth c s₁) (h : (Cond.codeWith y bytes maxL' ret' hh).before args s = true) : c.exceptionTable.toList = tableOf hh := by
  obtain ⟨m9, meth9, c9, hn9, h1, h2, -, -, h6, -⟩ := Cond.codeWith_spec h
  cases Option.some.inj (hn9.symm.trans B.named)
  cases Option.some.inj (h1.symm.trans B.method)
  cases Option.some.inj (h2.symm.trans (Stand.of_body B).code)
  rw [← h6, table_eq]
end Bodies
end VXA
/-! ===== END ===== -/
/-! ===== BEGIN a static call of a method with an exception table ===== -/
section VXS
variable {p : Program} {l : Launch} {e : Env} {R : Room} {s : State} {m : MethodId} {args : Array Value} {below : List Frame} {meth : Method} {c : Code} {T : State} {H : Heap} {locs : List Loc} {cells slots : Nat}
abbrev vx_CSW (R : Room) (s : State) (args : Array Value) (own : String) (index : Nat) (y : MethodName) (bytes : ByteArray) (maxL : Nat) (ret : Option FieldType) (hh : List (Nat × Nat × Nat × Nat)) (ws : List Cond) (rm : Room) (mc ms n : Nat) : Prop :=
  (rm.cells = mc ∧ rm.slots = ms ∧ rm.frames + 1 ≤ R.frames ∧ 8 + (maxL + 11) + rm.locals ≤ R.locals ∧ (∀ w ∈ ws, ∀ (a' : Array Value) (U : State), s.WarmedH U.vm → w.before a' U = true) ∧ Cond.codeWith y bytes maxL ret hh ∈ ws) ∧
  (Cond.codeWith y bytes maxL ret hh).before args s = true ∧ (Cond.initialized y.cls).before args s = true ∧ (y.cls ≠ "java/lang/invoke/MethodHandle" ∧ y.cls ≠ "java/lang/invoke/VarHandle") ∧
  (∀ sig, parseMethodDescriptor y.desc = some sig → n = sig.parameters.length) ∧ (Cond.methodLink own index y).before args s = true ∧ (Cond.static y).before args s = true
theorem vx_cwSW {own : String} {index maxL mc ms : Nat} {y : MethodName} {bytes : ByteArray} {ret : Option FieldType} {hh : List (Nat × Nat × Nat × Nat)} {Ts ws ws' : List Cond} {rm : Room} (n : Nat) (ht : ∀ w ∈ Ts, w.before args s = true) (hT : GoodIn Ts (va_wsS own index y ws)) (hw : ws = Cond.codeWith y bytes maxL ret hh :: ws') (hrc : rm.cells = mc) (hrs : rm.slots = ms)
    (hd : y.cls ≠ "java/lang/invoke/MethodHandle" ∧ y.cls ≠ "java/lang/invoke/VarHandle" ∧ (parseMethodDescriptor y.desc).map (fun d => d.parameters.length) = some n) (hR : rm.frames + 1 ≤ R.frames ∧ 8 + (maxL + 11) + rm.locals ≤ R.locals) :
    vx_CSW R s args own index y bytes maxL ret hh ws rm mc ms n := by
  have ok : ∀ w ∈ va_wsS own index y ws, w.before args s = true := fun w h => ht w (hT w h).1
  have hG : GoodIn Ts ws := fun w h => hT w (by unfold va_wsS; exact List.mem_append_right _ h)
  have hc : Cond.codeWith y bytes maxL ret hh ∈ ws := by rw [hw]; exact List.mem_cons_self
  refine ⟨⟨hrc, hrs, hR.1, hR.2, pay_in ht hG, hc⟩, ht _ (hG _ hc).1, ok _ (by simp [va_wsS]), ⟨hd.1, hd.2.1⟩, fun sig h => ?_, ok _ (by simp [va_wsS]), ok _ (by simp [va_wsS])⟩
  have h2 := hd.2.2
  rw [h] at h2
  exact (Option.some.inj h2).symm
theorem vx_callSW (X : Stand p l e R s m args below meth c T locs cells slots) (hexec : p.tables.exec = Jvm.exec) {own : String} {index : Nat} {y : MethodName} {bytes : ByteArray} {maxL : Nat} {ret : Option FieldType} {hh : List (Nat × Nat × Nat × Nat)}
    (hown : s.vm.findClass own = some m.cls) (hlink : (Cond.methodLink own index y).before args s = true) (hstat : (Cond.static y).before args s = true) (hinit : (Cond.initialized y.cls).before args s = true)
    (hcode : (Cond.codeWith y bytes maxL ret hh).before args s = true) (hy : y.cls ≠ "java/lang/invoke/MethodHandle" ∧ y.cls ≠ "java/lang/invoke/VarHandle")
    {W9 : Nat} {Pre : Pt → Array Value → Prop} {Post : Pt → Array Value → Option Value → Pt → Prop} (hK : Back l R p e below s args y 3 W9 Pre Post)
    {g : JFrame} (hg : g.method = m) (hsize : g.locals.size = c.maxLocals) {argsL rest : List Value} (hlen : ∀ sig, parseMethodDescriptor y.desc = some sig → argsL.length = sig.parameters.length)
    (hstack : g.stack = argsL.reverse ++ rest) (hW : 2 * g.monitorRoom + (rest.map fun v => v.category).sum ≤ W9) (hdg : decode c.code g.pc = .ok (.invokestatic index, 3))
    (hpre : ∀ vm₁, s.WarmedH vm₁ → Pre ⟨T.setVm vm₁, locs, cells, slots⟩ argsL.toArray) :
    ∃ (v : Option Value) (vm₁ : Vm) (B : Pt), s.WarmedH vm₁ ∧ Stand p l e R s m args below meth c B.U B.locs B.cells B.slots ∧ Post ⟨T.setVm vm₁, locs, cells, slots⟩ argsL.toArray v B ∧
      ∀ target, Steps p.tables e below (B.U.setTop { g with pc := g.pc + 3, stack := v.toList ++ rest }) target → Steps p.tables e below (T.setTop g) target := by
  obtain ⟨mk, methM, cM, hnamed, hmethM, -, -, -, -, -, -, hsigM⟩ := Cond.codeWith_spec hcode
  have hstatic : methM.isStatic = true := Cond.static_spec hnamed hmethM hstat
  obtain ⟨kP, hkP, -⟩ := className_of_methodNamed hnamed
  have hinitP : kP.init = .initialized := Cond.initialized_spec (findClass_of_methodNamed hnamed) hkP hinit
  obtain ⟨vm₁, X₁, hstep₁⟩ := X.invokestatic hexec hown hlink hnamed hmethM hstatic hkP hinitP hy (g := g) hg (argsL := argsL) (rest := rest) (hlen _ hsigM) hstack hdg
  obtain ⟨v, B, X', hpost, hsteps⟩ := hK m meth c ⟨T.setVm vm₁, locs, cells, slots⟩ { g with stack := rest } (.invokestatic index) mk argsL.toArray X₁ hg hsize hdg hW (X₁.named hnamed) (hpre vm₁ X₁.warmed)
  exact ⟨v, vm₁, B, X₁.warmed, X', hpost, fun target h => hstep₁ _ fun acts => by rw [doInvoke_state]; exact hsteps.trans h⟩
theorem vx_runSW {y : MethodName} {bytes cc : ByteArray} {maxL nL mc ms n index : Nat} {ret : Option FieldType} {hh : List (Nat × Nat × Nat × Nat)} {ws : List Cond} {rm : Room} {Pc : Array Value → State → Prop} {Qc : Array Value → State → Outcome → State → Prop} {free : Addr → Prop} {Ts : List Cond} {own : String} {As rest : List Value} {g : JFrame}
    (S : CallFix p m c cc nL s args Ts own) (hM : Met l y ws rm Pc Qc mc ms free) (cw : vx_CSW R s args own index y bytes maxL ret hh ws rm mc ms n) (hp : PreS s H Pc As)
    (hg : g.method = m) (hn : As.length = n) (hsize : g.locals.size = nL) (hstack : g.stack = As.reverse ++ rest) (hW : 2 * g.monitorRoom + (rest.map fun v => v.category).sum ≤ 8) (hdg : decode cc g.pc = .ok (.invokestatic index, 3)) (hf : cells + mc ≤ R.cells ∧ slots + ms ≤ R.slots) :
    va_Run p l e R s m args below meth c H locs cells slots mc ms g rest (Qc As.toArray) (free) := by
  obtain ⟨⟨hrc, hrs, hfr, hlo, hws, hcw⟩, hcode, hini, hy, hlen, hl, hstt⟩ := cw
  have hK : Back l R p e below s args y 3 8 (PreOf R mc ms Pc) (PostOf Qc mc ms free) := va_backW (hh := hh) (bytes := bytes) (maxL := maxL) (ret := ret) hM hp.1 hrc hrs hfr hlo hws hcw (fun a' U hW => word_at hW (Or.inl (by first | rfl | simp [Cond.onTables, Cond.keeps, Cond.steady])) hini)
  obtain ⟨hx, hb, hml, ho, -⟩ := S
  intro T hT X
  obtain ⟨v, vm₁, ⟨U', l2, c2, s2⟩, hW₁, X', ⟨g', mk, t, L, e1, e2, hq, h1, hL, h2, h3⟩, st⟩ := vx_callSW X hx (hh := hh) (bytes := bytes) (maxL := maxL) (ret := ret) ho hl hstt hini hcode hy hK hg (hsize.trans hml.symm) (argsL := As) (rest := rest) (fun sig h => hn.trans (hlen sig h)) hstack hW (by rw [hb]; exact hdg)
    (fun vm₁ hW₁ => ⟨hf.1, hf.2, hp.2 (T.setVm vm₁) hT hW₁⟩)
  dsimp only [Pt.U, Pt.locs, Pt.cells, Pt.slots] at X' e1 e2 h1 h2 h3 st
  subst h1; subst h2; subst h3
  exact ⟨v, (T.setVm vm₁).calling g' mk As.toArray, t, U', L, hT, X', hL, e1, e2, hq, st⟩
/-- not caught here, past rows that name other classes: it goes on to the caller -/
theorem vx_outP {p : Program} {l : Launch} {e : Env} {R : Room} {s : State} {m : MethodId} {args : Array Value} {below : List Frame} {meth : Method} {c : Code} {H : Heap} {locs : List Loc} {cells slots : Nat} {free : Addr → Prop} {ls : Array Slot} {rest : List Value} {Qc : Array Value → State → Outcome → State → Prop} {XC : String → State → State → Prop}
    {pc : Nat} {own E : String} {ce : Cell} {q : Addr} {mc ms : Nat} (hown : s.vm.findClass own = some m.cls) (hlocks : meth.locks = false)
    (hpass : ∀ z ∈ c.exceptionTable.toList, covers z pc = false ∨ (z.catchType ≠ 0 ∧ ∃ nm : String, (Cond.classLink own z.catchType nm).before args s = true ∧ va_Nc E nm s)) (hcell : H[q]? = some ce) (hv : ce.vm = .none) (hcl : s.vm.findClass E = some ce.cls)
    (hx : ∀ t : State, t.heap = H → s.vm.Alike t.vm → XC E s t) (hf : ∀ z ∈ locs, free z.base) (hc : cells ≤ mc) (hs : slots ≤ ms) :
    vx_W p l e R s m args below meth c H locs cells slots (vx_MQ below Qc XC args s mc ms free) (F0 m pc ls rest) q := by
  intro T hT X
  have hpl : e.platform.magicAccessors = ({} : Platform).magicAccessors := by rw [X.admits.platform]
  obtain ⟨vm', hW', X', st⟩ := X.outThrough hlocks q (g := F0 m pc ls rest) rfl rfl rfl (cell := ce) (by rw [hT]; exact hcell) (by rw [hv]; rfl)
    (by obtain ⟨k9, h9, -⟩ := Vm.findClass_spec hcl; exact ⟨k9, h9⟩) (fun z hz => by
      rcases hpass z hz with h | ⟨hz0, nm, hl1, hn1⟩
      · exact Or.inl h
      · obtain ⟨c6, hc6, hcl6⟩ := Cond.classLink_spec hown hl1 e.platform hpl
        obtain ⟨a8, b8, h1, h2, h3⟩ := hn1
        cases Option.some.inj (h1.symm.trans hcl)
        cases Option.some.inj (h2.symm.trans hc6)
        exact Or.inr ⟨hz0, _, hcl6, h3⟩)
  obtain ⟨g₀, hfr⟩ := X'.frames_eq
  have hcell9 : ((T.setVm vm').setFrames (.throwing q :: below)).heap[q]? = some ce := by
    show T.heap[q]? = some ce
    rw [hT]; exact hcell
  have hend : Ended ((T.setVm vm').setFrames (.throwing q :: below)) below (.threw q) := State.frames_setFrames _ (State.cur_lt_of_frames hfr)
  refine ⟨(T.setVm vm').setFrames (.throwing q :: below), ?_, .threw q, X'.here.running, hend, Or.inr ⟨q, rfl, E, ce, locs, hx _ hT (X'.ends _).1.alike, hcell9, hv, hcl, (X'.ends _).1, (X'.ends _).2.mono hc hs, hf⟩⟩
  rw [X.pushThrowing_eq]
  exact st
/-- a thing of a world lies in the heap -/
theorem vx_lt {D : va_G} {cl : List vw_C} {ws : va_W} {H1 : Heap} (h : va_P D cl ws H1) {k : Nat} {q : Nat × va_E} (hk : ws[k]? = some q) : q.1 < H1.size := (h k q hk).lt
end VXS
/-! ===== END ===== -/
/-! ===== BEGIN methods with a table of their own: called by a name, returning or throwing ===== -/
section VXH
/-! vx_backW, vx_callVX, vx_callSX, vx_callVW, vx_runVW, vx_runVX, vx_runSX, vx_ofWH follow the same proofs as their sisters above (Free/Laws.lean, Shelf42/LK1.lean); vx_outP calls Shelf42/NT130.lean (outThrough). -/
section
variable {l : Launch} {R : Room} {p : Program} {e : Env} {below : List Frame} {s : State} {sargs : Array Value} {y : MethodName} {len W9 : Nat}
theorem vx_backW {ws : List Cond} {rm : Room} {Pc : Array Value → State → Prop} {Qc : Array Value → State → Outcome → State → Prop} {XC : String → State → State → Prop} {mc ms : Nat} {free : Addr → Prop} {bytes : ByteArray} {maxL : Nat} {ret : Option FieldType} {hh : List (Nat × Nat × Nat × Nat)}
    (hM : vx_Met l y ws rm Pc Qc XC mc ms free) (hblind : FrameBlind Pc) (hrc : rm.cells = mc) (hrs : rm.slots = ms)
    (hframes : rm.frames + 1 ≤ R.frames) (hlocals : W9 + (maxL + 11) + rm.locals ≤ R.locals)
    (hws : ∀ w ∈ ws, ∀ a' U, s.WarmedH U.vm → w.before a' U = true) (hcode : Cond.codeWith y bytes maxL ret hh ∈ ws) (hinit : ∀ a' U, s.WarmedH U.vm → (Cond.initialized y.cls).before a' U = true) :
    vx_Back l R p e below s sargs y len W9 (PreOf R mc ms Pc) (PostOf Qc mc ms free) (vx_Post XC mc ms free) := by
  intro m meth c A g ig mk a X hg hsize hdg hW hn hp
  have h1 : (headSpec ws rm).pre.before a A.U = true := atoms_intro fun w hw => hws w hw _ _ X.warmed
  have h2 : (Cond.codeWith y bytes maxL ret hh).before a A.U = true := hws _ hcode _ _ X.warmed
  have h3 : (Cond.initialized y.cls).before a A.U = true := hinit _ _ X.warmed
  have h4 : A.cells + (headSpec ws rm).room.cells ≤ R.cells := by rw [show (headSpec ws rm).room.cells = mc from hrc]; exact hp.1
  have h5 : A.slots + (headSpec ws rm).room.slots ≤ R.slots := by rw [show (headSpec ws rm).room.slots = ms from hrs]; exact hp.2.1
  have hPc : Pc a (A.U.calling g mk a) := hblind _ _ _ _ hp.2.2
  obtain ⟨U, Ls, c0, s0⟩ := A
  dsimp only [Pt.U, Pt.locs, Pt.cells, Pt.slots] at h1 h2 h3 h4 h5 X hn hPc ⊢
  obtain ⟨m9, methY, cY, hn9, hmY, hcY, -, hlY, -⟩ := Cond.codeWith_spec h2
  cases Option.some.inj (hn9.symm.trans hn)
  obtain ⟨kY, hkY, -⟩ := className_of_methodNamed hn
  have hinitY : kY.init = .initialized := Cond.initialized_spec (findClass_of_methodNamed hn) hkY h3
  have h : At U g.method c below := by rw [hg]; exact X.here
  have hlocals9 : W9 + (maxL + 11) + (headSpec ws rm).room.locals ≤ R.locals := hlocals
  have happ : (headSpec ws rm).appliesLoose y e.platform (U.calling g mk a) = true :=
    Spec.appliesLoose_calling (g := g) h hdg hn hkY hinitY
      (X.room_calling (g := g) (R' := (headSpec ws rm).room) hsize hmY hcY hframes (by rw [hlY]; omega) h4 h5) h1
  obtain ⟨mid, hmid⟩ := h.above
  have hfr : (U.setTop g).frames = (.java g :: mid) ++ below := by rw [State.frames_setTop' g h.top, hmid]; rfl
  obtain ⟨o, s₂, hsteps, -, hend, hq⟩ := Steps.callFree hM p X.admits X.cas X.clock (acts := []) hfr happ hPc trivial
  have hq' : vx_Q Qc XC mc ms free a (U.calling g mk a) o s₂ := hq
  rw [State.frames_setTop' g h.top] at hend
  obtain ⟨g₀, hg0⟩ := Option.isSome_iff_exists.mp h.top
  obtain ⟨r, hr⟩ := State.topJava?_eq_some.mp hg0
  have hr' : (({ U with heap := s₂.heap, slotsUsed := s₂.slotsUsed } : State).setVm s₂.vm).frames = .java g₀ :: r := hr
  rcases hq' with ⟨hqc, L, hfe, hL⟩ | ⟨q, rfl, E, ce, L, hx, hce, hcv, hcl, hW₂, hsm, hL⟩
  · obtain ⟨⟨v, rfl⟩, hW₂, e2, q2, q3, q4, q5, q6⟩ := id hfe
    have e3 : s₂ = ({ (U.calling g mk a).setFrames s₂.frames with heap := s₂.heap, slotsUsed := s₂.slotsUsed } : State).setVm s₂.vm := by
      have : s₂ = ({ s₂ with vm := (U.calling g mk a).vm } : State).setVm s₂.vm := rfl
      rw [e2] at this
      exact this
    obtain ⟨c₂, i₂, len₂, hc₂, hd₂, hf₂⟩ := hend
    have hW' : U.WarmedH s₂.vm := hW₂
    have hcc : c₂ = c := by
      have h1 : s₂.code? g.method = U.code? g.method := by
        rw [State.code?_eq, State.code?_eq, hW'.alike.method?]
      exact Option.some.inj (hc₂.symm.trans (h1.trans h.code))
    subst hcc
    have hlen : len₂ = len := by rw [hdg] at hd₂; cases hd₂; rfl
    subst hlen
    have hs₂ : s₂ = (({ U with heap := s₂.heap, slotsUsed := s₂.slotsUsed } : State).setVm s₂.vm).setTop { g with pc := g.pc + len₂, stack := v.toList ++ g.stack } := by
      refine e3.trans ?_
      rw [hf₂, State.calling_eq h.top, State.setFrames_setFrames, State.setTop_of_frames _ hr', hr]
      rfl
    have hsame : U.sameButNew ({ U with heap := s₂.heap, slotsUsed := s₂.slotsUsed } : State) L mc ms := by
      refine ⟨?_, q2, q3, q4, q5, q6⟩
      obtain ⟨t, ht, -⟩ := State.frames_cons hr
      show ({ U with heap := s₂.heap, slotsUsed := s₂.slotsUsed } : State) = { U.setFrames U.frames with heap := s₂.heap, slotsUsed := s₂.slotsUsed }
      rw [State.setFrames_self ht]
    subst hg
    refine Or.inl ⟨v, ⟨(({ U with heap := s₂.heap, slotsUsed := s₂.slotsUsed } : State).setVm s₂.vm), Ls ++ L, c0 + mc, s0 + ms⟩,
      ⟨X.admits, X.cas, X.clock, X.frames, X.room, X.hears, X.method, X.code, (X.here.setHeapUsed s₂.heap s₂.slotsUsed).setVm hW'.alike, X.tail, State.WarmedH.trans X.warmed hW', X.limits, X.bytes, X.same.trans (hsame.setVm s.vm)⟩,
      ⟨g, mk, s₂, L, rfl, rfl, hqc, rfl, hL, rfl, rfl⟩, ?_⟩
    show Steps p.tables e below _ ((({ U with heap := s₂.heap, slotsUsed := s₂.slotsUsed } : State).setVm s₂.vm).setTop { g with pc := g.pc + len₂, stack := v.toList ++ g.stack })
    rw [← hs₂]
    exact hsteps
  · obtain ⟨e2, q2, q3, q4, q5, q6⟩ := id hsm
    have e3 : s₂ = ({ (U.calling g mk a).setFrames s₂.frames with heap := s₂.heap, slotsUsed := s₂.slotsUsed } : State).setVm s₂.vm := by
      have : s₂ = ({ s₂ with vm := (U.calling g mk a).vm } : State).setVm s₂.vm := rfl
      rw [e2] at this
      exact this
    have hf₂ : s₂.frames = .throwing q :: .java g :: U.frames.tail := hend
    have hW' : U.WarmedH s₂.vm := hW₂
    have hs₂ : s₂ = ((({ U with heap := s₂.heap, slotsUsed := s₂.slotsUsed } : State).setVm s₂.vm).setTop g).pushFrame (.throwing q) := by
      refine e3.trans ?_
      rw [hf₂, State.calling_eq h.top, State.setFrames_setFrames, State.pushFrame, State.frames_setTop _ hr', State.setTop_of_frames _ hr', State.setFrames_setFrames, hr]
      rfl
    have hsame : U.sameButNew ({ U with heap := s₂.heap, slotsUsed := s₂.slotsUsed } : State) L mc ms := by
      refine ⟨?_, q2, q3, q4, q5, q6⟩
      obtain ⟨t, ht, -⟩ := State.frames_cons hr
      show ({ U with heap := s₂.heap, slotsUsed := s₂.slotsUsed } : State) = { U.setFrames U.frames with heap := s₂.heap, slotsUsed := s₂.slotsUsed }
      rw [State.setFrames_self ht]
    subst hg
    refine Or.inr ⟨q, ⟨(({ U with heap := s₂.heap, slotsUsed := s₂.slotsUsed } : State).setVm s₂.vm), Ls ++ L, c0 + mc, s0 + ms⟩,
      ⟨X.admits, X.cas, X.clock, X.frames, X.room, X.hears, X.method, X.code, (X.here.setHeapUsed s₂.heap s₂.slotsUsed).setVm hW'.alike, X.tail, State.WarmedH.trans X.warmed hW', X.limits, X.bytes, X.same.trans (hsame.setVm s.vm)⟩,
      ⟨g, mk, s₂, L, E, ce, rfl, rfl, hx, hce, hcv, hcl, rfl, hL, rfl, rfl⟩, ?_⟩
    show Steps p.tables e below _ (((({ U with heap := s₂.heap, slotsUsed := s₂.slotsUsed } : State).setVm s₂.vm).setTop g).pushFrame (.throwing q))
    rw [← hs₂]
    exact hsteps
end
variable {p : Program} {l : Launch} {e : Env} {R : Room} {s : State} {m : MethodId} {args : Array Value} {below : List Frame} {meth : Method} {c : Code} {T : State} {H : Heap} {locs : List Loc} {cells slots : Nat}
theorem vx_callVX (X : Stand p l e R s m args below meth c T locs cells slots) (hexec : p.tables.exec = Jvm.exec) {own C : String} {index : Nat} {y : MethodName} {bytes : ByteArray} {maxL : Nat} {ret : Option FieldType} {hh : List (Nat × Nat × Nat × Nat)}
    (hown : s.vm.findClass own = some m.cls) (hlink : (Cond.methodLink own index y).before args s = true) (hinst : (Cond.instanceMethod y).before args s = true) (hsel : (Cond.selects C y y).before args s = true)
    (hcode : (Cond.codeWith y bytes maxL ret hh).before args s = true) (hy : y.cls ≠ "java/lang/invoke/MethodHandle" ∧ y.cls ≠ "java/lang/invoke/VarHandle")
    {W9 : Nat} {Pre : Pt → Array Value → Prop} {Post : Pt → Array Value → Option Value → Pt → Prop} {PostX : Pt → Array Value → Addr → Pt → Prop} (hK : vx_Back l R p e below s args y 3 W9 Pre Post PostX)
    {b : Addr} {cellB : Cell} (hcell : T.heap[b]? = some cellB) (hobj : cellB.vm.isStatics = false) (hcls : s.vm.findClass C = some cellB.cls)
    {g : JFrame} (hg : g.method = m) (hsize : g.locals.size = c.maxLocals) {argsL rest : List Value} (hlen : ∀ sig, parseMethodDescriptor y.desc = some sig → argsL.length = sig.parameters.length)
    (hstack : g.stack = argsL.reverse ++ .ref b :: rest) (hW : 2 * g.monitorRoom + (rest.map fun v => v.category).sum ≤ W9) (hdg : decode c.code g.pc = .ok (.invokevirtual index, 3))
    (hpre : ∀ vm₁, s.WarmedH vm₁ → Pre ⟨T.setVm vm₁, locs, cells, slots⟩ (Value.ref b :: argsL).toArray) :
    (∃ (v : Option Value) (vm₁ : Vm) (B : Pt), s.WarmedH vm₁ ∧ Stand p l e R s m args below meth c B.U B.locs B.cells B.slots ∧ Post ⟨T.setVm vm₁, locs, cells, slots⟩ (Value.ref b :: argsL).toArray v B ∧
      ∀ target, Steps p.tables e below (B.U.setTop { g with pc := g.pc + 3, stack := v.toList ++ rest }) target → Steps p.tables e below (T.setTop g) target) ∨
    (∃ (q : Addr) (vm₁ : Vm) (B : Pt), s.WarmedH vm₁ ∧ Stand p l e R s m args below meth c B.U B.locs B.cells B.slots ∧ PostX ⟨T.setVm vm₁, locs, cells, slots⟩ (Value.ref b :: argsL).toArray q B ∧
      Steps p.tables e below (T.setTop g) ((B.U.setTop { g with stack := rest }).pushFrame (.throwing q))) := by
  obtain ⟨mk, methM, hnamed, hmethM, hstM, habM⟩ := Cond.instanceMethod_spec hinst
  obtain ⟨m8, methM', cM, hn8, hmethM', -, -, -, -, -, -, hsigM⟩ := Cond.codeWith_spec hcode
  cases Option.some.inj (hn8.symm.trans hnamed)
  cases hmethM.symm.trans hmethM'
  obtain ⟨c2, r2, m2, q1, q2, q3, q4, kP, hkP, hkPi⟩ := Cond.selects_spec hsel
  cases hcls.symm.trans q1
  cases (State.methodFound?_of_named hnamed hy).symm.trans q2
  cases hnamed.symm.trans q3
  have hselP : selectMethod e.platform s.vm cellB.cls mk = .method mk := by rw [Launch.admits_selectMethod X.admits]; exact q4
  obtain ⟨vm₁, X₁, hstep₁⟩ := X.invokevirtual hexec hown hlink hnamed hmethM hstM hkP hkPi hy (a := b) (cell := cellB) hcell
    (fun z h => by rw [h] at hobj; cases hobj) hselP hmethM habM hkP hkPi (g := g) hg (argsL := argsL) (rest := rest) (hlen _ hsigM) hstack hdg
  rcases hK m meth c ⟨T.setVm vm₁, locs, cells, slots⟩ { g with stack := rest } (.invokevirtual index) mk (Value.ref b :: argsL).toArray X₁ hg hsize hdg hW (X₁.named hnamed) (hpre vm₁ X₁.warmed) with ⟨v, B, X', hpost, hsteps⟩ | ⟨q, B, X', hpost, hsteps⟩
  · exact Or.inl ⟨v, vm₁, B, X₁.warmed, X', hpost, fun target h => hstep₁ _ fun acts => by rw [doInvoke_state]; exact hsteps.trans h⟩
  · exact Or.inr ⟨q, vm₁, B, X₁.warmed, X', hpost, hstep₁ _ fun acts => by rw [doInvoke_state]; exact hsteps⟩
theorem vx_callSX (X : Stand p l e R s m args below meth c T locs cells slots) (hexec : p.tables.exec = Jvm.exec) {own : String} {index : Nat} {y : MethodName} {bytes : ByteArray} {maxL : Nat} {ret : Option FieldType} {hh : List (Nat × Nat × Nat × Nat)}
    (hown : s.vm.findClass own = some m.cls) (hlink : (Cond.methodLink own index y).before args s = true) (hstat : (Cond.static y).before args s = true) (hinit : (Cond.initialized y.cls).before args s = true)
    (hcode : (Cond.codeWith y bytes maxL ret hh).before args s = true) (hy : y.cls ≠ "java/lang/invoke/MethodHandle" ∧ y.cls ≠ "java/lang/invoke/VarHandle")
    {W9 : Nat} {Pre : Pt → Array Value → Prop} {Post : Pt → Array Value → Option Value → Pt → Prop} {PostX : Pt → Array Value → Addr → Pt → Prop} (hK : vx_Back l R p e below s args y 3 W9 Pre Post PostX)
    {g : JFrame} (hg : g.method = m) (hsize : g.locals.size = c.maxLocals) {argsL rest : List Value} (hlen : ∀ sig, parseMethodDescriptor y.desc = some sig → argsL.length = sig.parameters.length)
    (hstack : g.stack = argsL.reverse ++ rest) (hW : 2 * g.monitorRoom + (rest.map fun v => v.category).sum ≤ W9) (hdg : decode c.code g.pc = .ok (.invokestatic index, 3))
    (hpre : ∀ vm₁, s.WarmedH vm₁ → Pre ⟨T.setVm vm₁, locs, cells, slots⟩ argsL.toArray) :
    (∃ (v : Option Value) (vm₁ : Vm) (B : Pt), s.WarmedH vm₁ ∧ Stand p l e R s m args below meth c B.U B.locs B.cells B.slots ∧ Post ⟨T.setVm vm₁, locs, cells, slots⟩ argsL.toArray v B ∧
      ∀ target, Steps p.tables e below (B.U.setTop { g with pc := g.pc + 3, stack := v.toList ++ rest }) target → Steps p.tables e below (T.setTop g) target) ∨
    (∃ (q : Addr) (vm₁ : Vm) (B : Pt), s.WarmedH vm₁ ∧ Stand p l e R s m args below meth c B.U B.locs B.cells B.slots ∧ PostX ⟨T.setVm vm₁, locs, cells, slots⟩ argsL.toArray q B ∧
      Steps p.tables e below (T.setTop g) ((B.U.setTop { g with stack := rest }).pushFrame (.throwing q))) := by
  obtain ⟨mk, methM, cM, hnamed, hmethM, -, -, -, -, -, -, hsigM⟩ := Cond.codeWith_spec hcode
  have hstatic : methM.isStatic = true := Cond.static_spec hnamed hmethM hstat
  obtain ⟨kP, hkP, -⟩ := className_of_methodNamed hnamed
  have hinitP : kP.init = .initialized := Cond.initialized_spec (findClass_of_methodNamed hnamed) hkP hinit
  obtain ⟨vm₁, X₁, hstep₁⟩ := X.invokestatic hexec hown hlink hnamed hmethM hstatic hkP hinitP hy (g := g) hg (argsL := argsL) (rest := rest) (hlen _ hsigM) hstack hdg
  rcases hK m meth c ⟨T.setVm vm₁, locs, cells, slots⟩ { g with stack := rest } (.invokestatic index) mk argsL.toArray X₁ hg hsize hdg hW (X₁.named hnamed) (hpre vm₁ X₁.warmed) with ⟨v, B, X', hpost, hsteps⟩ | ⟨q, B, X', hpost, hsteps⟩
  · exact Or.inl ⟨v, vm₁, B, X₁.warmed, X', hpost, fun target h => hstep₁ _ fun acts => by rw [doInvoke_state]; exact hsteps.trans h⟩
  · exact Or.inr ⟨q, vm₁, B, X₁.warmed, X', hpost, hstep₁ _ fun acts => by rw [doInvoke_state]; exact hsteps⟩
theorem vx_callVW (X : Stand p l e R s m args below meth c T locs cells slots) (hexec : p.tables.exec = Jvm.exec) {own C : String} {index : Nat} {y : MethodName} {bytes : ByteArray} {maxL : Nat} {ret : Option FieldType} {hh : List (Nat × Nat × Nat × Nat)}
    (hown : s.vm.findClass own = some m.cls) (hlink : (Cond.methodLink own index y).before args s = true) (hinst : (Cond.instanceMethod y).before args s = true) (hsel : (Cond.selects C y y).before args s = true)
    (hcode : (Cond.codeWith y bytes maxL ret hh).before args s = true) (hy : y.cls ≠ "java/lang/invoke/MethodHandle" ∧ y.cls ≠ "java/lang/invoke/VarHandle")
    {W9 : Nat} {Pre : Pt → Array Value → Prop} {Post : Pt → Array Value → Option Value → Pt → Prop} (hK : Back l R p e below s args y 3 W9 Pre Post)
    {b : Addr} {cellB : Cell} (hcell : T.heap[b]? = some cellB) (hobj : cellB.vm.isStatics = false) (hcls : s.vm.findClass C = some cellB.cls)
    {g : JFrame} (hg : g.method = m) (hsize : g.locals.size = c.maxLocals) {argsL rest : List Value} (hlen : ∀ sig, parseMethodDescriptor y.desc = some sig → argsL.length = sig.parameters.length)
    (hstack : g.stack = argsL.reverse ++ .ref b :: rest) (hW : 2 * g.monitorRoom + (rest.map fun v => v.category).sum ≤ W9) (hdg : decode c.code g.pc = .ok (.invokevirtual index, 3))
    (hpre : ∀ vm₁, s.WarmedH vm₁ → Pre ⟨T.setVm vm₁, locs, cells, slots⟩ (Value.ref b :: argsL).toArray) :
    ∃ (v : Option Value) (vm₁ : Vm) (B : Pt), s.WarmedH vm₁ ∧ Stand p l e R s m args below meth c B.U B.locs B.cells B.slots ∧ Post ⟨T.setVm vm₁, locs, cells, slots⟩ (Value.ref b :: argsL).toArray v B ∧
      ∀ target, Steps p.tables e below (B.U.setTop { g with pc := g.pc + 3, stack := v.toList ++ rest }) target → Steps p.tables e below (T.setTop g) target := by
  obtain ⟨mk, methM, hnamed, hmethM, hstM, habM⟩ := Cond.instanceMethod_spec hinst
  obtain ⟨m8, methM', cM, hn8, hmethM', -, -, -, -, -, -, hsigM⟩ := Cond.codeWith_spec hcode
  cases Option.some.inj (hn8.symm.trans hnamed)
  cases hmethM.symm.trans hmethM'
  obtain ⟨c2, r2, m2, q1, q2, q3, q4, kP, hkP, hkPi⟩ := Cond.selects_spec hsel
  cases hcls.symm.trans q1
  cases (State.methodFound?_of_named hnamed hy).symm.trans q2
  cases hnamed.symm.trans q3
  have hselP : selectMethod e.platform s.vm cellB.cls mk = .method mk := by rw [Launch.admits_selectMethod X.admits]; exact q4
  obtain ⟨vm₁, X₁, hstep₁⟩ := X.invokevirtual hexec hown hlink hnamed hmethM hstM hkP hkPi hy (a := b) (cell := cellB) hcell
    (fun z h => by rw [h] at hobj; cases hobj) hselP hmethM habM hkP hkPi (g := g) hg (argsL := argsL) (rest := rest) (hlen _ hsigM) hstack hdg
  obtain ⟨v, B, X', hpost, hsteps⟩ := hK m meth c ⟨T.setVm vm₁, locs, cells, slots⟩ { g with stack := rest } (.invokevirtual index) mk (Value.ref b :: argsL).toArray X₁ hg hsize hdg hW (X₁.named hnamed) (hpre vm₁ X₁.warmed)
  exact ⟨v, vm₁, B, X₁.warmed, X', hpost, fun target h => hstep₁ _ fun acts => by rw [doInvoke_state]; exact hsteps.trans h⟩
abbrev vx_CVW (R : Room) (s : State) (args : Array Value) (own C : String) (index : Nat) (y : MethodName) (bytes : ByteArray) (maxL : Nat) (ret : Option FieldType) (hh : List (Nat × Nat × Nat × Nat)) (ws : List Cond) (rm : Room) (mc ms n : Nat) : Prop :=
  (rm.cells = mc ∧ rm.slots = ms ∧ rm.frames + 1 ≤ R.frames ∧ 8 + (maxL + 11) + rm.locals ≤ R.locals ∧ (∀ w ∈ ws, ∀ (a' : Array Value) (U : State), s.WarmedH U.vm → w.before a' U = true) ∧ Cond.codeWith y bytes maxL ret hh ∈ ws) ∧
  (Cond.codeWith y bytes maxL ret hh).before args s = true ∧ (Cond.initialized y.cls).before args s = true ∧ (y.cls ≠ "java/lang/invoke/MethodHandle" ∧ y.cls ≠ "java/lang/invoke/VarHandle") ∧
  (∀ sig, parseMethodDescriptor y.desc = some sig → n = sig.parameters.length) ∧ (Cond.methodLink own index y).before args s = true ∧ (Cond.instanceMethod y).before args s = true ∧ (Cond.selects C y y).before args s = true
theorem vx_cwVW {own C : String} {index maxL mc ms : Nat} {y : MethodName} {bytes : ByteArray} {ret : Option FieldType} {hh : List (Nat × Nat × Nat × Nat)} {Ts ws ws' : List Cond} {rm : Room} (n : Nat) (ht : ∀ w ∈ Ts, w.before args s = true) (hT : GoodIn Ts (wsV own index C y ws)) (hw : ws = Cond.codeWith y bytes maxL ret hh :: ws') (hrc : rm.cells = mc) (hrs : rm.slots = ms)
    (hd : y.cls = C ∧ y.cls ≠ "java/lang/invoke/MethodHandle" ∧ y.cls ≠ "java/lang/invoke/VarHandle" ∧ (parseMethodDescriptor y.desc).map (fun d => d.parameters.length) = some n) (hR : rm.frames + 1 ≤ R.frames ∧ 8 + (maxL + 11) + rm.locals ≤ R.locals) :
    vx_CVW R s args own C index y bytes maxL ret hh ws rm mc ms n := by
  obtain ⟨hC, hd⟩ := hd
  subst hC
  have ok : ∀ w ∈ wsV own index y.cls y ws, w.before args s = true := fun w h => ht w (hT w h).1
  have hG : GoodIn Ts ws := fun w h => hT w (by unfold wsV; exact List.mem_append_right _ h)
  have hc : Cond.codeWith y bytes maxL ret hh ∈ ws := by rw [hw]; exact List.mem_cons_self
  refine ⟨⟨hrc, hrs, hR.1, hR.2, pay_in ht hG, hc⟩, ht _ (hG _ hc).1, ok _ (by simp [wsV]), ⟨hd.1, hd.2.1⟩, fun sig h => ?_, ok _ (by simp [wsV]), ok _ (by simp [wsV]), ok _ (by simp [wsV])⟩
  have h2 := hd.2.2
  rw [h] at h2
  exact (Option.some.inj h2).symm
theorem vx_runVW {y : MethodName} {bytes cc : ByteArray} {maxL nL mc ms n index : Nat} {ret : Option FieldType} {hh : List (Nat × Nat × Nat × Nat)} {ws : List Cond} {rm : Room} {Pc : Array Value → State → Prop} {Qc : Array Value → State → Outcome → State → Prop} {free : Addr → Prop} {Ts : List Cond} {own C : String} {b : Addr} {As rest : List Value} {g : JFrame}
    (S : CallFix p m c cc nL s args Ts own) (hM : Met l y ws rm Pc Qc mc ms free) (cw : vx_CVW R s args own C index y bytes maxL ret hh ws rm mc ms n) (hp : PreV s H C b Pc As)
    (hg : g.method = m) (hn : As.length = n) (hsize : g.locals.size = nL) (hstack : g.stack = As.reverse ++ .ref b :: rest) (hW : 2 * g.monitorRoom + (rest.map fun v => v.category).sum ≤ 8) (hdg : decode cc g.pc = .ok (.invokevirtual index, 3)) (hf : cells + mc ≤ R.cells ∧ slots + ms ≤ R.slots) :
    va_Run p l e R s m args below meth c H locs cells slots mc ms g rest (Qc (Value.ref b :: As).toArray) free := by
  obtain ⟨⟨hrc, hrs, hfr, hlo, hws, hcw⟩, hcode, hini, hy, hlen, hl, hin, hse⟩ := cw
  have hK : Back l R p e below s args y 3 8 (PreOf R mc ms Pc) (PostOf Qc mc ms free) := va_backW (hh := hh) (bytes := bytes) (maxL := maxL) (ret := ret) hM hp.1 hrc hrs hfr hlo hws hcw (fun a' U hW => word_at hW (Or.inl (by first | rfl | simp [Cond.onTables, Cond.keeps, Cond.steady])) hini)
  obtain ⟨hx, hb, hml, ho, -⟩ := S
  obtain ⟨-, ⟨cellB, hcB, hoB, hclB⟩, hPc⟩ := hp
  intro T hT X
  obtain ⟨v, vm₁, ⟨U', l2, c2, s2⟩, hW₁, X', ⟨g', mk, t, L, e1, e2, hq, h1, hL, h2, h3⟩, st⟩ := vx_callVW X hx (C := C) (hh := hh) (bytes := bytes) (maxL := maxL) (ret := ret) ho hl hin hse hcode hy hK (by rw [hT]; exact hcB) hoB hclB hg (hsize.trans hml.symm) (argsL := As) (rest := rest) (fun sig h => hn.trans (hlen sig h)) hstack hW (by rw [hb]; exact hdg)
    (fun vm₁ hW₁ => ⟨hf.1, hf.2, hPc (T.setVm vm₁) hT hW₁⟩)
  dsimp only [Pt.U, Pt.locs, Pt.cells, Pt.slots] at X' e1 e2 h1 h2 h3 st
  subst h1; subst h2; subst h3
  exact ⟨v, (T.setVm vm₁).calling g' mk (Value.ref b :: As).toArray, t, U', L, hT, X', hL, e1, e2, hq, st⟩
section
variable {y : MethodName} {bytes cc : ByteArray} {maxL nL mc ms n index : Nat} {ret : Option FieldType} {ws : List Cond} {rm : Room} {Pc : Array Value → State → Prop} {Qc : Array Value → State → Outcome → State → Prop} {XC : String → State → State → Prop} {free : Addr → Prop} {Ts : List Cond} {own C : String} {b : Addr} {As rest : List Value} {g : JFrame}
theorem vx_runVX {hh : List (Nat × Nat × Nat × Nat)} (S : CallFix p m c cc nL s args Ts own) (hM : vx_Met l y ws rm Pc Qc XC mc ms free) (cw : vx_CVW R s args own C index y bytes maxL ret hh ws rm mc ms n) (hp : PreV s H C b Pc As)
    (hg : g.method = m) (hn : As.length = n) (hsize : g.locals.size = nL) (hstack : g.stack = As.reverse ++ .ref b :: rest) (hW : 2 * g.monitorRoom + (rest.map fun v => v.category).sum ≤ 8) (hdg : decode cc g.pc = .ok (.invokevirtual index, 3)) (hf : cells + mc ≤ R.cells ∧ slots + ms ≤ R.slots) :
    vx_Run p l e R s m args below meth c H locs cells slots mc ms g rest (Qc (Value.ref b :: As).toArray) XC free := by
  obtain ⟨⟨hrc, hrs, hfr, hlo, hws, hcw⟩, hcode, hini, hy, hlen, hl, hin, hse⟩ := cw
  have hK : vx_Back l R p e below s args y 3 8 (PreOf R mc ms Pc) (PostOf Qc mc ms free) (vx_Post XC mc ms free) := vx_backW (hh := hh) (bytes := bytes) (maxL := maxL) (ret := ret) hM hp.1 hrc hrs hfr hlo hws hcw (fun a' U hW => word_at hW (Or.inl (by first | rfl | simp [Cond.onTables, Cond.keeps, Cond.steady])) hini)
  obtain ⟨hx, hb, hml, ho, -⟩ := S
  obtain ⟨-, ⟨cellB, hcB, hoB, hclB⟩, hPc⟩ := hp
  intro T hT X
  rcases vx_callVX X hx (C := C) (hh := hh) (bytes := bytes) (maxL := maxL) (ret := ret) ho hl hin hse hcode hy hK (by rw [hT]; exact hcB) hoB hclB hg (hsize.trans hml.symm) (argsL := As) (rest := rest) (fun sig h => hn.trans (hlen sig h)) hstack hW (by rw [hb]; exact hdg)
    (fun vm₁ hW₁ => ⟨hf.1, hf.2, hPc (T.setVm vm₁) hT hW₁⟩) with ⟨v, vm₁, ⟨U', l2, c2, s2⟩, hW₁, X', ⟨g', mk, t, L, e1, e2, hq, h1, hL, h2, h3⟩, st⟩ | ⟨q, vm₁, ⟨U', l2, c2, s2⟩, hW₁, X', ⟨g', mk, t, L, E, ce, e1, e2, hq, hce, hcv, hcl, h1, hL, h2, h3⟩, st⟩
  · dsimp only [Pt.U, Pt.locs, Pt.cells, Pt.slots] at X' e1 e2 h1 h2 h3 st
    subst h1; subst h2; subst h3
    exact Or.inl ⟨v, (T.setVm vm₁).calling g' mk (Value.ref b :: As).toArray, t, U', L, hT, X', hL, e1, e2, hq, st⟩
  · dsimp only [Pt.U, Pt.locs, Pt.cells, Pt.slots] at X' e1 e2 h1 h2 h3 st hcl
    subst h1; subst h2; subst h3
    exact Or.inr ⟨q, (T.setVm vm₁).calling g' mk (Value.ref b :: As).toArray, t, U', L, E, ce, hT, X', hL, e1, e2, hq, hce, hcv, vx_cls hW₁ hcl, st⟩
theorem vx_runSX {hh : List (Nat × Nat × Nat × Nat)} (S : CallFix p m c cc nL s args Ts own) (hM : vx_Met l y ws rm Pc Qc XC mc ms free) (cw : vx_CSW R s args own index y bytes maxL ret hh ws rm mc ms n) (hp : PreS s H Pc As)
    (hg : g.method = m) (hn : As.length = n) (hsize : g.locals.size = nL) (hstack : g.stack = As.reverse ++ rest) (hW : 2 * g.monitorRoom + (rest.map fun v => v.category).sum ≤ 8) (hdg : decode cc g.pc = .ok (.invokestatic index, 3)) (hf : cells + mc ≤ R.cells ∧ slots + ms ≤ R.slots) :
    vx_Run p l e R s m args below meth c H locs cells slots mc ms g rest (Qc As.toArray) XC free := by
  obtain ⟨⟨hrc, hrs, hfr, hlo, hws, hcw⟩, hcode, hini, hy, hlen, hl, hstt⟩ := cw
  have hK : vx_Back l R p e below s args y 3 8 (PreOf R mc ms Pc) (PostOf Qc mc ms free) (vx_Post XC mc ms free) := vx_backW (hh := hh) (bytes := bytes) (maxL := maxL) (ret := ret) hM hp.1 hrc hrs hfr hlo hws hcw (fun a' U hW => word_at hW (Or.inl (by first | rfl | simp [Cond.onTables, Cond.keeps, Cond.steady])) hini)
  obtain ⟨hx, hb, hml, ho, -⟩ := S
  intro T hT X
  rcases vx_callSX X hx (hh := hh) (bytes := bytes) (maxL := maxL) (ret := ret) ho hl hstt hini hcode hy hK hg (hsize.trans hml.symm) (argsL := As) (rest := rest) (fun sig h => hn.trans (hlen sig h)) hstack hW (by rw [hb]; exact hdg)
    (fun vm₁ hW₁ => ⟨hf.1, hf.2, hp.2 (T.setVm vm₁) hT hW₁⟩) with ⟨v, vm₁, ⟨U', l2, c2, s2⟩, hW₁, X', ⟨g', mk, t, L, e1, e2, hq, h1, hL, h2, h3⟩, st⟩ | ⟨q, vm₁, ⟨U', l2, c2, s2⟩, hW₁, X', ⟨g', mk, t, L, E, ce, e1, e2, hq, hce, hcv, hcl, h1, hL, h2, h3⟩, st⟩
  · dsimp only [Pt.U, Pt.locs, Pt.cells, Pt.slots] at X' e1 e2 h1 h2 h3 st
    subst h1; subst h2; subst h3
    exact Or.inl ⟨v, (T.setVm vm₁).calling g' mk As.toArray, t, U', L, hT, X', hL, e1, e2, hq, st⟩
  · dsimp only [Pt.U, Pt.locs, Pt.cells, Pt.slots] at X' e1 e2 h1 h2 h3 st hcl
    subst h1; subst h2; subst h3
    exact Or.inr ⟨q, (T.setVm vm₁).calling g' mk As.toArray, t, U', L, E, ce, hT, X', hL, e1, e2, hq, hce, hcv, vx_cls hW₁ hcl, st⟩
end
end VXH
theorem vx_ofWH {l : Launch} {y : MethodName} {ws ws' : List Cond} {rm : Room} {Pc : Array Value → State → Prop} {Qc : Array Value → State → Outcome → State → Prop} {XC : String → State → State → Prop} {mc ms : Nat} {free : Addr → Prop} {cc : ByteArray} {maxL : Nat} {ret : Option FieldType} {hh : List (Nat × Nat × Nat × Nat)}
    (hy : plainName y.cls = true) (hw : ws = Cond.codeWith y cc maxL ret hh :: ws')
    (body : ∀ p e s m args below meth c s₁, BodyLoose p l y (headSpec ws rm) cc maxL ret e s m args below meth c s₁ → c.maxLocals = maxL → Pc args s →
      W p l e (headSpec ws rm).room s m args below meth c s.heap [] 0 0 (vx_MQ below Qc XC args s mc ms free) (entryFrame m args maxL)) : vx_Met l y ws rm Pc Qc XC mc ms free := by
  refine MetFree.of_bodyS (code := cc) (maxLocals := maxL) (ret := ret) hy ?_ ?_
  · intro args s m h hn
    obtain ⟨m9, meth, c, hn9, h1, h2, h3, h4, -, h5, h6, -⟩ := Cond.codeWith_spec (atoms_spec (ws := ws) h _ (by rw [hw]; exact List.mem_cons_self))
    cases hn.symm.trans hn9
    exact ⟨meth, c, h1, h2, h3, h4, h5, h6⟩
  · intro p e s m args below meth c s₁ B hml hP _
    have hh0 : s₁.heap = s.heap := by rw [B.state]; rfl
    obtain ⟨t, a1, o, b1, b2, b3⟩ := body p e s m args below meth c s₁ B hml hP s₁ hh0 (Stand.of_body B)
    exact ⟨t, o, a1, b1, b2, b3⟩
/-! ===== END ===== -/
end
section
/-! ===== BEGIN printed: names, fields, word lists, decode rows ===== -/
def RX0 : String := "LastUseDesk$Cache"
def TX0 : u_T := fun k => match k with
  | 0 => ("LastUseDesk$Cache", "order", "LLastUseDesk$UseOrder;", true)
  | 1 => ("LastUseDesk$Cache", "bound", "I", true)
  | _ => ("LastUseDesk$Cache", "hitCount", "I", false)
def tyX0 : Nat → FieldType := fun k => match k with
  | 0 => .object "LastUseDesk$UseOrder"
  | 1 => .int
  | _ => .int
abbrev wsX00 : List Cond := u_ws RX0 TX0 3
theorem nmX0 : ∀ a, a < 3 → ∀ b, b < 3 → a ≠ b → (TX0 a).2.1 ≠ (TX0 b).2.1 := by decide +kernel
theorem tyX0_ok : ∀ k, k < 3 → parseFieldDescriptor (TX0 k).2.2.1 = some (tyX0 k) := by decide +kernel
abbrev cX0_init : ByteArray := prog_2_method_1_code
def yX0_init : MethodName := ⟨RX0, "<init>", "(I)V"⟩
abbrev cX0_keys : ByteArray := prog_2_method_2_code
def yX0_keys : MethodName := ⟨RX0, "keys", "()LLastUseDesk$UseOrder;"⟩
abbrev cX0_hitCount : ByteArray := prog_2_method_3_code
def yX0_hitCount : MethodName := ⟨RX0, "hitCount", "()I"⟩
abbrev cX0_ask : ByteArray := prog_2_method_4_code
def yX0_ask : MethodName := ⟨RX0, "ask", "(I)Z"⟩
abbrev cX0_restart : ByteArray := prog_2_method_5_code
def yX0_restart : MethodName := ⟨RX0, "restart", "()V"⟩
def RX1 : String := "LastUseDesk$Cursor"
def TX1 : u_T := fun k => match k with
  | 0 => ("LastUseDesk$Cursor", "begun", "Z", false)
  | 1 => ("LastUseDesk$Cursor", "place", "I", false)
  | _ => ("LastUseDesk$Cursor", "gave", "Z", false)
def tyX1 : Nat → FieldType := fun k => match k with
  | 0 => .boolean
  | 1 => .int
  | _ => .boolean
abbrev wsX10 : List Cond := u_ws RX1 TX1 3
theorem nmX1 : ∀ a, a < 3 → ∀ b, b < 3 → a ≠ b → (TX1 a).2.1 ≠ (TX1 b).2.1 := by decide +kernel
theorem tyX1_ok : ∀ k, k < 3 → parseFieldDescriptor (TX1 k).2.2.1 = some (tyX1 k) := by decide +kernel
abbrev cX1_init : ByteArray := prog_3_method_1_code
def yX1_init : MethodName := ⟨RX1, "<init>", "()V"⟩
abbrev cX1_begin : ByteArray := prog_3_method_2_code
def yX1_begin : MethodName := ⟨RX1, "begin", "()V"⟩
abbrev cX1_end : ByteArray := prog_3_method_3_code
def yX1_end : MethodName := ⟨RX1, "end", "()V"⟩
abbrev cX1_isBegun : ByteArray := prog_3_method_4_code
def yX1_isBegun : MethodName := ⟨RX1, "isBegun", "()Z"⟩
abbrev cX1_isAheadOf : ByteArray := prog_3_method_5_code
def yX1_isAheadOf : MethodName := ⟨RX1, "isAheadOf", "(I)Z"⟩
abbrev cX1_canTake : ByteArray := prog_3_method_6_code
def yX1_canTake : MethodName := ⟨RX1, "canTake", "()Z"⟩
abbrev cX1_advance : ByteArray := prog_3_method_7_code
def yX1_advance : MethodName := ⟨RX1, "advance", "()I"⟩
abbrev cX1_stepBack : ByteArray := prog_3_method_8_code
def yX1_stepBack : MethodName := ⟨RX1, "stepBack", "()I"⟩
def RX2 : String := "LastUseDesk$Machine"
def TX2 : u_T := fun k => match k with
  | 0 => ("LastUseDesk$Machine", "disc", "[I", true)
  | 1 => ("LastUseDesk$Machine", "held", "[I", true)
  | 2 => ("LastUseDesk$Machine", "dirty", "[Z", true)
  | 3 => ("LastUseDesk$Machine", "order", "LLastUseDesk$UseOrder;", true)
  | 4 => ("LastUseDesk$Machine", "frames", "I", false)
  | 5 => ("LastUseDesk$Machine", "accumulated", "I", false)
  | 6 => ("LastUseDesk$Machine", "faultCount", "I", false)
  | _ => ("LastUseDesk$Machine", "writeCount", "I", false)
def tyX2 : Nat → FieldType := fun k => match k with
  | 0 => .array .int
  | 1 => .array .int
  | 2 => .array .boolean
  | 3 => .object "LastUseDesk$UseOrder"
  | 4 => .int
  | 5 => .int
  | 6 => .int
  | _ => .int
abbrev wsX20 : List Cond := u_ws RX2 TX2 8
theorem nmX2 : ∀ a, a < 8 → ∀ b, b < 8 → a ≠ b → (TX2 a).2.1 ≠ (TX2 b).2.1 := by decide +kernel
theorem tyX2_ok : ∀ k, k < 8 → parseFieldDescriptor (TX2 k).2.2.1 = some (tyX2 k) := by decide +kernel
abbrev cX2_init : ByteArray := prog_4_method_1_code
def yX2_init : MethodName := ⟨RX2, "<init>", "()V"⟩
abbrev cX2_pages : ByteArray := prog_4_method_2_code
def yX2_pages : MethodName := ⟨RX2, "pages", "()LLastUseDesk$UseOrder;"⟩
abbrev cX2_accumulated : ByteArray := prog_4_method_3_code
def yX2_accumulated : MethodName := ⟨RX2, "accumulated", "()I"⟩
abbrev cX2_faultCount : ByteArray := prog_4_method_4_code
def yX2_faultCount : MethodName := ⟨RX2, "faultCount", "()I"⟩
abbrev cX2_writeCount : ByteArray := prog_4_method_5_code
def yX2_writeCount : MethodName := ⟨RX2, "writeCount", "()I"⟩
abbrev cX2_hasChanged : ByteArray := prog_4_method_6_code
def yX2_hasChanged : MethodName := ⟨RX2, "hasChanged", "(I)Z"⟩
abbrev cX2_discIn : ByteArray := prog_4_method_7_code
def yX2_discIn : MethodName := ⟨RX2, "discIn", "(I)I"⟩
abbrev cX2_wordIn : ByteArray := prog_4_method_8_code
def yX2_wordIn : MethodName := ⟨RX2, "wordIn", "(I)I"⟩
abbrev cX2_perform : ByteArray := prog_4_method_9_code
def yX2_perform : MethodName := ⟨RX2, "perform", "(II)V"⟩
abbrev cX2_changeFrames : ByteArray := prog_4_method_10_code
def yX2_changeFrames : MethodName := ⟨RX2, "changeFrames", "(I)I"⟩
abbrev cX2_writeAll : ByteArray := prog_4_method_11_code
def yX2_writeAll : MethodName := ⟨RX2, "writeAll", "()I"⟩
abbrev cX2_access : ByteArray := prog_4_method_12_code
def yX2_access : MethodName := ⟨RX2, "access", "(I)V"⟩
abbrev cX2_storeWord : ByteArray := prog_4_method_13_code
def yX2_storeWord : MethodName := ⟨RX2, "storeWord", "(II)V"⟩
abbrev cX2_writeIfDirty : ByteArray := prog_4_method_14_code
def yX2_writeIfDirty : MethodName := ⟨RX2, "writeIfDirty", "(I)V"⟩
abbrev cX2_copyPage : ByteArray := prog_4_method_15_code
def yX2_copyPage : MethodName := ⟨RX2, "copyPage", "(I[I[I)V"⟩
def RX3 : String := "LastUseDesk$Program"
def TX3 : u_T := fun k => match k with
  | 0 => ("LastUseDesk$Program", "letters", "[I", true)
  | 1 => ("LastUseDesk$Program", "numbers", "[I", true)
  | 2 => ("LastUseDesk$Program", "count", "I", false)
  | 3 => ("LastUseDesk$Program", "loopStarts", "[I", true)
  | 4 => ("LastUseDesk$Program", "loopTimes", "[I", true)
  | _ => ("LastUseDesk$Program", "open", "I", false)
def tyX3 : Nat → FieldType := fun k => match k with
  | 0 => .array .int
  | 1 => .array .int
  | 2 => .int
  | 3 => .array .int
  | 4 => .array .int
  | _ => .int
abbrev wsX30 : List Cond := u_ws RX3 TX3 6
theorem nmX3 : ∀ a, a < 6 → ∀ b, b < 6 → a ≠ b → (TX3 a).2.1 ≠ (TX3 b).2.1 := by decide +kernel
theorem tyX3_ok : ∀ k, k < 6 → parseFieldDescriptor (TX3 k).2.2.1 = some (tyX3 k) := by decide +kernel
abbrev cX3_init : ByteArray := prog_5_method_1_code
def yX3_init : MethodName := ⟨RX3, "<init>", "()V"⟩
abbrev cX3_restart : ByteArray := prog_5_method_2_code
def yX3_restart : MethodName := ⟨RX3, "restart", "()V"⟩
abbrev cX3_length : ByteArray := prog_5_method_3_code
def yX3_length : MethodName := ⟨RX3, "length", "()I"⟩
abbrev cX3_letterIn : ByteArray := prog_5_method_4_code
def yX3_letterIn : MethodName := ⟨RX3, "letterIn", "(I)I"⟩
abbrev cX3_numberIn : ByteArray := prog_5_method_5_code
def yX3_numberIn : MethodName := ⟨RX3, "numberIn", "(I)I"⟩
abbrev cX3_isInLoop : ByteArray := prog_5_method_6_code
def yX3_isInLoop : MethodName := ⟨RX3, "isInLoop", "()Z"⟩
abbrev cX3_canOpenLoop : ByteArray := prog_5_method_7_code
def yX3_canOpenLoop : MethodName := ⟨RX3, "canOpenLoop", "()Z"⟩
abbrev cX3_addStep : ByteArray := prog_5_method_8_code
def yX3_addStep : MethodName := ⟨RX3, "addStep", "(II)V"⟩
abbrev cX3_openLoop : ByteArray := prog_5_method_9_code
def yX3_openLoop : MethodName := ⟨RX3, "openLoop", "(I)V"⟩
abbrev cX3_closeLoop : ByteArray := prog_5_method_10_code
def yX3_closeLoop : MethodName := ⟨RX3, "closeLoop", "()V"⟩
def RX4 : String := "LastUseDesk$ProgramReader"
def TX4 : u_T := fun k => match k with
  | 0 => ("LastUseDesk$ProgramReader", "tape", "LLastUseDesk$Tape;", true)
  | 1 => ("LastUseDesk$ProgramReader", "program", "LLastUseDesk$Program;", true)
  | _ => ("LastUseDesk$ProgramReader", "position", "I", false)
def tyX4 : Nat → FieldType := fun k => match k with
  | 0 => .object "LastUseDesk$Tape"
  | 1 => .object "LastUseDesk$Program"
  | _ => .int
abbrev wsX40 : List Cond := u_ws RX4 TX4 3
theorem nmX4 : ∀ a, a < 3 → ∀ b, b < 3 → a ≠ b → (TX4 a).2.1 ≠ (TX4 b).2.1 := by decide +kernel
theorem tyX4_ok : ∀ k, k < 3 → parseFieldDescriptor (TX4 k).2.2.1 = some (tyX4 k) := by decide +kernel
abbrev cX4_init : ByteArray := prog_6_method_1_code
def yX4_init : MethodName := ⟨RX4, "<init>", "()V"⟩
abbrev cX4_tape : ByteArray := prog_6_method_2_code
def yX4_tape : MethodName := ⟨RX4, "tape", "()LLastUseDesk$Tape;"⟩
abbrev cX4_program : ByteArray := prog_6_method_3_code
def yX4_program : MethodName := ⟨RX4, "program", "()LLastUseDesk$Program;"⟩
abbrev cX4_read : ByteArray := prog_6_method_4_code
def yX4_read : MethodName := ⟨RX4, "read", "()I"⟩
abbrev cX4_readPart : ByteArray := prog_6_method_5_code
def yX4_readPart : MethodName := ⟨RX4, "readPart", "()Z"⟩
abbrev cX4_readStep : ByteArray := prog_6_method_6_code
def yX4_readStep : MethodName := ⟨RX4, "readStep", "(I)Z"⟩
abbrev cX4_readLoopStart : ByteArray := prog_6_method_7_code
def yX4_readLoopStart : MethodName := ⟨RX4, "readLoopStart", "()Z"⟩
abbrev cX4_readLoopEnd : ByteArray := prog_6_method_8_code
def yX4_readLoopEnd : MethodName := ⟨RX4, "readLoopEnd", "()Z"⟩
abbrev cX4_readSign : ByteArray := prog_6_method_9_code
def yX4_readSign : MethodName := ⟨RX4, "readSign", "(I)Z"⟩
abbrev cX4_readNumber : ByteArray := prog_6_method_10_code
def yX4_readNumber : MethodName := ⟨RX4, "readNumber", "(II)I"⟩
abbrev cX4_countDigits : ByteArray := prog_6_method_11_code
def yX4_countDigits : MethodName := ⟨RX4, "countDigits", "()I"⟩
abbrev cX4_pass : ByteArray := prog_6_method_12_code
def yX4_pass : MethodName := ⟨RX4, "pass", "(I)V"⟩
abbrev cX4_isDigit : ByteArray := prog_6_method_13_code
def yX4_isDigit : MethodName := ⟨RX4, "isDigit", "(I)Z"⟩
abbrev cX4_isBlank : ByteArray := prog_6_method_14_code
def yX4_isBlank : MethodName := ⟨RX4, "isBlank", "(I)Z"⟩
def RX5 : String := "LastUseDesk$RequestLog"
def TX5 : u_T := fun k => match k with
  | 0 => ("LastUseDesk$RequestLog", "keys", "[I", true)
  | 1 => ("LastUseDesk$RequestLog", "distances", "[I", true)
  | 2 => ("LastUseDesk$RequestLog", "latest", "LLastUseDesk$UseOrder;", true)
  | _ => ("LastUseDesk$RequestLog", "count", "I", false)
def tyX5 : Nat → FieldType := fun k => match k with
  | 0 => .array .int
  | 1 => .array .int
  | 2 => .object "LastUseDesk$UseOrder"
  | _ => .int
abbrev wsX50 : List Cond := u_ws RX5 TX5 4
theorem nmX5 : ∀ a, a < 4 → ∀ b, b < 4 → a ≠ b → (TX5 a).2.1 ≠ (TX5 b).2.1 := by decide +kernel
theorem tyX5_ok : ∀ k, k < 4 → parseFieldDescriptor (TX5 k).2.2.1 = some (tyX5 k) := by decide +kernel
abbrev cX5_init : ByteArray := prog_7_method_1_code
def yX5_init : MethodName := ⟨RX5, "<init>", "()V"⟩
abbrev cX5_length : ByteArray := prog_7_method_2_code
def yX5_length : MethodName := ⟨RX5, "length", "()I"⟩
abbrev cX5_keyIn : ByteArray := prog_7_method_3_code
def yX5_keyIn : MethodName := ⟨RX5, "keyIn", "(I)I"⟩
abbrev cX5_distanceIn : ByteArray := prog_7_method_4_code
def yX5_distanceIn : MethodName := ⟨RX5, "distanceIn", "(I)I"⟩
abbrev cX5_note : ByteArray := prog_7_method_5_code
def yX5_note : MethodName := ⟨RX5, "note", "(I)V"⟩
abbrev cX5_countBelow : ByteArray := prog_7_method_6_code
def yX5_countBelow : MethodName := ⟨RX5, "countBelow", "(I)I"⟩
abbrev cX5_distanceTotal : ByteArray := prog_7_method_7_code
def yX5_distanceTotal : MethodName := ⟨RX5, "distanceTotal", "()I"⟩
abbrev cX5_restart : ByteArray := prog_7_method_8_code
def yX5_restart : MethodName := ⟨RX5, "restart", "()V"⟩
abbrev cX5_distanceTo : ByteArray := prog_7_method_9_code
def yX5_distanceTo : MethodName := ⟨RX5, "distanceTo", "(I)I"⟩
def RX6 : String := "LastUseDesk$Tape"
def TX6 : u_T := fun k => match k with
  | 0 => ("LastUseDesk$Tape", "bytes", "[I", true)
  | _ => ("LastUseDesk$Tape", "count", "I", false)
def tyX6 : Nat → FieldType := fun k => match k with
  | 0 => .array .int
  | _ => .int
abbrev wsX60 : List Cond := u_ws RX6 TX6 2
theorem nmX6 : ∀ a, a < 2 → ∀ b, b < 2 → a ≠ b → (TX6 a).2.1 ≠ (TX6 b).2.1 := by decide +kernel
theorem tyX6_ok : ∀ k, k < 2 → parseFieldDescriptor (TX6 k).2.2.1 = some (tyX6 k) := by decide +kernel
abbrev cX6_init : ByteArray := prog_8_method_1_code
def yX6_init : MethodName := ⟨RX6, "<init>", "()V"⟩
abbrev cX6_bytesOf : ByteArray := prog_8_method_2_code
def yX6_bytesOf : MethodName := ⟨RX6, "bytesOf", "(I)I"⟩
abbrev cX6_length : ByteArray := prog_8_method_3_code
def yX6_length : MethodName := ⟨RX6, "length", "()I"⟩
abbrev cX6_byteIn : ByteArray := prog_8_method_4_code
def yX6_byteIn : MethodName := ⟨RX6, "byteIn", "(I)I"⟩
abbrev cX6_addBytes : ByteArray := prog_8_method_5_code
def yX6_addBytes : MethodName := ⟨RX6, "addBytes", "(I)V"⟩
abbrev cX6_empty : ByteArray := prog_8_method_6_code
def yX6_empty : MethodName := ⟨RX6, "empty", "()I"⟩
def RX7 : String := "LastUseDesk$UseMap"
def TX7 : u_T := fun k => match k with
  | 0 => ("LastUseDesk$UseMap", "order", "LLastUseDesk$UseOrder;", true)
  | 1 => ("LastUseDesk$UseMap", "cursor", "LLastUseDesk$Cursor;", true)
  | 2 => ("LastUseDesk$UseMap", "values", "[I", true)
  | 3 => ("LastUseDesk$UseMap", "bound", "I", false)
  | 4 => ("LastUseDesk$UseMap", "outCount", "I", false)
  | _ => ("LastUseDesk$UseMap", "outLast", "I", false)
def tyX7 : Nat → FieldType := fun k => match k with
  | 0 => .object "LastUseDesk$UseOrder"
  | 1 => .object "LastUseDesk$Cursor"
  | 2 => .array .int
  | 3 => .int
  | 4 => .int
  | _ => .int
abbrev wsX70 : List Cond := u_ws RX7 TX7 6
theorem nmX7 : ∀ a, a < 6 → ∀ b, b < 6 → a ≠ b → (TX7 a).2.1 ≠ (TX7 b).2.1 := by decide +kernel
theorem tyX7_ok : ∀ k, k < 6 → parseFieldDescriptor (TX7 k).2.2.1 = some (tyX7 k) := by decide +kernel
abbrev cX7_init : ByteArray := prog_9_method_1_code
def yX7_init : MethodName := ⟨RX7, "<init>", "(I)V"⟩
abbrev cX7_keys : ByteArray := prog_9_method_2_code
def yX7_keys : MethodName := ⟨RX7, "keys", "()LLastUseDesk$UseOrder;"⟩
abbrev cX7_cursor : ByteArray := prog_9_method_3_code
def yX7_cursor : MethodName := ⟨RX7, "cursor", "()LLastUseDesk$Cursor;"⟩
abbrev cX7_outCount : ByteArray := prog_9_method_4_code
def yX7_outCount : MethodName := ⟨RX7, "outCount", "()I"⟩
abbrev cX7_outLast : ByteArray := prog_9_method_5_code
def yX7_outLast : MethodName := ⟨RX7, "outLast", "()I"⟩
abbrev cX7_lookUp : ByteArray := prog_9_method_6_code
def yX7_lookUp : MethodName := ⟨RX7, "lookUp", "(I)I"⟩
abbrev cX7_valueIn : ByteArray := prog_9_method_7_code
def yX7_valueIn : MethodName := ⟨RX7, "valueIn", "(I)I"⟩
abbrev cX7_store : ByteArray := prog_9_method_8_code
def yX7_store : MethodName := ⟨RX7, "store", "(II)I"⟩
abbrev cX7_storeIfMissing : ByteArray := prog_9_method_9_code
def yX7_storeIfMissing : MethodName := ⟨RX7, "storeIfMissing", "(II)I"⟩
abbrev cX7_fetch : ByteArray := prog_9_method_10_code
def yX7_fetch : MethodName := ⟨RX7, "fetch", "(I)I"⟩
abbrev cX7_drop : ByteArray := prog_9_method_11_code
def yX7_drop : MethodName := ⟨RX7, "drop", "(I)I"⟩
abbrev cX7_dropAll : ByteArray := prog_9_method_12_code
def yX7_dropAll : MethodName := ⟨RX7, "dropAll", "()I"⟩
abbrev cX7_changeBound : ByteArray := prog_9_method_13_code
def yX7_changeBound : MethodName := ⟨RX7, "changeBound", "(I)I"⟩
abbrev cX7_holdsValue : ByteArray := prog_9_method_14_code
def yX7_holdsValue : MethodName := ⟨RX7, "holdsValue", "(I)Z"⟩
abbrev cX7_total : ByteArray := prog_9_method_15_code
def yX7_total : MethodName := ⟨RX7, "total", "()I"⟩
abbrev cX7_recordOut : ByteArray := prog_9_method_16_code
def yX7_recordOut : MethodName := ⟨RX7, "recordOut", "(I)V"⟩
def RX8 : String := "LastUseDesk$UseOrder"
def TX8 : u_T := fun k => match k with
  | 0 => ("LastUseDesk$UseOrder", "keys", "[I", true)
  | _ => ("LastUseDesk$UseOrder", "count", "I", false)
def tyX8 : Nat → FieldType := fun k => match k with
  | 0 => .array .int
  | _ => .int
abbrev wsX80 : List Cond := u_ws RX8 TX8 2
theorem nmX8 : ∀ a, a < 2 → ∀ b, b < 2 → a ≠ b → (TX8 a).2.1 ≠ (TX8 b).2.1 := by decide +kernel
theorem tyX8_ok : ∀ k, k < 2 → parseFieldDescriptor (TX8 k).2.2.1 = some (tyX8 k) := by decide +kernel
abbrev cX8_init : ByteArray := prog_10_method_1_code
def yX8_init : MethodName := ⟨RX8, "<init>", "()V"⟩
abbrev cX8_length : ByteArray := prog_10_method_2_code
def yX8_length : MethodName := ⟨RX8, "length", "()I"⟩
abbrev cX8_keyIn : ByteArray := prog_10_method_3_code
def yX8_keyIn : MethodName := ⟨RX8, "keyIn", "(I)I"⟩
abbrev cX8_find : ByteArray := prog_10_method_4_code
def yX8_find : MethodName := ⟨RX8, "find", "(I)I"⟩
abbrev cX8_holds : ByteArray := prog_10_method_5_code
def yX8_holds : MethodName := ⟨RX8, "holds", "(I)Z"⟩
abbrev cX8_use : ByteArray := prog_10_method_6_code
def yX8_use : MethodName := ⟨RX8, "use", "(I)Z"⟩
abbrev cX8_dropIn : ByteArray := prog_10_method_7_code
def yX8_dropIn : MethodName := ⟨RX8, "dropIn", "(I)V"⟩
abbrev cX8_dropBeyond : ByteArray := prog_10_method_8_code
def yX8_dropBeyond : MethodName := ⟨RX8, "dropBeyond", "(I)I"⟩
abbrev cX8_dropAll : ByteArray := prog_10_method_9_code
def yX8_dropAll : MethodName := ⟨RX8, "dropAll", "()V"⟩
def RX9 : String := "LastUseDesk"
def TX9 : u_T := fun k => match k with
  | 0 => ("LastUseDesk", "free", "LLastUseDesk$UseMap;", true)
  | 1 => ("LastUseDesk", "bounded", "LLastUseDesk$UseMap;", true)
  | 2 => ("LastUseDesk", "caches", "[LLastUseDesk$Cache;", true)
  | 3 => ("LastUseDesk", "log", "LLastUseDesk$RequestLog;", true)
  | 4 => ("LastUseDesk", "reader", "LLastUseDesk$ProgramReader;", true)
  | 5 => ("LastUseDesk", "machine", "LLastUseDesk$Machine;", true)
  | _ => ("LastUseDesk", "latestError", "I", false)
def tyX9 : Nat → FieldType := fun k => match k with
  | 0 => .object "LastUseDesk$UseMap"
  | 1 => .object "LastUseDesk$UseMap"
  | 2 => .array (.object "LastUseDesk$Cache")
  | 3 => .object "LastUseDesk$RequestLog"
  | 4 => .object "LastUseDesk$ProgramReader"
  | 5 => .object "LastUseDesk$Machine"
  | _ => .int
abbrev wsX90 : List Cond := u_ws RX9 TX9 7
theorem nmX9 : ∀ a, a < 7 → ∀ b, b < 7 → a ≠ b → (TX9 a).2.1 ≠ (TX9 b).2.1 := by decide +kernel
theorem tyX9_ok : ∀ k, k < 7 → parseFieldDescriptor (TX9 k).2.2.1 = some (tyX9 k) := by decide +kernel
abbrev cX9_init : ByteArray := prog_1_method_1_code
def yX9_init : MethodName := ⟨RX9, "<init>", "()V"⟩
abbrev cX9_put : ByteArray := prog_1_method_2_code
def yX9_put : MethodName := ⟨RX9, "put", "(III)I"⟩
abbrev cX9_putIfAbsent : ByteArray := prog_1_method_3_code
def yX9_putIfAbsent : MethodName := ⟨RX9, "putIfAbsent", "(III)I"⟩
abbrev cX9_get : ByteArray := prog_1_method_4_code
def yX9_get : MethodName := ⟨RX9, "get", "(II)I"⟩
abbrev cX9_getOrDefault : ByteArray := prog_1_method_5_code
def yX9_getOrDefault : MethodName := ⟨RX9, "getOrDefault", "(III)I"⟩
abbrev cX9_remove : ByteArray := prog_1_method_6_code
def yX9_remove : MethodName := ⟨RX9, "remove", "(II)I"⟩
abbrev cX9_clear : ByteArray := prog_1_method_7_code
def yX9_clear : MethodName := ⟨RX9, "clear", "(I)I"⟩
abbrev cX9_setBound : ByteArray := prog_1_method_8_code
def yX9_setBound : MethodName := ⟨RX9, "setBound", "(I)I"⟩
abbrev cX9_hasKey : ByteArray := prog_1_method_9_code
def yX9_hasKey : MethodName := ⟨RX9, "hasKey", "(II)Z"⟩
abbrev cX9_hasValue : ByteArray := prog_1_method_10_code
def yX9_hasValue : MethodName := ⟨RX9, "hasValue", "(II)Z"⟩
abbrev cX9_size : ByteArray := prog_1_method_11_code
def yX9_size : MethodName := ⟨RX9, "size", "(I)I"⟩
abbrev cX9_keyAt : ByteArray := prog_1_method_12_code
def yX9_keyAt : MethodName := ⟨RX9, "keyAt", "(II)I"⟩
abbrev cX9_valueAt : ByteArray := prog_1_method_13_code
def yX9_valueAt : MethodName := ⟨RX9, "valueAt", "(II)I"⟩
abbrev cX9_placeOf : ByteArray := prog_1_method_14_code
def yX9_placeOf : MethodName := ⟨RX9, "placeOf", "(II)I"⟩
abbrev cX9_sum : ByteArray := prog_1_method_15_code
def yX9_sum : MethodName := ⟨RX9, "sum", "(I)I"⟩
abbrev cX9_putOut : ByteArray := prog_1_method_16_code
def yX9_putOut : MethodName := ⟨RX9, "putOut", "()I"⟩
abbrev cX9_lastPutOut : ByteArray := prog_1_method_17_code
def yX9_lastPutOut : MethodName := ⟨RX9, "lastPutOut", "()I"⟩
abbrev cX9_beginCursor : ByteArray := prog_1_method_18_code
def yX9_beginCursor : MethodName := ⟨RX9, "beginCursor", "(I)I"⟩
abbrev cX9_hasNext : ByteArray := prog_1_method_19_code
def yX9_hasNext : MethodName := ⟨RX9, "hasNext", "(I)Z"⟩
abbrev cX9_next : ByteArray := prog_1_method_20_code
def yX9_next : MethodName := ⟨RX9, "next", "(I)I"⟩
abbrev cX9_takeOut : ByteArray := prog_1_method_21_code
def yX9_takeOut : MethodName := ⟨RX9, "takeOut", "(I)I"⟩
abbrev cX9_request : ByteArray := prog_1_method_22_code
def yX9_request : MethodName := ⟨RX9, "request", "(I)I"⟩
abbrev cX9_clearCaches : ByteArray := prog_1_method_23_code
def yX9_clearCaches : MethodName := ⟨RX9, "clearCaches", "()I"⟩
abbrev cX9_hits : ByteArray := prog_1_method_24_code
def yX9_hits : MethodName := ⟨RX9, "hits", "(I)I"⟩
abbrev cX9_cached : ByteArray := prog_1_method_25_code
def yX9_cached : MethodName := ⟨RX9, "cached", "(I)I"⟩
abbrev cX9_isCached : ByteArray := prog_1_method_26_code
def yX9_isCached : MethodName := ⟨RX9, "isCached", "(II)Z"⟩
abbrev cX9_cachedAt : ByteArray := prog_1_method_27_code
def yX9_cachedAt : MethodName := ⟨RX9, "cachedAt", "(II)I"⟩
abbrev cX9_requests : ByteArray := prog_1_method_28_code
def yX9_requests : MethodName := ⟨RX9, "requests", "()I"⟩
abbrev cX9_requestAt : ByteArray := prog_1_method_29_code
def yX9_requestAt : MethodName := ⟨RX9, "requestAt", "(I)I"⟩
abbrev cX9_distanceOf : ByteArray := prog_1_method_30_code
def yX9_distanceOf : MethodName := ⟨RX9, "distanceOf", "(I)I"⟩
abbrev cX9_nearer : ByteArray := prog_1_method_31_code
def yX9_nearer : MethodName := ⟨RX9, "nearer", "(I)I"⟩
abbrev cX9_leastCache : ByteArray := prog_1_method_32_code
def yX9_leastCache : MethodName := ⟨RX9, "leastCache", "(I)I"⟩
abbrev cX9_append : ByteArray := prog_1_method_33_code
def yX9_append : MethodName := ⟨RX9, "append", "(IIIII)I"⟩
abbrev cX9_clearTape : ByteArray := prog_1_method_34_code
def yX9_clearTape : MethodName := ⟨RX9, "clearTape", "()I"⟩
abbrev cX9_run : ByteArray := prog_1_method_35_code
def yX9_run : MethodName := ⟨RX9, "run", "()I"⟩
abbrev cX9_errorPosition : ByteArray := prog_1_method_36_code
def yX9_errorPosition : MethodName := ⟨RX9, "errorPosition", "()I"⟩
abbrev cX9_setFrames : ByteArray := prog_1_method_37_code
def yX9_setFrames : MethodName := ⟨RX9, "setFrames", "(I)I"⟩
abbrev cX9_flush : ByteArray := prog_1_method_38_code
def yX9_flush : MethodName := ⟨RX9, "flush", "()I"⟩
abbrev cX9_accumulator : ByteArray := prog_1_method_39_code
def yX9_accumulator : MethodName := ⟨RX9, "accumulator", "()I"⟩
abbrev cX9_wordAt : ByteArray := prog_1_method_40_code
def yX9_wordAt : MethodName := ⟨RX9, "wordAt", "(I)I"⟩
abbrev cX9_discAt : ByteArray := prog_1_method_41_code
def yX9_discAt : MethodName := ⟨RX9, "discAt", "(I)I"⟩
abbrev cX9_resident : ByteArray := prog_1_method_42_code
def yX9_resident : MethodName := ⟨RX9, "resident", "()I"⟩
abbrev cX9_residentAt : ByteArray := prog_1_method_43_code
def yX9_residentAt : MethodName := ⟨RX9, "residentAt", "(I)I"⟩
abbrev cX9_isDirty : ByteArray := prog_1_method_44_code
def yX9_isDirty : MethodName := ⟨RX9, "isDirty", "(I)Z"⟩
abbrev cX9_faults : ByteArray := prog_1_method_45_code
def yX9_faults : MethodName := ⟨RX9, "faults", "()I"⟩
abbrev cX9_writes : ByteArray := prog_1_method_46_code
def yX9_writes : MethodName := ⟨RX9, "writes", "()I"⟩
abbrev cX9_hitShare : ByteArray := prog_1_method_47_code
def yX9_hitShare : MethodName := ⟨RX9, "hitShare", "(I)F"⟩
abbrev cX9_meanDistance : ByteArray := prog_1_method_48_code
def yX9_meanDistance : MethodName := ⟨RX9, "meanDistance", "()D"⟩
abbrev cX9_errors : ByteArray := prog_1_method_49_code
def yX9_errors : MethodName := ⟨RX9, "errors", "()I"⟩
abbrev cX9_requireRange : ByteArray := prog_1_method_50_code
def yX9_requireRange : MethodName := ⟨RX9, "requireRange", "(III)V"⟩
abbrev cX9_requireKey : ByteArray := prog_1_method_51_code
def yX9_requireKey : MethodName := ⟨RX9, "requireKey", "(I)V"⟩
abbrev cX9_requireValue : ByteArray := prog_1_method_52_code
def yX9_requireValue : MethodName := ⟨RX9, "requireValue", "(I)V"⟩
abbrev cX9_requirePlace : ByteArray := prog_1_method_53_code
def yX9_requirePlace : MethodName := ⟨RX9, "requirePlace", "(II)V"⟩
abbrev cX9_chosenMap : ByteArray := prog_1_method_54_code
def yX9_chosenMap : MethodName := ⟨RX9, "chosenMap", "(I)LLastUseDesk$UseMap;"⟩
abbrev cX9_chosenCache : ByteArray := prog_1_method_55_code
def yX9_chosenCache : MethodName := ⟨RX9, "chosenCache", "(I)LLastUseDesk$Cache;"⟩
abbrev cX9_askCaches : ByteArray := prog_1_method_56_code
def yX9_askCaches : MethodName := ⟨RX9, "askCaches", "(I)I"⟩
abbrev cX9_performStep : ByteArray := prog_1_method_57_code
def yX9_performStep : MethodName := ⟨RX9, "performStep", "(II)V"⟩
abbrev cX9_hitsContradictLog : ByteArray := prog_1_method_58_code
def yX9_hitsContradictLog : MethodName := ⟨RX9, "hitsContradictLog", "(I)Z"⟩
abbrev cX9_hasKeyThatNextLacks : ByteArray := prog_1_method_59_code
def yX9_hasKeyThatNextLacks : MethodName := ⟨RX9, "hasKeyThatNextLacks", "(I)Z"⟩
def RX10 : String := "LastUseDeskModel"
def TX10 : u_T := fun k => match k with
  | 0 => ("LastUseDeskModel", "thrown", "I", false)
  | 1 => ("LastUseDeskModel", "mapKey", "[I", true)
  | 2 => ("LastUseDeskModel", "mapValue", "[I", true)
  | 3 => ("LastUseDeskModel", "many", "[I", true)
  | 4 => ("LastUseDeskModel", "bound", "I", false)
  | 5 => ("LastUseDeskModel", "putOut", "I", false)
  | 6 => ("LastUseDeskModel", "lastPutOut", "I", false)
  | 7 => ("LastUseDeskModel", "cursor", "[I", true)
  | 8 => ("LastUseDeskModel", "canTake", "[Z", true)
  | 9 => ("LastUseDeskModel", "cacheKey", "[I", true)
  | 10 => ("LastUseDeskModel", "held", "[I", true)
  | 11 => ("LastUseDeskModel", "hits", "[I", true)
  | 12 => ("LastUseDeskModel", "record", "[I", true)
  | 13 => ("LastUseDeskModel", "requests", "I", false)
  | 14 => ("LastUseDeskModel", "isMet", "[Z", true)
  | 15 => ("LastUseDeskModel", "tape", "[I", true)
  | 16 => ("LastUseDeskModel", "tapeMany", "I", false)
  | 17 => ("LastUseDeskModel", "token", "I", false)
  | 18 => ("LastUseDeskModel", "tokenAt", "I", false)
  | 19 => ("LastUseDeskModel", "value", "I", false)
  | 20 => ("LastUseDeskModel", "at", "I", false)
  | 21 => ("LastUseDeskModel", "itemKind", "[I", true)
  | 22 => ("LastUseDeskModel", "itemNumber", "[I", true)
  | 23 => ("LastUseDeskModel", "items", "I", false)
  | 24 => ("LastUseDeskModel", "errorAt", "I", false)
  | 25 => ("LastUseDeskModel", "beganAt", "[I", true)
  | 26 => ("LastUseDeskModel", "left", "[I", true)
  | 27 => ("LastUseDeskModel", "disc", "[I", true)
  | 28 => ("LastUseDeskModel", "word", "[I", true)
  | 29 => ("LastUseDeskModel", "page", "[I", true)
  | 30 => ("LastUseDeskModel", "isDirty", "[Z", true)
  | 31 => ("LastUseDeskModel", "frames", "I", false)
  | 32 => ("LastUseDeskModel", "resident", "I", false)
  | 33 => ("LastUseDeskModel", "accumulator", "I", false)
  | 34 => ("LastUseDeskModel", "faults", "I", false)
  | _ => ("LastUseDeskModel", "writes", "I", false)
def tyX10 : Nat → FieldType := fun k => match k with
  | 0 => .int
  | 1 => .array .int
  | 2 => .array .int
  | 3 => .array .int
  | 4 => .int
  | 5 => .int
  | 6 => .int
  | 7 => .array .int
  | 8 => .array .boolean
  | 9 => .array .int
  | 10 => .array .int
  | 11 => .array .int
  | 12 => .array .int
  | 13 => .int
  | 14 => .array .boolean
  | 15 => .array .int
  | 16 => .int
  | 17 => .int
  | 18 => .int
  | 19 => .int
  | 20 => .int
  | 21 => .array .int
  | 22 => .array .int
  | 23 => .int
  | 24 => .int
  | 25 => .array .int
  | 26 => .array .int
  | 27 => .array .int
  | 28 => .array .int
  | 29 => .array .int
  | 30 => .array .boolean
  | 31 => .int
  | 32 => .int
  | 33 => .int
  | 34 => .int
  | _ => .int
abbrev wsX100 : List Cond := u_ws RX10 TX10 36
theorem nmX10 : ∀ a, a < 36 → ∀ b, b < 36 → a ≠ b → (TX10 a).2.1 ≠ (TX10 b).2.1 := by decide +kernel
theorem tyX10_ok : ∀ k, k < 36 → parseFieldDescriptor (TX10 k).2.2.1 = some (tyX10 k) := by decide +kernel
abbrev cX10_thrown : ByteArray := prog_12_method_1_code
def yX10_thrown : MethodName := ⟨RX10, "thrown", "()I"⟩
abbrev cX10_in : ByteArray := prog_12_method_2_code
def yX10_in : MethodName := ⟨RX10, "in", "(III)Z"⟩
abbrev cX10_fails : ByteArray := prog_12_method_3_code
def yX10_fails : MethodName := ⟨RX10, "fails", "(ZI)Z"⟩
abbrev cX10_init : ByteArray := prog_12_method_4_code
def yX10_init : MethodName := ⟨RX10, "<init>", "()V"⟩
abbrev cX10_noMap : ByteArray := prog_12_method_5_code
def yX10_noMap : MethodName := ⟨RX10, "noMap", "(I)Z"⟩
abbrev cX10_noKey : ByteArray := prog_12_method_6_code
def yX10_noKey : MethodName := ⟨RX10, "noKey", "(II)Z"⟩
abbrev cX10_placeIn : ByteArray := prog_12_method_7_code
def yX10_placeIn : MethodName := ⟨RX10, "placeIn", "(II)I"⟩
abbrev cX10_takes : ByteArray := prog_12_method_8_code
def yX10_takes : MethodName := ⟨RX10, "takes", "(II)I"⟩
abbrev cX10_comes : ByteArray := prog_12_method_9_code
def yX10_comes : MethodName := ⟨RX10, "comes", "(III)V"⟩
abbrev cX10_ends : ByteArray := prog_12_method_10_code
def yX10_ends : MethodName := ⟨RX10, "ends", "(I)V"⟩
abbrev cX10_noPair : ByteArray := prog_12_method_11_code
def yX10_noPair : MethodName := ⟨RX10, "noPair", "(III)Z"⟩
abbrev cX10_put : ByteArray := prog_12_method_12_code
def yX10_put : MethodName := ⟨RX10, "put", "(III)I"⟩
abbrev cX10_uses : ByteArray := prog_12_method_13_code
def yX10_uses : MethodName := ⟨RX10, "uses", "(II)I"⟩
abbrev cX10_putIfAbsent : ByteArray := prog_12_method_14_code
def yX10_putIfAbsent : MethodName := ⟨RX10, "putIfAbsent", "(III)I"⟩
abbrev cX10_get : ByteArray := prog_12_method_15_code
def yX10_get : MethodName := ⟨RX10, "get", "(II)I"⟩
abbrev cX10_getOrDefault : ByteArray := prog_12_method_16_code
def yX10_getOrDefault : MethodName := ⟨RX10, "getOrDefault", "(III)I"⟩
abbrev cX10_remove : ByteArray := prog_12_method_17_code
def yX10_remove : MethodName := ⟨RX10, "remove", "(II)I"⟩
abbrev cX10_clear : ByteArray := prog_12_method_18_code
def yX10_clear : MethodName := ⟨RX10, "clear", "(I)I"⟩
abbrev cX10_setBound : ByteArray := prog_12_method_19_code
def yX10_setBound : MethodName := ⟨RX10, "setBound", "(I)I"⟩
abbrev cX10_hasKey : ByteArray := prog_12_method_20_code
def yX10_hasKey : MethodName := ⟨RX10, "hasKey", "(II)Z"⟩
abbrev cX10_hasValue : ByteArray := prog_12_method_21_code
def yX10_hasValue : MethodName := ⟨RX10, "hasValue", "(II)Z"⟩
abbrev cX10_size : ByteArray := prog_12_method_22_code
def yX10_size : MethodName := ⟨RX10, "size", "(I)I"⟩
abbrev cX10_noPlace : ByteArray := prog_12_method_23_code
def yX10_noPlace : MethodName := ⟨RX10, "noPlace", "(II)Z"⟩
abbrev cX10_keyAt : ByteArray := prog_12_method_24_code
def yX10_keyAt : MethodName := ⟨RX10, "keyAt", "(II)I"⟩
abbrev cX10_valueAt : ByteArray := prog_12_method_25_code
def yX10_valueAt : MethodName := ⟨RX10, "valueAt", "(II)I"⟩
abbrev cX10_placeOf : ByteArray := prog_12_method_26_code
def yX10_placeOf : MethodName := ⟨RX10, "placeOf", "(II)I"⟩
abbrev cX10_sum : ByteArray := prog_12_method_27_code
def yX10_sum : MethodName := ⟨RX10, "sum", "(I)I"⟩
abbrev cX10_putOut : ByteArray := prog_12_method_28_code
def yX10_putOut : MethodName := ⟨RX10, "putOut", "()I"⟩
abbrev cX10_lastPutOut : ByteArray := prog_12_method_29_code
def yX10_lastPutOut : MethodName := ⟨RX10, "lastPutOut", "()I"⟩
abbrev cX10_beginCursor : ByteArray := prog_12_method_30_code
def yX10_beginCursor : MethodName := ⟨RX10, "beginCursor", "(I)I"⟩
abbrev cX10_hasNext : ByteArray := prog_12_method_31_code
def yX10_hasNext : MethodName := ⟨RX10, "hasNext", "(I)Z"⟩
abbrev cX10_next : ByteArray := prog_12_method_32_code
def yX10_next : MethodName := ⟨RX10, "next", "(I)I"⟩
abbrev cX10_takeOut : ByteArray := prog_12_method_33_code
def yX10_takeOut : MethodName := ⟨RX10, "takeOut", "(I)I"⟩
abbrev cX10_noCache : ByteArray := prog_12_method_34_code
def yX10_noCache : MethodName := ⟨RX10, "noCache", "(I)Z"⟩
abbrev cX10_cachePlace : ByteArray := prog_12_method_35_code
def yX10_cachePlace : MethodName := ⟨RX10, "cachePlace", "(II)I"⟩
abbrev cX10_leaves : ByteArray := prog_12_method_36_code
def yX10_leaves : MethodName := ⟨RX10, "leaves", "(II)V"⟩
abbrev cX10_asks : ByteArray := prog_12_method_37_code
def yX10_asks : MethodName := ⟨RX10, "asks", "(I)I"⟩
abbrev cX10_request : ByteArray := prog_12_method_38_code
def yX10_request : MethodName := ⟨RX10, "request", "(I)I"⟩
abbrev cX10_clearCaches : ByteArray := prog_12_method_39_code
def yX10_clearCaches : MethodName := ⟨RX10, "clearCaches", "()I"⟩
abbrev cX10_hits : ByteArray := prog_12_method_40_code
def yX10_hits : MethodName := ⟨RX10, "hits", "(I)I"⟩
abbrev cX10_cached : ByteArray := prog_12_method_41_code
def yX10_cached : MethodName := ⟨RX10, "cached", "(I)I"⟩
abbrev cX10_isCached : ByteArray := prog_12_method_42_code
def yX10_isCached : MethodName := ⟨RX10, "isCached", "(II)Z"⟩
abbrev cX10_cachedAt : ByteArray := prog_12_method_43_code
def yX10_cachedAt : MethodName := ⟨RX10, "cachedAt", "(II)I"⟩
abbrev cX10_requests : ByteArray := prog_12_method_44_code
def yX10_requests : MethodName := ⟨RX10, "requests", "()I"⟩
abbrev cX10_noRequest : ByteArray := prog_12_method_45_code
def yX10_noRequest : MethodName := ⟨RX10, "noRequest", "(I)Z"⟩
abbrev cX10_requestAt : ByteArray := prog_12_method_46_code
def yX10_requestAt : MethodName := ⟨RX10, "requestAt", "(I)I"⟩
abbrev cX10_distance : ByteArray := prog_12_method_47_code
def yX10_distance : MethodName := ⟨RX10, "distance", "(I)I"⟩
abbrev cX10_distanceOf : ByteArray := prog_12_method_48_code
def yX10_distanceOf : MethodName := ⟨RX10, "distanceOf", "(I)I"⟩
abbrev cX10_nearerThan : ByteArray := prog_12_method_49_code
def yX10_nearerThan : MethodName := ⟨RX10, "nearerThan", "(I)I"⟩
abbrev cX10_nearer : ByteArray := prog_12_method_50_code
def yX10_nearer : MethodName := ⟨RX10, "nearer", "(I)I"⟩
abbrev cX10_leastCache : ByteArray := prog_12_method_51_code
def yX10_leastCache : MethodName := ⟨RX10, "leastCache", "(I)I"⟩
abbrev cX10_bytesIn : ByteArray := prog_12_method_52_code
def yX10_bytesIn : MethodName := ⟨RX10, "bytesIn", "(I)I"⟩
abbrev cX10_takesBytes : ByteArray := prog_12_method_53_code
def yX10_takesBytes : MethodName := ⟨RX10, "takesBytes", "(I)V"⟩
abbrev cX10_append : ByteArray := prog_12_method_54_code
def yX10_append : MethodName := ⟨RX10, "append", "(IIIII)I"⟩
abbrev cX10_clearTape : ByteArray := prog_12_method_55_code
def yX10_clearTape : MethodName := ⟨RX10, "clearTape", "()I"⟩
abbrev cX10_isSign : ByteArray := prog_12_method_56_code
def yX10_isSign : MethodName := ⟨RX10, "isSign", "(I)Z"⟩
abbrev cX10_reads : ByteArray := prog_12_method_57_code
def yX10_reads : MethodName := ⟨RX10, "reads", "()V"⟩
abbrev cX10_isSignNow : ByteArray := prog_12_method_58_code
def yX10_isSignNow : MethodName := ⟨RX10, "isSignNow", "(I)Z"⟩
abbrev cX10_takesNumber : ByteArray := prog_12_method_59_code
def yX10_takesNumber : MethodName := ⟨RX10, "takesNumber", "(II)Z"⟩
abbrev cX10_readsItem : ByteArray := prog_12_method_60_code
def yX10_readsItem : MethodName := ⟨RX10, "readsItem", "(I)Z"⟩
abbrev cX10_readsAll : ByteArray := prog_12_method_61_code
def yX10_readsAll : MethodName := ⟨RX10, "readsAll", "()Z"⟩
abbrev cX10_runs : ByteArray := prog_12_method_62_code
def yX10_runs : MethodName := ⟨RX10, "runs", "()I"⟩
abbrev cX10_run : ByteArray := prog_12_method_63_code
def yX10_run : MethodName := ⟨RX10, "run", "()I"⟩
abbrev cX10_errorPosition : ByteArray := prog_12_method_64_code
def yX10_errorPosition : MethodName := ⟨RX10, "errorPosition", "()I"⟩
abbrev cX10_pagePlace : ByteArray := prog_12_method_65_code
def yX10_pagePlace : MethodName := ⟨RX10, "pagePlace", "(I)I"⟩
abbrev cX10_out : ByteArray := prog_12_method_66_code
def yX10_out : MethodName := ⟨RX10, "out", "(I)V"⟩
abbrev cX10_writesPage : ByteArray := prog_12_method_67_code
def yX10_writesPage : MethodName := ⟨RX10, "writesPage", "(I)I"⟩
abbrev cX10_accesses : ByteArray := prog_12_method_68_code
def yX10_accesses : MethodName := ⟨RX10, "accesses", "(I)V"⟩
abbrev cX10_does : ByteArray := prog_12_method_69_code
def yX10_does : MethodName := ⟨RX10, "does", "(II)V"⟩
abbrev cX10_writesAll : ByteArray := prog_12_method_70_code
def yX10_writesAll : MethodName := ⟨RX10, "writesAll", "()I"⟩
abbrev cX10_setFrames : ByteArray := prog_12_method_71_code
def yX10_setFrames : MethodName := ⟨RX10, "setFrames", "(I)I"⟩
abbrev cX10_flush : ByteArray := prog_12_method_72_code
def yX10_flush : MethodName := ⟨RX10, "flush", "()I"⟩
abbrev cX10_accumulator : ByteArray := prog_12_method_73_code
def yX10_accumulator : MethodName := ⟨RX10, "accumulator", "()I"⟩
abbrev cX10_noAddress : ByteArray := prog_12_method_74_code
def yX10_noAddress : MethodName := ⟨RX10, "noAddress", "(I)Z"⟩
abbrev cX10_wordAt : ByteArray := prog_12_method_75_code
def yX10_wordAt : MethodName := ⟨RX10, "wordAt", "(I)I"⟩
abbrev cX10_discAt : ByteArray := prog_12_method_76_code
def yX10_discAt : MethodName := ⟨RX10, "discAt", "(I)I"⟩
abbrev cX10_resident : ByteArray := prog_12_method_77_code
def yX10_resident : MethodName := ⟨RX10, "resident", "()I"⟩
abbrev cX10_residentAt : ByteArray := prog_12_method_78_code
def yX10_residentAt : MethodName := ⟨RX10, "residentAt", "(I)I"⟩
abbrev cX10_isDirty : ByteArray := prog_12_method_79_code
def yX10_isDirty : MethodName := ⟨RX10, "isDirty", "(I)Z"⟩
abbrev cX10_faults : ByteArray := prog_12_method_80_code
def yX10_faults : MethodName := ⟨RX10, "faults", "()I"⟩
abbrev cX10_writes : ByteArray := prog_12_method_81_code
def yX10_writes : MethodName := ⟨RX10, "writes", "()I"⟩
abbrev cX10_hitShare : ByteArray := prog_12_method_82_code
def yX10_hitShare : MethodName := ⟨RX10, "hitShare", "(I)F"⟩
abbrev cX10_meanDistance : ByteArray := prog_12_method_83_code
def yX10_meanDistance : MethodName := ⟨RX10, "meanDistance", "()D"⟩
abbrev cX10_errors : ByteArray := prog_12_method_84_code
def yX10_errors : MethodName := ⟨RX10, "errors", "()I"⟩
def RJx145de : String := "java/io/Serializable"
def TJx145de : u_T := fun k => match k with
  | _ => ("", "", "", false)
def tyJx145de : Nat → FieldType := fun k => match k with
  | _ => .int
abbrev wsJx145de0 : List Cond := u_ws RJx145de TJx145de 0
theorem nmJx145de : ∀ a, a < 0 → ∀ b, b < 0 → a ≠ b → (TJx145de a).2.1 ≠ (TJx145de b).2.1 := by decide +kernel
theorem tyJx145de_ok : ∀ k, k < 0 → parseFieldDescriptor (TJx145de k).2.2.1 = some (tyJx145de k) := by decide +kernel
def RJ0 : String := "java/lang/String"
def TJ0 : u_T := fun k => match k with
  | _ => ("", "", "", false)
def tyJ0 : Nat → FieldType := fun k => match k with
  | _ => .int
abbrev wsJ00 : List Cond := u_ws RJ0 TJ0 0
theorem nmJ0 : ∀ a, a < 0 → ∀ b, b < 0 → a ≠ b → (TJ0 a).2.1 ≠ (TJ0 b).2.1 := by decide +kernel
theorem tyJ0_ok : ∀ k, k < 0 → parseFieldDescriptor (TJ0 k).2.2.1 = some (tyJ0 k) := by decide +kernel
def RL : String := "LastUseDeskLaw"
abbrev cL_put : ByteArray := method_3_code
def yL_put : MethodName := ⟨RL, "put", "(LLastUseDesk;III[J)I"⟩
abbrev cL_putIfAbsent : ByteArray := method_4_code
def yL_putIfAbsent : MethodName := ⟨RL, "putIfAbsent", "(LLastUseDesk;III[J)I"⟩
abbrev cL_get : ByteArray := method_5_code
def yL_get : MethodName := ⟨RL, "get", "(LLastUseDesk;II[J)I"⟩
abbrev cL_getOrDefault : ByteArray := method_6_code
def yL_getOrDefault : MethodName := ⟨RL, "getOrDefault", "(LLastUseDesk;III[J)I"⟩
abbrev cL_remove : ByteArray := method_7_code
def yL_remove : MethodName := ⟨RL, "remove", "(LLastUseDesk;II[J)I"⟩
abbrev cL_clear : ByteArray := method_8_code
def yL_clear : MethodName := ⟨RL, "clear", "(LLastUseDesk;I[J)I"⟩
abbrev cL_setBound : ByteArray := method_9_code
def yL_setBound : MethodName := ⟨RL, "setBound", "(LLastUseDesk;I[J)I"⟩
abbrev cL_hasKey : ByteArray := method_10_code
def yL_hasKey : MethodName := ⟨RL, "hasKey", "(LLastUseDesk;II[J)I"⟩
abbrev cL_hasValue : ByteArray := method_11_code
def yL_hasValue : MethodName := ⟨RL, "hasValue", "(LLastUseDesk;II[J)I"⟩
abbrev cL_size : ByteArray := method_12_code
def yL_size : MethodName := ⟨RL, "size", "(LLastUseDesk;I[J)I"⟩
abbrev cL_keyAt : ByteArray := method_13_code
def yL_keyAt : MethodName := ⟨RL, "keyAt", "(LLastUseDesk;II[J)I"⟩
abbrev cL_valueAt : ByteArray := method_14_code
def yL_valueAt : MethodName := ⟨RL, "valueAt", "(LLastUseDesk;II[J)I"⟩
abbrev cL_placeOf : ByteArray := method_15_code
def yL_placeOf : MethodName := ⟨RL, "placeOf", "(LLastUseDesk;II[J)I"⟩
abbrev cL_sum : ByteArray := method_16_code
def yL_sum : MethodName := ⟨RL, "sum", "(LLastUseDesk;I[J)I"⟩
abbrev cL_beginCursor : ByteArray := method_17_code
def yL_beginCursor : MethodName := ⟨RL, "beginCursor", "(LLastUseDesk;I[J)I"⟩
abbrev cL_hasNext : ByteArray := method_18_code
def yL_hasNext : MethodName := ⟨RL, "hasNext", "(LLastUseDesk;I[J)I"⟩
abbrev cL_next : ByteArray := method_19_code
def yL_next : MethodName := ⟨RL, "next", "(LLastUseDesk;I[J)I"⟩
abbrev cL_takeOut : ByteArray := method_20_code
def yL_takeOut : MethodName := ⟨RL, "takeOut", "(LLastUseDesk;I[J)I"⟩
abbrev cL_request : ByteArray := method_21_code
def yL_request : MethodName := ⟨RL, "request", "(LLastUseDesk;I[J)I"⟩
abbrev cL_hits : ByteArray := method_22_code
def yL_hits : MethodName := ⟨RL, "hits", "(LLastUseDesk;I[J)I"⟩
abbrev cL_cached : ByteArray := method_23_code
def yL_cached : MethodName := ⟨RL, "cached", "(LLastUseDesk;I[J)I"⟩
abbrev cL_isCached : ByteArray := method_24_code
def yL_isCached : MethodName := ⟨RL, "isCached", "(LLastUseDesk;II[J)I"⟩
abbrev cL_cachedAt : ByteArray := method_25_code
def yL_cachedAt : MethodName := ⟨RL, "cachedAt", "(LLastUseDesk;II[J)I"⟩
abbrev cL_requestAt : ByteArray := method_26_code
def yL_requestAt : MethodName := ⟨RL, "requestAt", "(LLastUseDesk;I[J)I"⟩
abbrev cL_distanceOf : ByteArray := method_27_code
def yL_distanceOf : MethodName := ⟨RL, "distanceOf", "(LLastUseDesk;I[J)I"⟩
abbrev cL_nearer : ByteArray := method_28_code
def yL_nearer : MethodName := ⟨RL, "nearer", "(LLastUseDesk;I[J)I"⟩
abbrev cL_leastCache : ByteArray := method_29_code
def yL_leastCache : MethodName := ⟨RL, "leastCache", "(LLastUseDesk;I[J)I"⟩
abbrev cL_append : ByteArray := method_30_code
def yL_append : MethodName := ⟨RL, "append", "(LLastUseDesk;IIIII[J)I"⟩
abbrev cL_run : ByteArray := method_31_code
def yL_run : MethodName := ⟨RL, "run", "(LLastUseDesk;[J)I"⟩
abbrev cL_setFrames : ByteArray := method_32_code
def yL_setFrames : MethodName := ⟨RL, "setFrames", "(LLastUseDesk;I[J)I"⟩
abbrev cL_wordAt : ByteArray := method_33_code
def yL_wordAt : MethodName := ⟨RL, "wordAt", "(LLastUseDesk;I[J)I"⟩
abbrev cL_discAt : ByteArray := method_34_code
def yL_discAt : MethodName := ⟨RL, "discAt", "(LLastUseDesk;I[J)I"⟩
abbrev cL_residentAt : ByteArray := method_35_code
def yL_residentAt : MethodName := ⟨RL, "residentAt", "(LLastUseDesk;I[J)I"⟩
abbrev cL_isDirty : ByteArray := method_36_code
def yL_isDirty : MethodName := ⟨RL, "isDirty", "(LLastUseDesk;I[J)I"⟩
abbrev cL_hitShare : ByteArray := method_37_code
def yL_hitShare : MethodName := ⟨RL, "hitShare", "(LLastUseDesk;I[D)I"⟩
abbrev cL_law : ByteArray := code
def yL_law : MethodName := ⟨RL, "law", "([I)Z"⟩
abbrev vwCl : List vw_C := [(RX0, TX0, 3), (RX1, TX1, 3), (RX2, TX2, 8), (RX3, TX3, 6), (RX4, TX4, 3), (RX5, TX5, 4), (RX6, TX6, 2), (RX7, TX7, 6), (RX8, TX8, 2), (RX9, TX9, 7), (RX10, TX10, 36)]
end
section
theorem dX0_init_0 : decode cX0_init 0 = .ok (.aload_n 0, 1) := by decide +kernel
theorem dX0_init_1 : decode cX0_init 1 = .ok (.invokespecial 1, 3) := by decide +kernel
theorem dX0_init_4 : decode cX0_init 4 = .ok (.aload_n 0, 1) := by decide +kernel
theorem dX0_init_5 : decode cX0_init 5 = .ok (.new 7, 3) := by decide +kernel
theorem dX0_init_8 : decode cX0_init 8 = .ok (.dup, 1) := by decide +kernel
theorem dX0_init_9 : decode cX0_init 9 = .ok (.invokespecial 9, 3) := by decide +kernel
theorem dX0_init_12 : decode cX0_init 12 = .ok (.putfield 10, 3) := by decide +kernel
theorem dX0_init_15 : decode cX0_init 15 = .ok (.aload_n 0, 1) := by decide +kernel
theorem dX0_init_16 : decode cX0_init 16 = .ok (.iconst 0, 1) := by decide +kernel
theorem dX0_init_17 : decode cX0_init 17 = .ok (.putfield 16, 3) := by decide +kernel
theorem dX0_init_20 : decode cX0_init 20 = .ok (.aload_n 0, 1) := by decide +kernel
theorem dX0_init_21 : decode cX0_init 21 = .ok (.iload_n 1, 1) := by decide +kernel
theorem dX0_init_22 : decode cX0_init 22 = .ok (.putfield 20, 3) := by decide +kernel
theorem dX0_init_25 : decode cX0_init 25 = .ok (.return_, 1) := by decide +kernel
theorem dX0_keys_0 : decode cX0_keys 0 = .ok (.aload_n 0, 1) := by decide +kernel
theorem dX0_keys_1 : decode cX0_keys 1 = .ok (.getfield 10, 3) := by decide +kernel
theorem dX0_keys_4 : decode cX0_keys 4 = .ok (.areturn, 1) := by decide +kernel
theorem dX0_hitCount_0 : decode cX0_hitCount 0 = .ok (.aload_n 0, 1) := by decide +kernel
theorem dX0_hitCount_1 : decode cX0_hitCount 1 = .ok (.getfield 16, 3) := by decide +kernel
theorem dX0_hitCount_4 : decode cX0_hitCount 4 = .ok (.ireturn, 1) := by decide +kernel
theorem dX0_ask_0 : decode cX0_ask 0 = .ok (.aload_n 0, 1) := by decide +kernel
theorem dX0_ask_1 : decode cX0_ask 1 = .ok (.getfield 10, 3) := by decide +kernel
theorem dX0_ask_4 : decode cX0_ask 4 = .ok (.iload_n 1, 1) := by decide +kernel
theorem dX0_ask_5 : decode cX0_ask 5 = .ok (.invokevirtual 23, 3) := by decide +kernel
theorem dX0_ask_8 : decode cX0_ask 8 = .ok (.istore_n 2, 1) := by decide +kernel
theorem dX0_ask_9 : decode cX0_ask 9 = .ok (.iload_n 2, 1) := by decide +kernel
theorem dX0_ask_10 : decode cX0_ask 10 = .ok (.ifCond .eq 13, 3) := by decide +kernel
theorem dX0_ask_13 : decode cX0_ask 13 = .ok (.aload_n 0, 1) := by decide +kernel
theorem dX0_ask_14 : decode cX0_ask 14 = .ok (.dup, 1) := by decide +kernel
theorem dX0_ask_15 : decode cX0_ask 15 = .ok (.getfield 16, 3) := by decide +kernel
theorem dX0_ask_18 : decode cX0_ask 18 = .ok (.iconst 1, 1) := by decide +kernel
theorem dX0_ask_19 : decode cX0_ask 19 = .ok (.iadd, 1) := by decide +kernel
theorem dX0_ask_20 : decode cX0_ask 20 = .ok (.putfield 16, 3) := by decide +kernel
theorem dX0_ask_23 : decode cX0_ask 23 = .ok (.aload_n 0, 1) := by decide +kernel
theorem dX0_ask_24 : decode cX0_ask 24 = .ok (.getfield 10, 3) := by decide +kernel
theorem dX0_ask_27 : decode cX0_ask 27 = .ok (.aload_n 0, 1) := by decide +kernel
theorem dX0_ask_28 : decode cX0_ask 28 = .ok (.getfield 20, 3) := by decide +kernel
theorem dX0_ask_31 : decode cX0_ask 31 = .ok (.invokevirtual 27, 3) := by decide +kernel
theorem dX0_ask_34 : decode cX0_ask 34 = .ok (.pop, 1) := by decide +kernel
theorem dX0_ask_35 : decode cX0_ask 35 = .ok (.iload_n 2, 1) := by decide +kernel
theorem dX0_ask_36 : decode cX0_ask 36 = .ok (.ireturn, 1) := by decide +kernel
theorem dX0_restart_0 : decode cX0_restart 0 = .ok (.aload_n 0, 1) := by decide +kernel
theorem dX0_restart_1 : decode cX0_restart 1 = .ok (.getfield 10, 3) := by decide +kernel
theorem dX0_restart_4 : decode cX0_restart 4 = .ok (.invokevirtual 31, 3) := by decide +kernel
theorem dX0_restart_7 : decode cX0_restart 7 = .ok (.aload_n 0, 1) := by decide +kernel
theorem dX0_restart_8 : decode cX0_restart 8 = .ok (.iconst 0, 1) := by decide +kernel
theorem dX0_restart_9 : decode cX0_restart 9 = .ok (.putfield 16, 3) := by decide +kernel
theorem dX0_restart_12 : decode cX0_restart 12 = .ok (.return_, 1) := by decide +kernel
theorem dX1_init_0 : decode cX1_init 0 = .ok (.aload_n 0, 1) := by decide +kernel
theorem dX1_init_1 : decode cX1_init 1 = .ok (.invokespecial 1, 3) := by decide +kernel
theorem dX1_init_4 : decode cX1_init 4 = .ok (.aload_n 0, 1) := by decide +kernel
theorem dX1_init_5 : decode cX1_init 5 = .ok (.iconst 0, 1) := by decide +kernel
theorem dX1_init_6 : decode cX1_init 6 = .ok (.putfield 7, 3) := by decide +kernel
theorem dX1_init_9 : decode cX1_init 9 = .ok (.aload_n 0, 1) := by decide +kernel
theorem dX1_init_10 : decode cX1_init 10 = .ok (.iconst 0, 1) := by decide +kernel
theorem dX1_init_11 : decode cX1_init 11 = .ok (.putfield 13, 3) := by decide +kernel
theorem dX1_init_14 : decode cX1_init 14 = .ok (.aload_n 0, 1) := by decide +kernel
theorem dX1_init_15 : decode cX1_init 15 = .ok (.iconst 0, 1) := by decide +kernel
theorem dX1_init_16 : decode cX1_init 16 = .ok (.putfield 17, 3) := by decide +kernel
theorem dX1_init_19 : decode cX1_init 19 = .ok (.return_, 1) := by decide +kernel
theorem dX1_begin_0 : decode cX1_begin 0 = .ok (.aload_n 0, 1) := by decide +kernel
theorem dX1_begin_1 : decode cX1_begin 1 = .ok (.iconst 1, 1) := by decide +kernel
theorem dX1_begin_2 : decode cX1_begin 2 = .ok (.putfield 7, 3) := by decide +kernel
theorem dX1_begin_5 : decode cX1_begin 5 = .ok (.aload_n 0, 1) := by decide +kernel
theorem dX1_begin_6 : decode cX1_begin 6 = .ok (.iconst 0, 1) := by decide +kernel
theorem dX1_begin_7 : decode cX1_begin 7 = .ok (.putfield 13, 3) := by decide +kernel
theorem dX1_begin_10 : decode cX1_begin 10 = .ok (.aload_n 0, 1) := by decide +kernel
theorem dX1_begin_11 : decode cX1_begin 11 = .ok (.iconst 0, 1) := by decide +kernel
theorem dX1_begin_12 : decode cX1_begin 12 = .ok (.putfield 17, 3) := by decide +kernel
theorem dX1_begin_15 : decode cX1_begin 15 = .ok (.return_, 1) := by decide +kernel
theorem dX1_end_0 : decode cX1_end 0 = .ok (.aload_n 0, 1) := by decide +kernel
theorem dX1_end_1 : decode cX1_end 1 = .ok (.iconst 0, 1) := by decide +kernel
theorem dX1_end_2 : decode cX1_end 2 = .ok (.putfield 7, 3) := by decide +kernel
theorem dX1_end_5 : decode cX1_end 5 = .ok (.return_, 1) := by decide +kernel
theorem dX1_isBegun_0 : decode cX1_isBegun 0 = .ok (.aload_n 0, 1) := by decide +kernel
theorem dX1_isBegun_1 : decode cX1_isBegun 1 = .ok (.getfield 7, 3) := by decide +kernel
theorem dX1_isBegun_4 : decode cX1_isBegun 4 = .ok (.ireturn, 1) := by decide +kernel
theorem dX1_isAheadOf_0 : decode cX1_isAheadOf 0 = .ok (.aload_n 0, 1) := by decide +kernel
theorem dX1_isAheadOf_1 : decode cX1_isAheadOf 1 = .ok (.getfield 7, 3) := by decide +kernel
theorem dX1_isAheadOf_4 : decode cX1_isAheadOf 4 = .ok (.ifCond .eq 15, 3) := by decide +kernel
theorem dX1_isAheadOf_7 : decode cX1_isAheadOf 7 = .ok (.aload_n 0, 1) := by decide +kernel
theorem dX1_isAheadOf_8 : decode cX1_isAheadOf 8 = .ok (.getfield 13, 3) := by decide +kernel
theorem dX1_isAheadOf_11 : decode cX1_isAheadOf 11 = .ok (.iload_n 1, 1) := by decide +kernel
theorem dX1_isAheadOf_12 : decode cX1_isAheadOf 12 = .ok (.if_icmp .ge 7, 3) := by decide +kernel
theorem dX1_isAheadOf_15 : decode cX1_isAheadOf 15 = .ok (.iconst 1, 1) := by decide +kernel
theorem dX1_isAheadOf_16 : decode cX1_isAheadOf 16 = .ok (.goto 4, 3) := by decide +kernel
theorem dX1_isAheadOf_19 : decode cX1_isAheadOf 19 = .ok (.iconst 0, 1) := by decide +kernel
theorem dX1_isAheadOf_20 : decode cX1_isAheadOf 20 = .ok (.ireturn, 1) := by decide +kernel
theorem dX1_canTake_0 : decode cX1_canTake 0 = .ok (.aload_n 0, 1) := by decide +kernel
theorem dX1_canTake_1 : decode cX1_canTake 1 = .ok (.getfield 7, 3) := by decide +kernel
theorem dX1_canTake_4 : decode cX1_canTake 4 = .ok (.ifCond .eq 14, 3) := by decide +kernel
theorem dX1_canTake_7 : decode cX1_canTake 7 = .ok (.aload_n 0, 1) := by decide +kernel
theorem dX1_canTake_8 : decode cX1_canTake 8 = .ok (.getfield 17, 3) := by decide +kernel
theorem dX1_canTake_11 : decode cX1_canTake 11 = .ok (.ifCond .eq 7, 3) := by decide +kernel
theorem dX1_canTake_14 : decode cX1_canTake 14 = .ok (.iconst 1, 1) := by decide +kernel
theorem dX1_canTake_15 : decode cX1_canTake 15 = .ok (.goto 4, 3) := by decide +kernel
theorem dX1_canTake_18 : decode cX1_canTake 18 = .ok (.iconst 0, 1) := by decide +kernel
theorem dX1_canTake_19 : decode cX1_canTake 19 = .ok (.ireturn, 1) := by decide +kernel
theorem dX1_advance_0 : decode cX1_advance 0 = .ok (.aload_n 0, 1) := by decide +kernel
theorem dX1_advance_1 : decode cX1_advance 1 = .ok (.getfield 13, 3) := by decide +kernel
theorem dX1_advance_4 : decode cX1_advance 4 = .ok (.istore_n 1, 1) := by decide +kernel
theorem dX1_advance_5 : decode cX1_advance 5 = .ok (.aload_n 0, 1) := by decide +kernel
theorem dX1_advance_6 : decode cX1_advance 6 = .ok (.dup, 1) := by decide +kernel
theorem dX1_advance_7 : decode cX1_advance 7 = .ok (.getfield 13, 3) := by decide +kernel
theorem dX1_advance_10 : decode cX1_advance 10 = .ok (.iconst 1, 1) := by decide +kernel
theorem dX1_advance_11 : decode cX1_advance 11 = .ok (.iadd, 1) := by decide +kernel
theorem dX1_advance_12 : decode cX1_advance 12 = .ok (.putfield 13, 3) := by decide +kernel
theorem dX1_advance_15 : decode cX1_advance 15 = .ok (.aload_n 0, 1) := by decide +kernel
theorem dX1_advance_16 : decode cX1_advance 16 = .ok (.iconst 1, 1) := by decide +kernel
theorem dX1_advance_17 : decode cX1_advance 17 = .ok (.putfield 17, 3) := by decide +kernel
theorem dX1_advance_20 : decode cX1_advance 20 = .ok (.iload_n 1, 1) := by decide +kernel
theorem dX1_advance_21 : decode cX1_advance 21 = .ok (.ireturn, 1) := by decide +kernel
theorem dX1_stepBack_0 : decode cX1_stepBack 0 = .ok (.aload_n 0, 1) := by decide +kernel
theorem dX1_stepBack_1 : decode cX1_stepBack 1 = .ok (.dup, 1) := by decide +kernel
theorem dX1_stepBack_2 : decode cX1_stepBack 2 = .ok (.getfield 13, 3) := by decide +kernel
theorem dX1_stepBack_5 : decode cX1_stepBack 5 = .ok (.iconst 1, 1) := by decide +kernel
theorem dX1_stepBack_6 : decode cX1_stepBack 6 = .ok (.isub, 1) := by decide +kernel
theorem dX1_stepBack_7 : decode cX1_stepBack 7 = .ok (.putfield 13, 3) := by decide +kernel
theorem dX1_stepBack_10 : decode cX1_stepBack 10 = .ok (.aload_n 0, 1) := by decide +kernel
theorem dX1_stepBack_11 : decode cX1_stepBack 11 = .ok (.iconst 0, 1) := by decide +kernel
theorem dX1_stepBack_12 : decode cX1_stepBack 12 = .ok (.putfield 17, 3) := by decide +kernel
theorem dX1_stepBack_15 : decode cX1_stepBack 15 = .ok (.aload_n 0, 1) := by decide +kernel
theorem dX1_stepBack_16 : decode cX1_stepBack 16 = .ok (.getfield 13, 3) := by decide +kernel
theorem dX1_stepBack_19 : decode cX1_stepBack 19 = .ok (.ireturn, 1) := by decide +kernel
theorem dX2_init_0 : decode cX2_init 0 = .ok (.aload_n 0, 1) := by decide +kernel
theorem dX2_init_1 : decode cX2_init 1 = .ok (.invokespecial 3, 3) := by decide +kernel
theorem dX2_init_4 : decode cX2_init 4 = .ok (.aload_n 0, 1) := by decide +kernel
theorem dX2_init_5 : decode cX2_init 5 = .ok (.bipush 64, 2) := by decide +kernel
theorem dX2_init_7 : decode cX2_init 7 = .ok (.newarray .int, 2) := by decide +kernel
theorem dX2_init_9 : decode cX2_init 9 = .ok (.putfield 9, 3) := by decide +kernel
theorem dX2_init_12 : decode cX2_init 12 = .ok (.aload_n 0, 1) := by decide +kernel
theorem dX2_init_13 : decode cX2_init 13 = .ok (.bipush 64, 2) := by decide +kernel
theorem dX2_init_15 : decode cX2_init 15 = .ok (.newarray .int, 2) := by decide +kernel
theorem dX2_init_17 : decode cX2_init 17 = .ok (.putfield 15, 3) := by decide +kernel
theorem dX2_init_20 : decode cX2_init 20 = .ok (.aload_n 0, 1) := by decide +kernel
theorem dX2_init_21 : decode cX2_init 21 = .ok (.bipush 16, 2) := by decide +kernel
theorem dX2_init_23 : decode cX2_init 23 = .ok (.newarray .boolean, 2) := by decide +kernel
theorem dX2_init_25 : decode cX2_init 25 = .ok (.putfield 18, 3) := by decide +kernel
theorem dX2_init_28 : decode cX2_init 28 = .ok (.aload_n 0, 1) := by decide +kernel
theorem dX2_init_29 : decode cX2_init 29 = .ok (.new 22, 3) := by decide +kernel
theorem dX2_init_32 : decode cX2_init 32 = .ok (.dup, 1) := by decide +kernel
theorem dX2_init_33 : decode cX2_init 33 = .ok (.invokespecial 24, 3) := by decide +kernel
theorem dX2_init_36 : decode cX2_init 36 = .ok (.putfield 25, 3) := by decide +kernel
theorem dX2_init_39 : decode cX2_init 39 = .ok (.aload_n 0, 1) := by decide +kernel
theorem dX2_init_40 : decode cX2_init 40 = .ok (.iconst 2, 1) := by decide +kernel
theorem dX2_init_41 : decode cX2_init 41 = .ok (.putfield 29, 3) := by decide +kernel
theorem dX2_init_44 : decode cX2_init 44 = .ok (.aload_n 0, 1) := by decide +kernel
theorem dX2_init_45 : decode cX2_init 45 = .ok (.iconst 0, 1) := by decide +kernel
theorem dX2_init_46 : decode cX2_init 46 = .ok (.putfield 33, 3) := by decide +kernel
theorem dX2_init_49 : decode cX2_init 49 = .ok (.aload_n 0, 1) := by decide +kernel
theorem dX2_init_50 : decode cX2_init 50 = .ok (.iconst 0, 1) := by decide +kernel
theorem dX2_init_51 : decode cX2_init 51 = .ok (.putfield 36, 3) := by decide +kernel
theorem dX2_init_54 : decode cX2_init 54 = .ok (.aload_n 0, 1) := by decide +kernel
theorem dX2_init_55 : decode cX2_init 55 = .ok (.iconst 0, 1) := by decide +kernel
theorem dX2_init_56 : decode cX2_init 56 = .ok (.putfield 39, 3) := by decide +kernel
theorem dX2_init_59 : decode cX2_init 59 = .ok (.iconst 0, 1) := by decide +kernel
theorem dX2_init_60 : decode cX2_init 60 = .ok (.istore_n 1, 1) := by decide +kernel
theorem dX2_init_61 : decode cX2_init 61 = .ok (.iload_n 1, 1) := by decide +kernel
theorem dX2_init_62 : decode cX2_init 62 = .ok (.bipush 64, 2) := by decide +kernel
theorem dX2_init_64 : decode cX2_init 64 = .ok (.if_icmp .ge 16, 3) := by decide +kernel
theorem dX2_init_67 : decode cX2_init 67 = .ok (.aload_n 0, 1) := by decide +kernel
theorem dX2_init_68 : decode cX2_init 68 = .ok (.getfield 9, 3) := by decide +kernel
theorem dX2_init_71 : decode cX2_init 71 = .ok (.iload_n 1, 1) := by decide +kernel
theorem dX2_init_72 : decode cX2_init 72 = .ok (.iload_n 1, 1) := by decide +kernel
theorem dX2_init_73 : decode cX2_init 73 = .ok (.iastore, 1) := by decide +kernel
theorem dX2_init_74 : decode cX2_init 74 = .ok (.iinc 1 1, 3) := by decide +kernel
theorem dX2_init_77 : decode cX2_init 77 = .ok (.goto (-16), 3) := by decide +kernel
theorem dX2_init_80 : decode cX2_init 80 = .ok (.return_, 1) := by decide +kernel
theorem dX2_pages_0 : decode cX2_pages 0 = .ok (.aload_n 0, 1) := by decide +kernel
theorem dX2_pages_1 : decode cX2_pages 1 = .ok (.getfield 25, 3) := by decide +kernel
theorem dX2_pages_4 : decode cX2_pages 4 = .ok (.areturn, 1) := by decide +kernel
theorem dX2_accumulated_0 : decode cX2_accumulated 0 = .ok (.aload_n 0, 1) := by decide +kernel
theorem dX2_accumulated_1 : decode cX2_accumulated 1 = .ok (.getfield 33, 3) := by decide +kernel
theorem dX2_accumulated_4 : decode cX2_accumulated 4 = .ok (.ireturn, 1) := by decide +kernel
theorem dX2_faultCount_0 : decode cX2_faultCount 0 = .ok (.aload_n 0, 1) := by decide +kernel
theorem dX2_faultCount_1 : decode cX2_faultCount 1 = .ok (.getfield 36, 3) := by decide +kernel
theorem dX2_faultCount_4 : decode cX2_faultCount 4 = .ok (.ireturn, 1) := by decide +kernel
theorem dX2_writeCount_0 : decode cX2_writeCount 0 = .ok (.aload_n 0, 1) := by decide +kernel
theorem dX2_writeCount_1 : decode cX2_writeCount 1 = .ok (.getfield 39, 3) := by decide +kernel
theorem dX2_writeCount_4 : decode cX2_writeCount 4 = .ok (.ireturn, 1) := by decide +kernel
theorem dX2_hasChanged_0 : decode cX2_hasChanged 0 = .ok (.iload_n 1, 1) := by decide +kernel
theorem dX2_hasChanged_1 : decode cX2_hasChanged 1 = .ok (.ifCond .lt 22, 3) := by decide +kernel
theorem dX2_hasChanged_4 : decode cX2_hasChanged 4 = .ok (.iload_n 1, 1) := by decide +kernel
theorem dX2_hasChanged_5 : decode cX2_hasChanged 5 = .ok (.bipush 16, 2) := by decide +kernel
theorem dX2_hasChanged_7 : decode cX2_hasChanged 7 = .ok (.if_icmp .ge 16, 3) := by decide +kernel
theorem dX2_hasChanged_10 : decode cX2_hasChanged 10 = .ok (.aload_n 0, 1) := by decide +kernel
theorem dX2_hasChanged_11 : decode cX2_hasChanged 11 = .ok (.getfield 18, 3) := by decide +kernel
theorem dX2_hasChanged_14 : decode cX2_hasChanged 14 = .ok (.iload_n 1, 1) := by decide +kernel
theorem dX2_hasChanged_15 : decode cX2_hasChanged 15 = .ok (.baload, 1) := by decide +kernel
theorem dX2_hasChanged_16 : decode cX2_hasChanged 16 = .ok (.ifCond .eq 7, 3) := by decide +kernel
theorem dX2_hasChanged_19 : decode cX2_hasChanged 19 = .ok (.iconst 1, 1) := by decide +kernel
theorem dX2_hasChanged_20 : decode cX2_hasChanged 20 = .ok (.goto 4, 3) := by decide +kernel
theorem dX2_hasChanged_23 : decode cX2_hasChanged 23 = .ok (.iconst 0, 1) := by decide +kernel
theorem dX2_hasChanged_24 : decode cX2_hasChanged 24 = .ok (.ireturn, 1) := by decide +kernel
theorem dX2_discIn_0 : decode cX2_discIn 0 = .ok (.iload_n 1, 1) := by decide +kernel
theorem dX2_discIn_1 : decode cX2_discIn 1 = .ok (.ifCond .lt 18, 3) := by decide +kernel
theorem dX2_discIn_4 : decode cX2_discIn 4 = .ok (.iload_n 1, 1) := by decide +kernel
theorem dX2_discIn_5 : decode cX2_discIn 5 = .ok (.bipush 64, 2) := by decide +kernel
theorem dX2_discIn_7 : decode cX2_discIn 7 = .ok (.if_icmp .ge 12, 3) := by decide +kernel
theorem dX2_discIn_10 : decode cX2_discIn 10 = .ok (.aload_n 0, 1) := by decide +kernel
theorem dX2_discIn_11 : decode cX2_discIn 11 = .ok (.getfield 9, 3) := by decide +kernel
theorem dX2_discIn_14 : decode cX2_discIn 14 = .ok (.iload_n 1, 1) := by decide +kernel
theorem dX2_discIn_15 : decode cX2_discIn 15 = .ok (.iaload, 1) := by decide +kernel
theorem dX2_discIn_16 : decode cX2_discIn 16 = .ok (.goto 4, 3) := by decide +kernel
theorem dX2_discIn_19 : decode cX2_discIn 19 = .ok (.iconst 0, 1) := by decide +kernel
theorem dX2_discIn_20 : decode cX2_discIn 20 = .ok (.ireturn, 1) := by decide +kernel
theorem dX2_wordIn_0 : decode cX2_wordIn 0 = .ok (.iload_n 1, 1) := by decide +kernel
theorem dX2_wordIn_1 : decode cX2_wordIn 1 = .ok (.ifCond .lt 9, 3) := by decide +kernel
theorem dX2_wordIn_4 : decode cX2_wordIn 4 = .ok (.iload_n 1, 1) := by decide +kernel
theorem dX2_wordIn_5 : decode cX2_wordIn 5 = .ok (.bipush 64, 2) := by decide +kernel
theorem dX2_wordIn_7 : decode cX2_wordIn 7 = .ok (.if_icmp .lt 5, 3) := by decide +kernel
theorem dX2_wordIn_10 : decode cX2_wordIn 10 = .ok (.iconst 0, 1) := by decide +kernel
theorem dX2_wordIn_11 : decode cX2_wordIn 11 = .ok (.ireturn, 1) := by decide +kernel
theorem dX2_wordIn_12 : decode cX2_wordIn 12 = .ok (.aload_n 0, 1) := by decide +kernel
theorem dX2_wordIn_13 : decode cX2_wordIn 13 = .ok (.getfield 25, 3) := by decide +kernel
theorem dX2_wordIn_16 : decode cX2_wordIn 16 = .ok (.iload_n 1, 1) := by decide +kernel
theorem dX2_wordIn_17 : decode cX2_wordIn 17 = .ok (.iconst 4, 1) := by decide +kernel
theorem dX2_wordIn_18 : decode cX2_wordIn 18 = .ok (.idiv, 1) := by decide +kernel
theorem dX2_wordIn_19 : decode cX2_wordIn 19 = .ok (.invokevirtual 42, 3) := by decide +kernel
theorem dX2_wordIn_22 : decode cX2_wordIn 22 = .ok (.ifCond .eq 12, 3) := by decide +kernel
theorem dX2_wordIn_25 : decode cX2_wordIn 25 = .ok (.aload_n 0, 1) := by decide +kernel
theorem dX2_wordIn_26 : decode cX2_wordIn 26 = .ok (.getfield 15, 3) := by decide +kernel
theorem dX2_wordIn_29 : decode cX2_wordIn 29 = .ok (.iload_n 1, 1) := by decide +kernel
theorem dX2_wordIn_30 : decode cX2_wordIn 30 = .ok (.iaload, 1) := by decide +kernel
theorem dX2_wordIn_31 : decode cX2_wordIn 31 = .ok (.goto 9, 3) := by decide +kernel
theorem dX2_wordIn_34 : decode cX2_wordIn 34 = .ok (.aload_n 0, 1) := by decide +kernel
theorem dX2_wordIn_35 : decode cX2_wordIn 35 = .ok (.getfield 9, 3) := by decide +kernel
theorem dX2_wordIn_38 : decode cX2_wordIn 38 = .ok (.iload_n 1, 1) := by decide +kernel
theorem dX2_wordIn_39 : decode cX2_wordIn 39 = .ok (.iaload, 1) := by decide +kernel
theorem dX2_wordIn_40 : decode cX2_wordIn 40 = .ok (.ireturn, 1) := by decide +kernel
theorem dX2_perform_0 : decode cX2_perform 0 = .ok (.iload_n 1, 1) := by decide +kernel
theorem dX2_perform_1 : decode cX2_perform 1 = .ok (.bipush 99, 2) := by decide +kernel
theorem dX2_perform_3 : decode cX2_perform 3 = .ok (.if_icmp .ne 9, 3) := by decide +kernel
theorem dX2_perform_6 : decode cX2_perform 6 = .ok (.aload_n 0, 1) := by decide +kernel
theorem dX2_perform_7 : decode cX2_perform 7 = .ok (.iload_n 2, 1) := by decide +kernel
theorem dX2_perform_8 : decode cX2_perform 8 = .ok (.putfield 33, 3) := by decide +kernel
theorem dX2_perform_11 : decode cX2_perform 11 = .ok (.return_, 1) := by decide +kernel
theorem dX2_perform_12 : decode cX2_perform 12 = .ok (.aload_n 0, 1) := by decide +kernel
theorem dX2_perform_13 : decode cX2_perform 13 = .ok (.iload_n 2, 1) := by decide +kernel
theorem dX2_perform_14 : decode cX2_perform 14 = .ok (.iconst 4, 1) := by decide +kernel
theorem dX2_perform_15 : decode cX2_perform 15 = .ok (.idiv, 1) := by decide +kernel
theorem dX2_perform_16 : decode cX2_perform 16 = .ok (.invokevirtual 46, 3) := by decide +kernel
theorem dX2_perform_19 : decode cX2_perform 19 = .ok (.iload_n 1, 1) := by decide +kernel
theorem dX2_perform_20 : decode cX2_perform 20 = .ok (.bipush 108, 2) := by decide +kernel
theorem dX2_perform_22 : decode cX2_perform 22 = .ok (.if_icmp .ne 15, 3) := by decide +kernel
theorem dX2_perform_25 : decode cX2_perform 25 = .ok (.aload_n 0, 1) := by decide +kernel
theorem dX2_perform_26 : decode cX2_perform 26 = .ok (.aload_n 0, 1) := by decide +kernel
theorem dX2_perform_27 : decode cX2_perform 27 = .ok (.iload_n 2, 1) := by decide +kernel
theorem dX2_perform_28 : decode cX2_perform 28 = .ok (.invokevirtual 50, 3) := by decide +kernel
theorem dX2_perform_31 : decode cX2_perform 31 = .ok (.putfield 33, 3) := by decide +kernel
theorem dX2_perform_34 : decode cX2_perform 34 = .ok (.goto 35, 3) := by decide +kernel
theorem dX2_perform_37 : decode cX2_perform 37 = .ok (.iload_n 1, 1) := by decide +kernel
theorem dX2_perform_38 : decode cX2_perform 38 = .ok (.bipush 97, 2) := by decide +kernel
theorem dX2_perform_40 : decode cX2_perform 40 = .ok (.if_icmp .ne 20, 3) := by decide +kernel
theorem dX2_perform_43 : decode cX2_perform 43 = .ok (.aload_n 0, 1) := by decide +kernel
theorem dX2_perform_44 : decode cX2_perform 44 = .ok (.dup, 1) := by decide +kernel
theorem dX2_perform_45 : decode cX2_perform 45 = .ok (.getfield 33, 3) := by decide +kernel
theorem dX2_perform_48 : decode cX2_perform 48 = .ok (.aload_n 0, 1) := by decide +kernel
theorem dX2_perform_49 : decode cX2_perform 49 = .ok (.iload_n 2, 1) := by decide +kernel
theorem dX2_perform_50 : decode cX2_perform 50 = .ok (.invokevirtual 50, 3) := by decide +kernel
theorem dX2_perform_53 : decode cX2_perform 53 = .ok (.iadd, 1) := by decide +kernel
theorem dX2_perform_54 : decode cX2_perform 54 = .ok (.putfield 33, 3) := by decide +kernel
theorem dX2_perform_57 : decode cX2_perform 57 = .ok (.goto 12, 3) := by decide +kernel
theorem dX2_perform_60 : decode cX2_perform 60 = .ok (.aload_n 0, 1) := by decide +kernel
theorem dX2_perform_61 : decode cX2_perform 61 = .ok (.iload_n 2, 1) := by decide +kernel
theorem dX2_perform_62 : decode cX2_perform 62 = .ok (.aload_n 0, 1) := by decide +kernel
theorem dX2_perform_63 : decode cX2_perform 63 = .ok (.getfield 33, 3) := by decide +kernel
theorem dX2_perform_66 : decode cX2_perform 66 = .ok (.invokevirtual 54, 3) := by decide +kernel
theorem dX2_perform_69 : decode cX2_perform 69 = .ok (.return_, 1) := by decide +kernel
theorem dX2_changeFrames_0 : decode cX2_changeFrames 0 = .ok (.aload_n 0, 1) := by decide +kernel
theorem dX2_changeFrames_1 : decode cX2_changeFrames 1 = .ok (.invokevirtual 58, 3) := by decide +kernel
theorem dX2_changeFrames_4 : decode cX2_changeFrames 4 = .ok (.istore_n 2, 1) := by decide +kernel
theorem dX2_changeFrames_5 : decode cX2_changeFrames 5 = .ok (.aload_n 0, 1) := by decide +kernel
theorem dX2_changeFrames_6 : decode cX2_changeFrames 6 = .ok (.getfield 25, 3) := by decide +kernel
theorem dX2_changeFrames_9 : decode cX2_changeFrames 9 = .ok (.invokevirtual 62, 3) := by decide +kernel
theorem dX2_changeFrames_12 : decode cX2_changeFrames 12 = .ok (.aload_n 0, 1) := by decide +kernel
theorem dX2_changeFrames_13 : decode cX2_changeFrames 13 = .ok (.iload_n 1, 1) := by decide +kernel
theorem dX2_changeFrames_14 : decode cX2_changeFrames 14 = .ok (.putfield 29, 3) := by decide +kernel
theorem dX2_changeFrames_17 : decode cX2_changeFrames 17 = .ok (.iload_n 2, 1) := by decide +kernel
theorem dX2_changeFrames_18 : decode cX2_changeFrames 18 = .ok (.ireturn, 1) := by decide +kernel
theorem dX2_writeAll_0 : decode cX2_writeAll 0 = .ok (.aload_n 0, 1) := by decide +kernel
theorem dX2_writeAll_1 : decode cX2_writeAll 1 = .ok (.getfield 39, 3) := by decide +kernel
theorem dX2_writeAll_4 : decode cX2_writeAll 4 = .ok (.istore_n 1, 1) := by decide +kernel
theorem dX2_writeAll_5 : decode cX2_writeAll 5 = .ok (.iconst 0, 1) := by decide +kernel
theorem dX2_writeAll_6 : decode cX2_writeAll 6 = .ok (.istore_n 2, 1) := by decide +kernel
theorem dX2_writeAll_7 : decode cX2_writeAll 7 = .ok (.iload_n 2, 1) := by decide +kernel
theorem dX2_writeAll_8 : decode cX2_writeAll 8 = .ok (.bipush 16, 2) := by decide +kernel
theorem dX2_writeAll_10 : decode cX2_writeAll 10 = .ok (.if_icmp .ge 14, 3) := by decide +kernel
theorem dX2_writeAll_13 : decode cX2_writeAll 13 = .ok (.aload_n 0, 1) := by decide +kernel
theorem dX2_writeAll_14 : decode cX2_writeAll 14 = .ok (.iload_n 2, 1) := by decide +kernel
theorem dX2_writeAll_15 : decode cX2_writeAll 15 = .ok (.invokevirtual 65, 3) := by decide +kernel
theorem dX2_writeAll_18 : decode cX2_writeAll 18 = .ok (.iinc 2 1, 3) := by decide +kernel
theorem dX2_writeAll_21 : decode cX2_writeAll 21 = .ok (.goto (-14), 3) := by decide +kernel
theorem dX2_writeAll_24 : decode cX2_writeAll 24 = .ok (.aload_n 0, 1) := by decide +kernel
theorem dX2_writeAll_25 : decode cX2_writeAll 25 = .ok (.getfield 39, 3) := by decide +kernel
theorem dX2_writeAll_28 : decode cX2_writeAll 28 = .ok (.iload_n 1, 1) := by decide +kernel
theorem dX2_writeAll_29 : decode cX2_writeAll 29 = .ok (.isub, 1) := by decide +kernel
theorem dX2_writeAll_30 : decode cX2_writeAll 30 = .ok (.ireturn, 1) := by decide +kernel
theorem dX2_access_0 : decode cX2_access 0 = .ok (.aload_n 0, 1) := by decide +kernel
theorem dX2_access_1 : decode cX2_access 1 = .ok (.getfield 25, 3) := by decide +kernel
theorem dX2_access_4 : decode cX2_access 4 = .ok (.iload_n 1, 1) := by decide +kernel
theorem dX2_access_5 : decode cX2_access 5 = .ok (.invokevirtual 68, 3) := by decide +kernel
theorem dX2_access_8 : decode cX2_access 8 = .ok (.ifCond .ne 25, 3) := by decide +kernel
theorem dX2_access_11 : decode cX2_access 11 = .ok (.aload_n 0, 1) := by decide +kernel
theorem dX2_access_12 : decode cX2_access 12 = .ok (.dup, 1) := by decide +kernel
theorem dX2_access_13 : decode cX2_access 13 = .ok (.getfield 36, 3) := by decide +kernel
theorem dX2_access_16 : decode cX2_access 16 = .ok (.iconst 1, 1) := by decide +kernel
theorem dX2_access_17 : decode cX2_access 17 = .ok (.iadd, 1) := by decide +kernel
theorem dX2_access_18 : decode cX2_access 18 = .ok (.putfield 36, 3) := by decide +kernel
theorem dX2_access_21 : decode cX2_access 21 = .ok (.iload_n 1, 1) := by decide +kernel
theorem dX2_access_22 : decode cX2_access 22 = .ok (.aload_n 0, 1) := by decide +kernel
theorem dX2_access_23 : decode cX2_access 23 = .ok (.getfield 9, 3) := by decide +kernel
theorem dX2_access_26 : decode cX2_access 26 = .ok (.aload_n 0, 1) := by decide +kernel
theorem dX2_access_27 : decode cX2_access 27 = .ok (.getfield 15, 3) := by decide +kernel
theorem dX2_access_30 : decode cX2_access 30 = .ok (.invokestatic 71, 3) := by decide +kernel
theorem dX2_access_33 : decode cX2_access 33 = .ok (.aload_n 0, 1) := by decide +kernel
theorem dX2_access_34 : decode cX2_access 34 = .ok (.aload_n 0, 1) := by decide +kernel
theorem dX2_access_35 : decode cX2_access 35 = .ok (.getfield 25, 3) := by decide +kernel
theorem dX2_access_38 : decode cX2_access 38 = .ok (.aload_n 0, 1) := by decide +kernel
theorem dX2_access_39 : decode cX2_access 39 = .ok (.getfield 29, 3) := by decide +kernel
theorem dX2_access_42 : decode cX2_access 42 = .ok (.invokevirtual 75, 3) := by decide +kernel
theorem dX2_access_45 : decode cX2_access 45 = .ok (.invokevirtual 65, 3) := by decide +kernel
theorem dX2_access_48 : decode cX2_access 48 = .ok (.return_, 1) := by decide +kernel
theorem dX2_storeWord_0 : decode cX2_storeWord 0 = .ok (.iload_n 1, 1) := by decide +kernel
theorem dX2_storeWord_1 : decode cX2_storeWord 1 = .ok (.ifCond .lt 25, 3) := by decide +kernel
theorem dX2_storeWord_4 : decode cX2_storeWord 4 = .ok (.iload_n 1, 1) := by decide +kernel
theorem dX2_storeWord_5 : decode cX2_storeWord 5 = .ok (.bipush 64, 2) := by decide +kernel
theorem dX2_storeWord_7 : decode cX2_storeWord 7 = .ok (.if_icmp .ge 19, 3) := by decide +kernel
theorem dX2_storeWord_10 : decode cX2_storeWord 10 = .ok (.aload_n 0, 1) := by decide +kernel
theorem dX2_storeWord_11 : decode cX2_storeWord 11 = .ok (.getfield 15, 3) := by decide +kernel
theorem dX2_storeWord_14 : decode cX2_storeWord 14 = .ok (.iload_n 1, 1) := by decide +kernel
theorem dX2_storeWord_15 : decode cX2_storeWord 15 = .ok (.iload_n 2, 1) := by decide +kernel
theorem dX2_storeWord_16 : decode cX2_storeWord 16 = .ok (.iastore, 1) := by decide +kernel
theorem dX2_storeWord_17 : decode cX2_storeWord 17 = .ok (.aload_n 0, 1) := by decide +kernel
theorem dX2_storeWord_18 : decode cX2_storeWord 18 = .ok (.getfield 18, 3) := by decide +kernel
theorem dX2_storeWord_21 : decode cX2_storeWord 21 = .ok (.iload_n 1, 1) := by decide +kernel
theorem dX2_storeWord_22 : decode cX2_storeWord 22 = .ok (.iconst 4, 1) := by decide +kernel
theorem dX2_storeWord_23 : decode cX2_storeWord 23 = .ok (.idiv, 1) := by decide +kernel
theorem dX2_storeWord_24 : decode cX2_storeWord 24 = .ok (.iconst 1, 1) := by decide +kernel
theorem dX2_storeWord_25 : decode cX2_storeWord 25 = .ok (.bastore, 1) := by decide +kernel
theorem dX2_storeWord_26 : decode cX2_storeWord 26 = .ok (.return_, 1) := by decide +kernel
theorem dX2_writeIfDirty_0 : decode cX2_writeIfDirty 0 = .ok (.aload_n 0, 1) := by decide +kernel
theorem dX2_writeIfDirty_1 : decode cX2_writeIfDirty 1 = .ok (.iload_n 1, 1) := by decide +kernel
theorem dX2_writeIfDirty_2 : decode cX2_writeIfDirty 2 = .ok (.invokevirtual 78, 3) := by decide +kernel
theorem dX2_writeIfDirty_5 : decode cX2_writeIfDirty 5 = .ok (.ifCond .eq 32, 3) := by decide +kernel
theorem dX2_writeIfDirty_8 : decode cX2_writeIfDirty 8 = .ok (.iload_n 1, 1) := by decide +kernel
theorem dX2_writeIfDirty_9 : decode cX2_writeIfDirty 9 = .ok (.aload_n 0, 1) := by decide +kernel
theorem dX2_writeIfDirty_10 : decode cX2_writeIfDirty 10 = .ok (.getfield 15, 3) := by decide +kernel
theorem dX2_writeIfDirty_13 : decode cX2_writeIfDirty 13 = .ok (.aload_n 0, 1) := by decide +kernel
theorem dX2_writeIfDirty_14 : decode cX2_writeIfDirty 14 = .ok (.getfield 9, 3) := by decide +kernel
theorem dX2_writeIfDirty_17 : decode cX2_writeIfDirty 17 = .ok (.invokestatic 71, 3) := by decide +kernel
theorem dX2_writeIfDirty_20 : decode cX2_writeIfDirty 20 = .ok (.aload_n 0, 1) := by decide +kernel
theorem dX2_writeIfDirty_21 : decode cX2_writeIfDirty 21 = .ok (.getfield 18, 3) := by decide +kernel
theorem dX2_writeIfDirty_24 : decode cX2_writeIfDirty 24 = .ok (.iload_n 1, 1) := by decide +kernel
theorem dX2_writeIfDirty_25 : decode cX2_writeIfDirty 25 = .ok (.iconst 0, 1) := by decide +kernel
theorem dX2_writeIfDirty_26 : decode cX2_writeIfDirty 26 = .ok (.bastore, 1) := by decide +kernel
theorem dX2_writeIfDirty_27 : decode cX2_writeIfDirty 27 = .ok (.aload_n 0, 1) := by decide +kernel
theorem dX2_writeIfDirty_28 : decode cX2_writeIfDirty 28 = .ok (.dup, 1) := by decide +kernel
theorem dX2_writeIfDirty_29 : decode cX2_writeIfDirty 29 = .ok (.getfield 39, 3) := by decide +kernel
theorem dX2_writeIfDirty_32 : decode cX2_writeIfDirty 32 = .ok (.iconst 1, 1) := by decide +kernel
theorem dX2_writeIfDirty_33 : decode cX2_writeIfDirty 33 = .ok (.iadd, 1) := by decide +kernel
theorem dX2_writeIfDirty_34 : decode cX2_writeIfDirty 34 = .ok (.putfield 39, 3) := by decide +kernel
theorem dX2_writeIfDirty_37 : decode cX2_writeIfDirty 37 = .ok (.return_, 1) := by decide +kernel
theorem dX2_copyPage_0 : decode cX2_copyPage 0 = .ok (.iload_n 0, 1) := by decide +kernel
theorem dX2_copyPage_1 : decode cX2_copyPage 1 = .ok (.ifCond .lt 9, 3) := by decide +kernel
theorem dX2_copyPage_4 : decode cX2_copyPage 4 = .ok (.iload_n 0, 1) := by decide +kernel
theorem dX2_copyPage_5 : decode cX2_copyPage 5 = .ok (.bipush 16, 2) := by decide +kernel
theorem dX2_copyPage_7 : decode cX2_copyPage 7 = .ok (.if_icmp .lt 4, 3) := by decide +kernel
theorem dX2_copyPage_10 : decode cX2_copyPage 10 = .ok (.return_, 1) := by decide +kernel
theorem dX2_copyPage_11 : decode cX2_copyPage 11 = .ok (.iconst 4, 1) := by decide +kernel
theorem dX2_copyPage_12 : decode cX2_copyPage 12 = .ok (.iload_n 0, 1) := by decide +kernel
theorem dX2_copyPage_13 : decode cX2_copyPage 13 = .ok (.imul, 1) := by decide +kernel
theorem dX2_copyPage_14 : decode cX2_copyPage 14 = .ok (.istore_n 3, 1) := by decide +kernel
theorem dX2_copyPage_15 : decode cX2_copyPage 15 = .ok (.iload_n 3, 1) := by decide +kernel
theorem dX2_copyPage_16 : decode cX2_copyPage 16 = .ok (.iconst 4, 1) := by decide +kernel
theorem dX2_copyPage_17 : decode cX2_copyPage 17 = .ok (.iload_n 0, 1) := by decide +kernel
theorem dX2_copyPage_18 : decode cX2_copyPage 18 = .ok (.iconst 1, 1) := by decide +kernel
theorem dX2_copyPage_19 : decode cX2_copyPage 19 = .ok (.iadd, 1) := by decide +kernel
theorem dX2_copyPage_20 : decode cX2_copyPage 20 = .ok (.imul, 1) := by decide +kernel
theorem dX2_copyPage_21 : decode cX2_copyPage 21 = .ok (.if_icmp .ge 15, 3) := by decide +kernel
theorem dX2_copyPage_24 : decode cX2_copyPage 24 = .ok (.aload_n 2, 1) := by decide +kernel
theorem dX2_copyPage_25 : decode cX2_copyPage 25 = .ok (.iload_n 3, 1) := by decide +kernel
theorem dX2_copyPage_26 : decode cX2_copyPage 26 = .ok (.aload_n 1, 1) := by decide +kernel
theorem dX2_copyPage_27 : decode cX2_copyPage 27 = .ok (.iload_n 3, 1) := by decide +kernel
theorem dX2_copyPage_28 : decode cX2_copyPage 28 = .ok (.iaload, 1) := by decide +kernel
theorem dX2_copyPage_29 : decode cX2_copyPage 29 = .ok (.iastore, 1) := by decide +kernel
theorem dX2_copyPage_30 : decode cX2_copyPage 30 = .ok (.iinc 3 1, 3) := by decide +kernel
theorem dX2_copyPage_33 : decode cX2_copyPage 33 = .ok (.goto (-18), 3) := by decide +kernel
theorem dX2_copyPage_36 : decode cX2_copyPage 36 = .ok (.return_, 1) := by decide +kernel
theorem dX3_init_0 : decode cX3_init 0 = .ok (.aload_n 0, 1) := by decide +kernel
theorem dX3_init_1 : decode cX3_init 1 = .ok (.invokespecial 3, 3) := by decide +kernel
theorem dX3_init_4 : decode cX3_init 4 = .ok (.aload_n 0, 1) := by decide +kernel
theorem dX3_init_5 : decode cX3_init 5 = .ok (.sipush 200, 3) := by decide +kernel
theorem dX3_init_8 : decode cX3_init 8 = .ok (.newarray .int, 2) := by decide +kernel
theorem dX3_init_10 : decode cX3_init 10 = .ok (.putfield 9, 3) := by decide +kernel
theorem dX3_init_13 : decode cX3_init 13 = .ok (.aload_n 0, 1) := by decide +kernel
theorem dX3_init_14 : decode cX3_init 14 = .ok (.sipush 200, 3) := by decide +kernel
theorem dX3_init_17 : decode cX3_init 17 = .ok (.newarray .int, 2) := by decide +kernel
theorem dX3_init_19 : decode cX3_init 19 = .ok (.putfield 15, 3) := by decide +kernel
theorem dX3_init_22 : decode cX3_init 22 = .ok (.aload_n 0, 1) := by decide +kernel
theorem dX3_init_23 : decode cX3_init 23 = .ok (.iconst 0, 1) := by decide +kernel
theorem dX3_init_24 : decode cX3_init 24 = .ok (.putfield 18, 3) := by decide +kernel
theorem dX3_init_27 : decode cX3_init 27 = .ok (.aload_n 0, 1) := by decide +kernel
theorem dX3_init_28 : decode cX3_init 28 = .ok (.iconst 4, 1) := by decide +kernel
theorem dX3_init_29 : decode cX3_init 29 = .ok (.newarray .int, 2) := by decide +kernel
theorem dX3_init_31 : decode cX3_init 31 = .ok (.putfield 22, 3) := by decide +kernel
theorem dX3_init_34 : decode cX3_init 34 = .ok (.aload_n 0, 1) := by decide +kernel
theorem dX3_init_35 : decode cX3_init 35 = .ok (.iconst 4, 1) := by decide +kernel
theorem dX3_init_36 : decode cX3_init 36 = .ok (.newarray .int, 2) := by decide +kernel
theorem dX3_init_38 : decode cX3_init 38 = .ok (.putfield 25, 3) := by decide +kernel
theorem dX3_init_41 : decode cX3_init 41 = .ok (.aload_n 0, 1) := by decide +kernel
theorem dX3_init_42 : decode cX3_init 42 = .ok (.iconst 0, 1) := by decide +kernel
theorem dX3_init_43 : decode cX3_init 43 = .ok (.putfield 28, 3) := by decide +kernel
theorem dX3_init_46 : decode cX3_init 46 = .ok (.return_, 1) := by decide +kernel
theorem dX3_restart_0 : decode cX3_restart 0 = .ok (.aload_n 0, 1) := by decide +kernel
theorem dX3_restart_1 : decode cX3_restart 1 = .ok (.iconst 0, 1) := by decide +kernel
theorem dX3_restart_2 : decode cX3_restart 2 = .ok (.putfield 18, 3) := by decide +kernel
theorem dX3_restart_5 : decode cX3_restart 5 = .ok (.aload_n 0, 1) := by decide +kernel
theorem dX3_restart_6 : decode cX3_restart 6 = .ok (.iconst 0, 1) := by decide +kernel
theorem dX3_restart_7 : decode cX3_restart 7 = .ok (.putfield 28, 3) := by decide +kernel
theorem dX3_restart_10 : decode cX3_restart 10 = .ok (.return_, 1) := by decide +kernel
theorem dX3_length_0 : decode cX3_length 0 = .ok (.aload_n 0, 1) := by decide +kernel
theorem dX3_length_1 : decode cX3_length 1 = .ok (.getfield 18, 3) := by decide +kernel
theorem dX3_length_4 : decode cX3_length 4 = .ok (.ireturn, 1) := by decide +kernel
theorem dX3_letterIn_0 : decode cX3_letterIn 0 = .ok (.iload_n 1, 1) := by decide +kernel
theorem dX3_letterIn_1 : decode cX3_letterIn 1 = .ok (.ifCond .lt 20, 3) := by decide +kernel
theorem dX3_letterIn_4 : decode cX3_letterIn 4 = .ok (.iload_n 1, 1) := by decide +kernel
theorem dX3_letterIn_5 : decode cX3_letterIn 5 = .ok (.aload_n 0, 1) := by decide +kernel
theorem dX3_letterIn_6 : decode cX3_letterIn 6 = .ok (.getfield 18, 3) := by decide +kernel
theorem dX3_letterIn_9 : decode cX3_letterIn 9 = .ok (.if_icmp .ge 12, 3) := by decide +kernel
theorem dX3_letterIn_12 : decode cX3_letterIn 12 = .ok (.aload_n 0, 1) := by decide +kernel
theorem dX3_letterIn_13 : decode cX3_letterIn 13 = .ok (.getfield 9, 3) := by decide +kernel
theorem dX3_letterIn_16 : decode cX3_letterIn 16 = .ok (.iload_n 1, 1) := by decide +kernel
theorem dX3_letterIn_17 : decode cX3_letterIn 17 = .ok (.iaload, 1) := by decide +kernel
theorem dX3_letterIn_18 : decode cX3_letterIn 18 = .ok (.goto 4, 3) := by decide +kernel
theorem dX3_letterIn_21 : decode cX3_letterIn 21 = .ok (.iconst (-1), 1) := by decide +kernel
theorem dX3_letterIn_22 : decode cX3_letterIn 22 = .ok (.ireturn, 1) := by decide +kernel
theorem dX3_numberIn_0 : decode cX3_numberIn 0 = .ok (.iload_n 1, 1) := by decide +kernel
theorem dX3_numberIn_1 : decode cX3_numberIn 1 = .ok (.ifCond .lt 20, 3) := by decide +kernel
theorem dX3_numberIn_4 : decode cX3_numberIn 4 = .ok (.iload_n 1, 1) := by decide +kernel
theorem dX3_numberIn_5 : decode cX3_numberIn 5 = .ok (.aload_n 0, 1) := by decide +kernel
theorem dX3_numberIn_6 : decode cX3_numberIn 6 = .ok (.getfield 18, 3) := by decide +kernel
theorem dX3_numberIn_9 : decode cX3_numberIn 9 = .ok (.if_icmp .ge 12, 3) := by decide +kernel
theorem dX3_numberIn_12 : decode cX3_numberIn 12 = .ok (.aload_n 0, 1) := by decide +kernel
theorem dX3_numberIn_13 : decode cX3_numberIn 13 = .ok (.getfield 15, 3) := by decide +kernel
theorem dX3_numberIn_16 : decode cX3_numberIn 16 = .ok (.iload_n 1, 1) := by decide +kernel
theorem dX3_numberIn_17 : decode cX3_numberIn 17 = .ok (.iaload, 1) := by decide +kernel
theorem dX3_numberIn_18 : decode cX3_numberIn 18 = .ok (.goto 4, 3) := by decide +kernel
theorem dX3_numberIn_21 : decode cX3_numberIn 21 = .ok (.iconst (-1), 1) := by decide +kernel
theorem dX3_numberIn_22 : decode cX3_numberIn 22 = .ok (.ireturn, 1) := by decide +kernel
theorem dX3_isInLoop_0 : decode cX3_isInLoop 0 = .ok (.aload_n 0, 1) := by decide +kernel
theorem dX3_isInLoop_1 : decode cX3_isInLoop 1 = .ok (.getfield 28, 3) := by decide +kernel
theorem dX3_isInLoop_4 : decode cX3_isInLoop 4 = .ok (.ifCond .le 7, 3) := by decide +kernel
theorem dX3_isInLoop_7 : decode cX3_isInLoop 7 = .ok (.iconst 1, 1) := by decide +kernel
theorem dX3_isInLoop_8 : decode cX3_isInLoop 8 = .ok (.goto 4, 3) := by decide +kernel
theorem dX3_isInLoop_11 : decode cX3_isInLoop 11 = .ok (.iconst 0, 1) := by decide +kernel
theorem dX3_isInLoop_12 : decode cX3_isInLoop 12 = .ok (.ireturn, 1) := by decide +kernel
theorem dX3_canOpenLoop_0 : decode cX3_canOpenLoop 0 = .ok (.aload_n 0, 1) := by decide +kernel
theorem dX3_canOpenLoop_1 : decode cX3_canOpenLoop 1 = .ok (.getfield 28, 3) := by decide +kernel
theorem dX3_canOpenLoop_4 : decode cX3_canOpenLoop 4 = .ok (.iconst 4, 1) := by decide +kernel
theorem dX3_canOpenLoop_5 : decode cX3_canOpenLoop 5 = .ok (.if_icmp .ge 7, 3) := by decide +kernel
theorem dX3_canOpenLoop_8 : decode cX3_canOpenLoop 8 = .ok (.iconst 1, 1) := by decide +kernel
theorem dX3_canOpenLoop_9 : decode cX3_canOpenLoop 9 = .ok (.goto 4, 3) := by decide +kernel
theorem dX3_canOpenLoop_12 : decode cX3_canOpenLoop 12 = .ok (.iconst 0, 1) := by decide +kernel
theorem dX3_canOpenLoop_13 : decode cX3_canOpenLoop 13 = .ok (.ireturn, 1) := by decide +kernel
theorem dX3_addStep_0 : decode cX3_addStep 0 = .ok (.aload_n 0, 1) := by decide +kernel
theorem dX3_addStep_1 : decode cX3_addStep 1 = .ok (.getfield 18, 3) := by decide +kernel
theorem dX3_addStep_4 : decode cX3_addStep 4 = .ok (.sipush 200, 3) := by decide +kernel
theorem dX3_addStep_7 : decode cX3_addStep 7 = .ok (.if_icmp .ge 33, 3) := by decide +kernel
theorem dX3_addStep_10 : decode cX3_addStep 10 = .ok (.aload_n 0, 1) := by decide +kernel
theorem dX3_addStep_11 : decode cX3_addStep 11 = .ok (.getfield 9, 3) := by decide +kernel
theorem dX3_addStep_14 : decode cX3_addStep 14 = .ok (.aload_n 0, 1) := by decide +kernel
theorem dX3_addStep_15 : decode cX3_addStep 15 = .ok (.getfield 18, 3) := by decide +kernel
theorem dX3_addStep_18 : decode cX3_addStep 18 = .ok (.iload_n 1, 1) := by decide +kernel
theorem dX3_addStep_19 : decode cX3_addStep 19 = .ok (.iastore, 1) := by decide +kernel
theorem dX3_addStep_20 : decode cX3_addStep 20 = .ok (.aload_n 0, 1) := by decide +kernel
theorem dX3_addStep_21 : decode cX3_addStep 21 = .ok (.getfield 15, 3) := by decide +kernel
theorem dX3_addStep_24 : decode cX3_addStep 24 = .ok (.aload_n 0, 1) := by decide +kernel
theorem dX3_addStep_25 : decode cX3_addStep 25 = .ok (.getfield 18, 3) := by decide +kernel
theorem dX3_addStep_28 : decode cX3_addStep 28 = .ok (.iload_n 2, 1) := by decide +kernel
theorem dX3_addStep_29 : decode cX3_addStep 29 = .ok (.iastore, 1) := by decide +kernel
theorem dX3_addStep_30 : decode cX3_addStep 30 = .ok (.aload_n 0, 1) := by decide +kernel
theorem dX3_addStep_31 : decode cX3_addStep 31 = .ok (.dup, 1) := by decide +kernel
theorem dX3_addStep_32 : decode cX3_addStep 32 = .ok (.getfield 18, 3) := by decide +kernel
theorem dX3_addStep_35 : decode cX3_addStep 35 = .ok (.iconst 1, 1) := by decide +kernel
theorem dX3_addStep_36 : decode cX3_addStep 36 = .ok (.iadd, 1) := by decide +kernel
theorem dX3_addStep_37 : decode cX3_addStep 37 = .ok (.putfield 18, 3) := by decide +kernel
theorem dX3_addStep_40 : decode cX3_addStep 40 = .ok (.return_, 1) := by decide +kernel
theorem dX3_openLoop_0 : decode cX3_openLoop 0 = .ok (.aload_n 0, 1) := by decide +kernel
theorem dX3_openLoop_1 : decode cX3_openLoop 1 = .ok (.getfield 28, 3) := by decide +kernel
theorem dX3_openLoop_4 : decode cX3_openLoop 4 = .ok (.iconst 4, 1) := by decide +kernel
theorem dX3_openLoop_5 : decode cX3_openLoop 5 = .ok (.if_icmp .ge 36, 3) := by decide +kernel
theorem dX3_openLoop_8 : decode cX3_openLoop 8 = .ok (.aload_n 0, 1) := by decide +kernel
theorem dX3_openLoop_9 : decode cX3_openLoop 9 = .ok (.getfield 22, 3) := by decide +kernel
theorem dX3_openLoop_12 : decode cX3_openLoop 12 = .ok (.aload_n 0, 1) := by decide +kernel
theorem dX3_openLoop_13 : decode cX3_openLoop 13 = .ok (.getfield 28, 3) := by decide +kernel
theorem dX3_openLoop_16 : decode cX3_openLoop 16 = .ok (.aload_n 0, 1) := by decide +kernel
theorem dX3_openLoop_17 : decode cX3_openLoop 17 = .ok (.getfield 18, 3) := by decide +kernel
theorem dX3_openLoop_20 : decode cX3_openLoop 20 = .ok (.iastore, 1) := by decide +kernel
theorem dX3_openLoop_21 : decode cX3_openLoop 21 = .ok (.aload_n 0, 1) := by decide +kernel
theorem dX3_openLoop_22 : decode cX3_openLoop 22 = .ok (.getfield 25, 3) := by decide +kernel
theorem dX3_openLoop_25 : decode cX3_openLoop 25 = .ok (.aload_n 0, 1) := by decide +kernel
theorem dX3_openLoop_26 : decode cX3_openLoop 26 = .ok (.getfield 28, 3) := by decide +kernel
theorem dX3_openLoop_29 : decode cX3_openLoop 29 = .ok (.iload_n 1, 1) := by decide +kernel
theorem dX3_openLoop_30 : decode cX3_openLoop 30 = .ok (.iastore, 1) := by decide +kernel
theorem dX3_openLoop_31 : decode cX3_openLoop 31 = .ok (.aload_n 0, 1) := by decide +kernel
theorem dX3_openLoop_32 : decode cX3_openLoop 32 = .ok (.dup, 1) := by decide +kernel
theorem dX3_openLoop_33 : decode cX3_openLoop 33 = .ok (.getfield 28, 3) := by decide +kernel
theorem dX3_openLoop_36 : decode cX3_openLoop 36 = .ok (.iconst 1, 1) := by decide +kernel
theorem dX3_openLoop_37 : decode cX3_openLoop 37 = .ok (.iadd, 1) := by decide +kernel
theorem dX3_openLoop_38 : decode cX3_openLoop 38 = .ok (.putfield 28, 3) := by decide +kernel
theorem dX3_openLoop_41 : decode cX3_openLoop 41 = .ok (.return_, 1) := by decide +kernel
theorem dX3_closeLoop_0 : decode cX3_closeLoop 0 = .ok (.aload_n 0, 1) := by decide +kernel
theorem dX3_closeLoop_1 : decode cX3_closeLoop 1 = .ok (.getfield 28, 3) := by decide +kernel
theorem dX3_closeLoop_4 : decode cX3_closeLoop 4 = .ok (.ifCond .gt 4, 3) := by decide +kernel
theorem dX3_closeLoop_7 : decode cX3_closeLoop 7 = .ok (.return_, 1) := by decide +kernel
theorem dX3_closeLoop_8 : decode cX3_closeLoop 8 = .ok (.aload_n 0, 1) := by decide +kernel
theorem dX3_closeLoop_9 : decode cX3_closeLoop 9 = .ok (.dup, 1) := by decide +kernel
theorem dX3_closeLoop_10 : decode cX3_closeLoop 10 = .ok (.getfield 28, 3) := by decide +kernel
theorem dX3_closeLoop_13 : decode cX3_closeLoop 13 = .ok (.iconst 1, 1) := by decide +kernel
theorem dX3_closeLoop_14 : decode cX3_closeLoop 14 = .ok (.isub, 1) := by decide +kernel
theorem dX3_closeLoop_15 : decode cX3_closeLoop 15 = .ok (.putfield 28, 3) := by decide +kernel
theorem dX3_closeLoop_18 : decode cX3_closeLoop 18 = .ok (.aload_n 0, 1) := by decide +kernel
theorem dX3_closeLoop_19 : decode cX3_closeLoop 19 = .ok (.getfield 22, 3) := by decide +kernel
theorem dX3_closeLoop_22 : decode cX3_closeLoop 22 = .ok (.aload_n 0, 1) := by decide +kernel
theorem dX3_closeLoop_23 : decode cX3_closeLoop 23 = .ok (.getfield 28, 3) := by decide +kernel
theorem dX3_closeLoop_26 : decode cX3_closeLoop 26 = .ok (.iaload, 1) := by decide +kernel
theorem dX3_closeLoop_27 : decode cX3_closeLoop 27 = .ok (.istore_n 1, 1) := by decide +kernel
theorem dX3_closeLoop_28 : decode cX3_closeLoop 28 = .ok (.aload_n 0, 1) := by decide +kernel
theorem dX3_closeLoop_29 : decode cX3_closeLoop 29 = .ok (.getfield 18, 3) := by decide +kernel
theorem dX3_closeLoop_32 : decode cX3_closeLoop 32 = .ok (.istore_n 2, 1) := by decide +kernel
theorem dX3_closeLoop_33 : decode cX3_closeLoop 33 = .ok (.iconst 1, 1) := by decide +kernel
theorem dX3_closeLoop_34 : decode cX3_closeLoop 34 = .ok (.istore_n 3, 1) := by decide +kernel
theorem dX3_closeLoop_35 : decode cX3_closeLoop 35 = .ok (.iload_n 3, 1) := by decide +kernel
theorem dX3_closeLoop_36 : decode cX3_closeLoop 36 = .ok (.aload_n 0, 1) := by decide +kernel
theorem dX3_closeLoop_37 : decode cX3_closeLoop 37 = .ok (.getfield 25, 3) := by decide +kernel
theorem dX3_closeLoop_40 : decode cX3_closeLoop 40 = .ok (.aload_n 0, 1) := by decide +kernel
theorem dX3_closeLoop_41 : decode cX3_closeLoop 41 = .ok (.getfield 28, 3) := by decide +kernel
theorem dX3_closeLoop_44 : decode cX3_closeLoop 44 = .ok (.iaload, 1) := by decide +kernel
theorem dX3_closeLoop_45 : decode cX3_closeLoop 45 = .ok (.if_icmp .ge 40, 3) := by decide +kernel
theorem dX3_closeLoop_48 : decode cX3_closeLoop 48 = .ok (.iload_n 1, 1) := by decide +kernel
theorem dX3_closeLoop_49 : decode cX3_closeLoop 49 = .ok (.istore 4, 2) := by decide +kernel
theorem dX3_closeLoop_51 : decode cX3_closeLoop 51 = .ok (.iload 4, 2) := by decide +kernel
theorem dX3_closeLoop_53 : decode cX3_closeLoop 53 = .ok (.iload_n 2, 1) := by decide +kernel
theorem dX3_closeLoop_54 : decode cX3_closeLoop 54 = .ok (.if_icmp .ge 25, 3) := by decide +kernel
theorem dX3_closeLoop_57 : decode cX3_closeLoop 57 = .ok (.aload_n 0, 1) := by decide +kernel
theorem dX3_closeLoop_58 : decode cX3_closeLoop 58 = .ok (.aload_n 0, 1) := by decide +kernel
theorem dX3_closeLoop_59 : decode cX3_closeLoop 59 = .ok (.iload 4, 2) := by decide +kernel
theorem dX3_closeLoop_61 : decode cX3_closeLoop 61 = .ok (.invokevirtual 31, 3) := by decide +kernel
theorem dX3_closeLoop_64 : decode cX3_closeLoop 64 = .ok (.aload_n 0, 1) := by decide +kernel
theorem dX3_closeLoop_65 : decode cX3_closeLoop 65 = .ok (.iload 4, 2) := by decide +kernel
theorem dX3_closeLoop_67 : decode cX3_closeLoop 67 = .ok (.invokevirtual 35, 3) := by decide +kernel
theorem dX3_closeLoop_70 : decode cX3_closeLoop 70 = .ok (.invokevirtual 38, 3) := by decide +kernel
theorem dX3_closeLoop_73 : decode cX3_closeLoop 73 = .ok (.iinc 4 1, 3) := by decide +kernel
theorem dX3_closeLoop_76 : decode cX3_closeLoop 76 = .ok (.goto (-25), 3) := by decide +kernel
theorem dX3_closeLoop_79 : decode cX3_closeLoop 79 = .ok (.iinc 3 1, 3) := by decide +kernel
theorem dX3_closeLoop_82 : decode cX3_closeLoop 82 = .ok (.goto (-47), 3) := by decide +kernel
theorem dX3_closeLoop_85 : decode cX3_closeLoop 85 = .ok (.return_, 1) := by decide +kernel
theorem dX4_init_0 : decode cX4_init 0 = .ok (.aload_n 0, 1) := by decide +kernel
theorem dX4_init_1 : decode cX4_init 1 = .ok (.invokespecial 3, 3) := by decide +kernel
theorem dX4_init_4 : decode cX4_init 4 = .ok (.aload_n 0, 1) := by decide +kernel
theorem dX4_init_5 : decode cX4_init 5 = .ok (.new 9, 3) := by decide +kernel
theorem dX4_init_8 : decode cX4_init 8 = .ok (.dup, 1) := by decide +kernel
theorem dX4_init_9 : decode cX4_init 9 = .ok (.invokespecial 11, 3) := by decide +kernel
theorem dX4_init_12 : decode cX4_init 12 = .ok (.putfield 12, 3) := by decide +kernel
theorem dX4_init_15 : decode cX4_init 15 = .ok (.aload_n 0, 1) := by decide +kernel
theorem dX4_init_16 : decode cX4_init 16 = .ok (.new 18, 3) := by decide +kernel
theorem dX4_init_19 : decode cX4_init 19 = .ok (.dup, 1) := by decide +kernel
theorem dX4_init_20 : decode cX4_init 20 = .ok (.invokespecial 20, 3) := by decide +kernel
theorem dX4_init_23 : decode cX4_init 23 = .ok (.putfield 21, 3) := by decide +kernel
theorem dX4_init_26 : decode cX4_init 26 = .ok (.aload_n 0, 1) := by decide +kernel
theorem dX4_init_27 : decode cX4_init 27 = .ok (.iconst 0, 1) := by decide +kernel
theorem dX4_init_28 : decode cX4_init 28 = .ok (.putfield 25, 3) := by decide +kernel
theorem dX4_init_31 : decode cX4_init 31 = .ok (.return_, 1) := by decide +kernel
theorem dX4_tape_0 : decode cX4_tape 0 = .ok (.aload_n 0, 1) := by decide +kernel
theorem dX4_tape_1 : decode cX4_tape 1 = .ok (.getfield 12, 3) := by decide +kernel
theorem dX4_tape_4 : decode cX4_tape 4 = .ok (.areturn, 1) := by decide +kernel
theorem dX4_program_0 : decode cX4_program 0 = .ok (.aload_n 0, 1) := by decide +kernel
theorem dX4_program_1 : decode cX4_program 1 = .ok (.getfield 21, 3) := by decide +kernel
theorem dX4_program_4 : decode cX4_program 4 = .ok (.areturn, 1) := by decide +kernel
theorem dX4_read_0 : decode cX4_read 0 = .ok (.aload_n 0, 1) := by decide +kernel
theorem dX4_read_1 : decode cX4_read 1 = .ok (.getfield 21, 3) := by decide +kernel
theorem dX4_read_4 : decode cX4_read 4 = .ok (.invokevirtual 29, 3) := by decide +kernel
theorem dX4_read_7 : decode cX4_read 7 = .ok (.aload_n 0, 1) := by decide +kernel
theorem dX4_read_8 : decode cX4_read 8 = .ok (.iconst 0, 1) := by decide +kernel
theorem dX4_read_9 : decode cX4_read 9 = .ok (.putfield 25, 3) := by decide +kernel
theorem dX4_read_12 : decode cX4_read 12 = .ok (.aload_n 0, 1) := by decide +kernel
theorem dX4_read_13 : decode cX4_read 13 = .ok (.iconst 0, 1) := by decide +kernel
theorem dX4_read_14 : decode cX4_read 14 = .ok (.invokevirtual 32, 3) := by decide +kernel
theorem dX4_read_17 : decode cX4_read 17 = .ok (.iconst 0, 1) := by decide +kernel
theorem dX4_read_18 : decode cX4_read 18 = .ok (.istore_n 1, 1) := by decide +kernel
theorem dX4_read_19 : decode cX4_read 19 = .ok (.iload_n 1, 1) := by decide +kernel
theorem dX4_read_20 : decode cX4_read 20 = .ok (.sipush 300, 3) := by decide +kernel
theorem dX4_read_23 : decode cX4_read 23 = .ok (.if_icmp .ge 35, 3) := by decide +kernel
theorem dX4_read_26 : decode cX4_read 26 = .ok (.aload_n 0, 1) := by decide +kernel
theorem dX4_read_27 : decode cX4_read 27 = .ok (.getfield 25, 3) := by decide +kernel
theorem dX4_read_30 : decode cX4_read 30 = .ok (.aload_n 0, 1) := by decide +kernel
theorem dX4_read_31 : decode cX4_read 31 = .ok (.getfield 12, 3) := by decide +kernel
theorem dX4_read_34 : decode cX4_read 34 = .ok (.invokevirtual 36, 3) := by decide +kernel
theorem dX4_read_37 : decode cX4_read 37 = .ok (.if_icmp .ge 21, 3) := by decide +kernel
theorem dX4_read_40 : decode cX4_read 40 = .ok (.aload_n 0, 1) := by decide +kernel
theorem dX4_read_41 : decode cX4_read 41 = .ok (.invokevirtual 40, 3) := by decide +kernel
theorem dX4_read_44 : decode cX4_read 44 = .ok (.ifCond .ne 8, 3) := by decide +kernel
theorem dX4_read_47 : decode cX4_read 47 = .ok (.aload_n 0, 1) := by decide +kernel
theorem dX4_read_48 : decode cX4_read 48 = .ok (.getfield 25, 3) := by decide +kernel
theorem dX4_read_51 : decode cX4_read 51 = .ok (.ireturn, 1) := by decide +kernel
theorem dX4_read_52 : decode cX4_read 52 = .ok (.iinc 1 1, 3) := by decide +kernel
theorem dX4_read_55 : decode cX4_read 55 = .ok (.goto (-36), 3) := by decide +kernel
theorem dX4_read_58 : decode cX4_read 58 = .ok (.aload_n 0, 1) := by decide +kernel
theorem dX4_read_59 : decode cX4_read 59 = .ok (.getfield 21, 3) := by decide +kernel
theorem dX4_read_62 : decode cX4_read 62 = .ok (.invokevirtual 44, 3) := by decide +kernel
theorem dX4_read_65 : decode cX4_read 65 = .ok (.ifCond .eq 10, 3) := by decide +kernel
theorem dX4_read_68 : decode cX4_read 68 = .ok (.aload_n 0, 1) := by decide +kernel
theorem dX4_read_69 : decode cX4_read 69 = .ok (.getfield 25, 3) := by decide +kernel
theorem dX4_read_72 : decode cX4_read 72 = .ok (.goto 4, 3) := by decide +kernel
theorem dX4_read_75 : decode cX4_read 75 = .ok (.iconst (-1), 1) := by decide +kernel
theorem dX4_read_76 : decode cX4_read 76 = .ok (.ireturn, 1) := by decide +kernel
theorem dX4_readPart_0 : decode cX4_readPart 0 = .ok (.aload_n 0, 1) := by decide +kernel
theorem dX4_readPart_1 : decode cX4_readPart 1 = .ok (.getfield 12, 3) := by decide +kernel
theorem dX4_readPart_4 : decode cX4_readPart 4 = .ok (.aload_n 0, 1) := by decide +kernel
theorem dX4_readPart_5 : decode cX4_readPart 5 = .ok (.getfield 25, 3) := by decide +kernel
theorem dX4_readPart_8 : decode cX4_readPart 8 = .ok (.invokevirtual 47, 3) := by decide +kernel
theorem dX4_readPart_11 : decode cX4_readPart 11 = .ok (.lookupswitch 82 #[(97, 57), (99, 64), (108, 57), (115, 57), (120, 72), (125, 77)], 57) := by decide +kernel
theorem dX4_readPart_68 : decode cX4_readPart 68 = .ok (.aload_n 0, 1) := by decide +kernel
theorem dX4_readPart_69 : decode cX4_readPart 69 = .ok (.bipush 63, 2) := by decide +kernel
theorem dX4_readPart_71 : decode cX4_readPart 71 = .ok (.invokevirtual 51, 3) := by decide +kernel
theorem dX4_readPart_74 : decode cX4_readPart 74 = .ok (.ireturn, 1) := by decide +kernel
theorem dX4_readPart_75 : decode cX4_readPart 75 = .ok (.aload_n 0, 1) := by decide +kernel
theorem dX4_readPart_76 : decode cX4_readPart 76 = .ok (.sipush 999, 3) := by decide +kernel
theorem dX4_readPart_79 : decode cX4_readPart 79 = .ok (.invokevirtual 51, 3) := by decide +kernel
theorem dX4_readPart_82 : decode cX4_readPart 82 = .ok (.ireturn, 1) := by decide +kernel
theorem dX4_readPart_83 : decode cX4_readPart 83 = .ok (.aload_n 0, 1) := by decide +kernel
theorem dX4_readPart_84 : decode cX4_readPart 84 = .ok (.invokevirtual 55, 3) := by decide +kernel
theorem dX4_readPart_87 : decode cX4_readPart 87 = .ok (.ireturn, 1) := by decide +kernel
theorem dX4_readPart_88 : decode cX4_readPart 88 = .ok (.aload_n 0, 1) := by decide +kernel
theorem dX4_readPart_89 : decode cX4_readPart 89 = .ok (.invokevirtual 58, 3) := by decide +kernel
theorem dX4_readPart_92 : decode cX4_readPart 92 = .ok (.ireturn, 1) := by decide +kernel
theorem dX4_readPart_93 : decode cX4_readPart 93 = .ok (.iconst 0, 1) := by decide +kernel
theorem dX4_readPart_94 : decode cX4_readPart 94 = .ok (.ireturn, 1) := by decide +kernel
theorem dX4_readStep_0 : decode cX4_readStep 0 = .ok (.aload_n 0, 1) := by decide +kernel
theorem dX4_readStep_1 : decode cX4_readStep 1 = .ok (.getfield 12, 3) := by decide +kernel
theorem dX4_readStep_4 : decode cX4_readStep 4 = .ok (.aload_n 0, 1) := by decide +kernel
theorem dX4_readStep_5 : decode cX4_readStep 5 = .ok (.getfield 25, 3) := by decide +kernel
theorem dX4_readStep_8 : decode cX4_readStep 8 = .ok (.invokevirtual 47, 3) := by decide +kernel
theorem dX4_readStep_11 : decode cX4_readStep 11 = .ok (.istore_n 2, 1) := by decide +kernel
theorem dX4_readStep_12 : decode cX4_readStep 12 = .ok (.aload_n 0, 1) := by decide +kernel
theorem dX4_readStep_13 : decode cX4_readStep 13 = .ok (.iconst 1, 1) := by decide +kernel
theorem dX4_readStep_14 : decode cX4_readStep 14 = .ok (.invokevirtual 32, 3) := by decide +kernel
theorem dX4_readStep_17 : decode cX4_readStep 17 = .ok (.aload_n 0, 1) := by decide +kernel
theorem dX4_readStep_18 : decode cX4_readStep 18 = .ok (.iconst 0, 1) := by decide +kernel
theorem dX4_readStep_19 : decode cX4_readStep 19 = .ok (.iload_n 1, 1) := by decide +kernel
theorem dX4_readStep_20 : decode cX4_readStep 20 = .ok (.invokevirtual 61, 3) := by decide +kernel
theorem dX4_readStep_23 : decode cX4_readStep 23 = .ok (.istore_n 3, 1) := by decide +kernel
theorem dX4_readStep_24 : decode cX4_readStep 24 = .ok (.iload_n 3, 1) := by decide +kernel
theorem dX4_readStep_25 : decode cX4_readStep 25 = .ok (.iconst (-1), 1) := by decide +kernel
theorem dX4_readStep_26 : decode cX4_readStep 26 = .ok (.if_icmp .eq 12, 3) := by decide +kernel
theorem dX4_readStep_29 : decode cX4_readStep 29 = .ok (.aload_n 0, 1) := by decide +kernel
theorem dX4_readStep_30 : decode cX4_readStep 30 = .ok (.bipush 59, 2) := by decide +kernel
theorem dX4_readStep_32 : decode cX4_readStep 32 = .ok (.invokevirtual 65, 3) := by decide +kernel
theorem dX4_readStep_35 : decode cX4_readStep 35 = .ok (.ifCond .ne 5, 3) := by decide +kernel
theorem dX4_readStep_38 : decode cX4_readStep 38 = .ok (.iconst 0, 1) := by decide +kernel
theorem dX4_readStep_39 : decode cX4_readStep 39 = .ok (.ireturn, 1) := by decide +kernel
theorem dX4_readStep_40 : decode cX4_readStep 40 = .ok (.aload_n 0, 1) := by decide +kernel
theorem dX4_readStep_41 : decode cX4_readStep 41 = .ok (.getfield 21, 3) := by decide +kernel
theorem dX4_readStep_44 : decode cX4_readStep 44 = .ok (.iload_n 2, 1) := by decide +kernel
theorem dX4_readStep_45 : decode cX4_readStep 45 = .ok (.iload_n 3, 1) := by decide +kernel
theorem dX4_readStep_46 : decode cX4_readStep 46 = .ok (.invokevirtual 68, 3) := by decide +kernel
theorem dX4_readStep_49 : decode cX4_readStep 49 = .ok (.iconst 1, 1) := by decide +kernel
theorem dX4_readStep_50 : decode cX4_readStep 50 = .ok (.ireturn, 1) := by decide +kernel
theorem dX4_readLoopStart_0 : decode cX4_readLoopStart 0 = .ok (.aload_n 0, 1) := by decide +kernel
theorem dX4_readLoopStart_1 : decode cX4_readLoopStart 1 = .ok (.iconst 1, 1) := by decide +kernel
theorem dX4_readLoopStart_2 : decode cX4_readLoopStart 2 = .ok (.invokevirtual 32, 3) := by decide +kernel
theorem dX4_readLoopStart_5 : decode cX4_readLoopStart 5 = .ok (.aload_n 0, 1) := by decide +kernel
theorem dX4_readLoopStart_6 : decode cX4_readLoopStart 6 = .ok (.iconst 1, 1) := by decide +kernel
theorem dX4_readLoopStart_7 : decode cX4_readLoopStart 7 = .ok (.bipush 9, 2) := by decide +kernel
theorem dX4_readLoopStart_9 : decode cX4_readLoopStart 9 = .ok (.invokevirtual 61, 3) := by decide +kernel
theorem dX4_readLoopStart_12 : decode cX4_readLoopStart 12 = .ok (.istore_n 1, 1) := by decide +kernel
theorem dX4_readLoopStart_13 : decode cX4_readLoopStart 13 = .ok (.iload_n 1, 1) := by decide +kernel
theorem dX4_readLoopStart_14 : decode cX4_readLoopStart 14 = .ok (.iconst (-1), 1) := by decide +kernel
theorem dX4_readLoopStart_15 : decode cX4_readLoopStart 15 = .ok (.if_icmp .eq 22, 3) := by decide +kernel
theorem dX4_readLoopStart_18 : decode cX4_readLoopStart 18 = .ok (.aload_n 0, 1) := by decide +kernel
theorem dX4_readLoopStart_19 : decode cX4_readLoopStart 19 = .ok (.getfield 21, 3) := by decide +kernel
theorem dX4_readLoopStart_22 : decode cX4_readLoopStart 22 = .ok (.invokevirtual 72, 3) := by decide +kernel
theorem dX4_readLoopStart_25 : decode cX4_readLoopStart 25 = .ok (.ifCond .eq 12, 3) := by decide +kernel
theorem dX4_readLoopStart_28 : decode cX4_readLoopStart 28 = .ok (.aload_n 0, 1) := by decide +kernel
theorem dX4_readLoopStart_29 : decode cX4_readLoopStart 29 = .ok (.bipush 123, 2) := by decide +kernel
theorem dX4_readLoopStart_31 : decode cX4_readLoopStart 31 = .ok (.invokevirtual 65, 3) := by decide +kernel
theorem dX4_readLoopStart_34 : decode cX4_readLoopStart 34 = .ok (.ifCond .ne 5, 3) := by decide +kernel
theorem dX4_readLoopStart_37 : decode cX4_readLoopStart 37 = .ok (.iconst 0, 1) := by decide +kernel
theorem dX4_readLoopStart_38 : decode cX4_readLoopStart 38 = .ok (.ireturn, 1) := by decide +kernel
theorem dX4_readLoopStart_39 : decode cX4_readLoopStart 39 = .ok (.aload_n 0, 1) := by decide +kernel
theorem dX4_readLoopStart_40 : decode cX4_readLoopStart 40 = .ok (.getfield 21, 3) := by decide +kernel
theorem dX4_readLoopStart_43 : decode cX4_readLoopStart 43 = .ok (.iload_n 1, 1) := by decide +kernel
theorem dX4_readLoopStart_44 : decode cX4_readLoopStart 44 = .ok (.invokevirtual 75, 3) := by decide +kernel
theorem dX4_readLoopStart_47 : decode cX4_readLoopStart 47 = .ok (.iconst 1, 1) := by decide +kernel
theorem dX4_readLoopStart_48 : decode cX4_readLoopStart 48 = .ok (.ireturn, 1) := by decide +kernel
theorem dX4_readLoopEnd_0 : decode cX4_readLoopEnd 0 = .ok (.aload_n 0, 1) := by decide +kernel
theorem dX4_readLoopEnd_1 : decode cX4_readLoopEnd 1 = .ok (.getfield 21, 3) := by decide +kernel
theorem dX4_readLoopEnd_4 : decode cX4_readLoopEnd 4 = .ok (.invokevirtual 44, 3) := by decide +kernel
theorem dX4_readLoopEnd_7 : decode cX4_readLoopEnd 7 = .ok (.ifCond .ne 5, 3) := by decide +kernel
theorem dX4_readLoopEnd_10 : decode cX4_readLoopEnd 10 = .ok (.iconst 0, 1) := by decide +kernel
theorem dX4_readLoopEnd_11 : decode cX4_readLoopEnd 11 = .ok (.ireturn, 1) := by decide +kernel
theorem dX4_readLoopEnd_12 : decode cX4_readLoopEnd 12 = .ok (.aload_n 0, 1) := by decide +kernel
theorem dX4_readLoopEnd_13 : decode cX4_readLoopEnd 13 = .ok (.getfield 21, 3) := by decide +kernel
theorem dX4_readLoopEnd_16 : decode cX4_readLoopEnd 16 = .ok (.invokevirtual 78, 3) := by decide +kernel
theorem dX4_readLoopEnd_19 : decode cX4_readLoopEnd 19 = .ok (.aload_n 0, 1) := by decide +kernel
theorem dX4_readLoopEnd_20 : decode cX4_readLoopEnd 20 = .ok (.iconst 1, 1) := by decide +kernel
theorem dX4_readLoopEnd_21 : decode cX4_readLoopEnd 21 = .ok (.invokevirtual 32, 3) := by decide +kernel
theorem dX4_readLoopEnd_24 : decode cX4_readLoopEnd 24 = .ok (.iconst 1, 1) := by decide +kernel
theorem dX4_readLoopEnd_25 : decode cX4_readLoopEnd 25 = .ok (.ireturn, 1) := by decide +kernel
theorem dX4_readSign_0 : decode cX4_readSign 0 = .ok (.aload_n 0, 1) := by decide +kernel
theorem dX4_readSign_1 : decode cX4_readSign 1 = .ok (.getfield 12, 3) := by decide +kernel
theorem dX4_readSign_4 : decode cX4_readSign 4 = .ok (.aload_n 0, 1) := by decide +kernel
theorem dX4_readSign_5 : decode cX4_readSign 5 = .ok (.getfield 25, 3) := by decide +kernel
theorem dX4_readSign_8 : decode cX4_readSign 8 = .ok (.invokevirtual 47, 3) := by decide +kernel
theorem dX4_readSign_11 : decode cX4_readSign 11 = .ok (.iload_n 1, 1) := by decide +kernel
theorem dX4_readSign_12 : decode cX4_readSign 12 = .ok (.if_icmp .eq 5, 3) := by decide +kernel
theorem dX4_readSign_15 : decode cX4_readSign 15 = .ok (.iconst 0, 1) := by decide +kernel
theorem dX4_readSign_16 : decode cX4_readSign 16 = .ok (.ireturn, 1) := by decide +kernel
theorem dX4_readSign_17 : decode cX4_readSign 17 = .ok (.aload_n 0, 1) := by decide +kernel
theorem dX4_readSign_18 : decode cX4_readSign 18 = .ok (.iconst 1, 1) := by decide +kernel
theorem dX4_readSign_19 : decode cX4_readSign 19 = .ok (.invokevirtual 32, 3) := by decide +kernel
theorem dX4_readSign_22 : decode cX4_readSign 22 = .ok (.iconst 1, 1) := by decide +kernel
theorem dX4_readSign_23 : decode cX4_readSign 23 = .ok (.ireturn, 1) := by decide +kernel
theorem dX4_readNumber_0 : decode cX4_readNumber 0 = .ok (.aload_n 0, 1) := by decide +kernel
theorem dX4_readNumber_1 : decode cX4_readNumber 1 = .ok (.invokevirtual 81, 3) := by decide +kernel
theorem dX4_readNumber_4 : decode cX4_readNumber 4 = .ok (.istore_n 3, 1) := by decide +kernel
theorem dX4_readNumber_5 : decode cX4_readNumber 5 = .ok (.iload_n 3, 1) := by decide +kernel
theorem dX4_readNumber_6 : decode cX4_readNumber 6 = .ok (.iconst 1, 1) := by decide +kernel
theorem dX4_readNumber_7 : decode cX4_readNumber 7 = .ok (.if_icmp .lt 8, 3) := by decide +kernel
theorem dX4_readNumber_10 : decode cX4_readNumber 10 = .ok (.iload_n 3, 1) := by decide +kernel
theorem dX4_readNumber_11 : decode cX4_readNumber 11 = .ok (.iconst 3, 1) := by decide +kernel
theorem dX4_readNumber_12 : decode cX4_readNumber 12 = .ok (.if_icmp .le 5, 3) := by decide +kernel
theorem dX4_readNumber_15 : decode cX4_readNumber 15 = .ok (.iconst (-1), 1) := by decide +kernel
theorem dX4_readNumber_16 : decode cX4_readNumber 16 = .ok (.ireturn, 1) := by decide +kernel
theorem dX4_readNumber_17 : decode cX4_readNumber 17 = .ok (.iconst 0, 1) := by decide +kernel
theorem dX4_readNumber_18 : decode cX4_readNumber 18 = .ok (.istore 4, 2) := by decide +kernel
theorem dX4_readNumber_20 : decode cX4_readNumber 20 = .ok (.iconst 0, 1) := by decide +kernel
theorem dX4_readNumber_21 : decode cX4_readNumber 21 = .ok (.istore 5, 2) := by decide +kernel
theorem dX4_readNumber_23 : decode cX4_readNumber 23 = .ok (.iload 5, 2) := by decide +kernel
theorem dX4_readNumber_25 : decode cX4_readNumber 25 = .ok (.iload_n 3, 1) := by decide +kernel
theorem dX4_readNumber_26 : decode cX4_readNumber 26 = .ok (.if_icmp .ge 34, 3) := by decide +kernel
theorem dX4_readNumber_29 : decode cX4_readNumber 29 = .ok (.bipush 10, 2) := by decide +kernel
theorem dX4_readNumber_31 : decode cX4_readNumber 31 = .ok (.iload 4, 2) := by decide +kernel
theorem dX4_readNumber_33 : decode cX4_readNumber 33 = .ok (.imul, 1) := by decide +kernel
theorem dX4_readNumber_34 : decode cX4_readNumber 34 = .ok (.aload_n 0, 1) := by decide +kernel
theorem dX4_readNumber_35 : decode cX4_readNumber 35 = .ok (.getfield 12, 3) := by decide +kernel
theorem dX4_readNumber_38 : decode cX4_readNumber 38 = .ok (.aload_n 0, 1) := by decide +kernel
theorem dX4_readNumber_39 : decode cX4_readNumber 39 = .ok (.getfield 25, 3) := by decide +kernel
theorem dX4_readNumber_42 : decode cX4_readNumber 42 = .ok (.iload 5, 2) := by decide +kernel
theorem dX4_readNumber_44 : decode cX4_readNumber 44 = .ok (.iadd, 1) := by decide +kernel
theorem dX4_readNumber_45 : decode cX4_readNumber 45 = .ok (.invokevirtual 47, 3) := by decide +kernel
theorem dX4_readNumber_48 : decode cX4_readNumber 48 = .ok (.iadd, 1) := by decide +kernel
theorem dX4_readNumber_49 : decode cX4_readNumber 49 = .ok (.bipush 48, 2) := by decide +kernel
theorem dX4_readNumber_51 : decode cX4_readNumber 51 = .ok (.isub, 1) := by decide +kernel
theorem dX4_readNumber_52 : decode cX4_readNumber 52 = .ok (.istore 4, 2) := by decide +kernel
theorem dX4_readNumber_54 : decode cX4_readNumber 54 = .ok (.iinc 5 1, 3) := by decide +kernel
theorem dX4_readNumber_57 : decode cX4_readNumber 57 = .ok (.goto (-34), 3) := by decide +kernel
theorem dX4_readNumber_60 : decode cX4_readNumber 60 = .ok (.iload 4, 2) := by decide +kernel
theorem dX4_readNumber_62 : decode cX4_readNumber 62 = .ok (.iload_n 1, 1) := by decide +kernel
theorem dX4_readNumber_63 : decode cX4_readNumber 63 = .ok (.if_icmp .lt 9, 3) := by decide +kernel
theorem dX4_readNumber_66 : decode cX4_readNumber 66 = .ok (.iload 4, 2) := by decide +kernel
theorem dX4_readNumber_68 : decode cX4_readNumber 68 = .ok (.iload_n 2, 1) := by decide +kernel
theorem dX4_readNumber_69 : decode cX4_readNumber 69 = .ok (.if_icmp .le 5, 3) := by decide +kernel
theorem dX4_readNumber_72 : decode cX4_readNumber 72 = .ok (.iconst (-1), 1) := by decide +kernel
theorem dX4_readNumber_73 : decode cX4_readNumber 73 = .ok (.ireturn, 1) := by decide +kernel
theorem dX4_readNumber_74 : decode cX4_readNumber 74 = .ok (.aload_n 0, 1) := by decide +kernel
theorem dX4_readNumber_75 : decode cX4_readNumber 75 = .ok (.iload_n 3, 1) := by decide +kernel
theorem dX4_readNumber_76 : decode cX4_readNumber 76 = .ok (.invokevirtual 32, 3) := by decide +kernel
theorem dX4_readNumber_79 : decode cX4_readNumber 79 = .ok (.iload 4, 2) := by decide +kernel
theorem dX4_readNumber_81 : decode cX4_readNumber 81 = .ok (.ireturn, 1) := by decide +kernel
theorem dX4_countDigits_0 : decode cX4_countDigits 0 = .ok (.iconst 0, 1) := by decide +kernel
theorem dX4_countDigits_1 : decode cX4_countDigits 1 = .ok (.istore_n 1, 1) := by decide +kernel
theorem dX4_countDigits_2 : decode cX4_countDigits 2 = .ok (.iload_n 1, 1) := by decide +kernel
theorem dX4_countDigits_3 : decode cX4_countDigits 3 = .ok (.sipush 300, 3) := by decide +kernel
theorem dX4_countDigits_6 : decode cX4_countDigits 6 = .ok (.if_icmp .ge 28, 3) := by decide +kernel
theorem dX4_countDigits_9 : decode cX4_countDigits 9 = .ok (.aload_n 0, 1) := by decide +kernel
theorem dX4_countDigits_10 : decode cX4_countDigits 10 = .ok (.getfield 12, 3) := by decide +kernel
theorem dX4_countDigits_13 : decode cX4_countDigits 13 = .ok (.aload_n 0, 1) := by decide +kernel
theorem dX4_countDigits_14 : decode cX4_countDigits 14 = .ok (.getfield 25, 3) := by decide +kernel
theorem dX4_countDigits_17 : decode cX4_countDigits 17 = .ok (.iload_n 1, 1) := by decide +kernel
theorem dX4_countDigits_18 : decode cX4_countDigits 18 = .ok (.iadd, 1) := by decide +kernel
theorem dX4_countDigits_19 : decode cX4_countDigits 19 = .ok (.invokevirtual 47, 3) := by decide +kernel
theorem dX4_countDigits_22 : decode cX4_countDigits 22 = .ok (.invokestatic 84, 3) := by decide +kernel
theorem dX4_countDigits_25 : decode cX4_countDigits 25 = .ok (.ifCond .eq 9, 3) := by decide +kernel
theorem dX4_countDigits_28 : decode cX4_countDigits 28 = .ok (.iinc 1 1, 3) := by decide +kernel
theorem dX4_countDigits_31 : decode cX4_countDigits 31 = .ok (.goto (-29), 3) := by decide +kernel
theorem dX4_countDigits_34 : decode cX4_countDigits 34 = .ok (.iload_n 1, 1) := by decide +kernel
theorem dX4_countDigits_35 : decode cX4_countDigits 35 = .ok (.ireturn, 1) := by decide +kernel
theorem dX4_pass_0 : decode cX4_pass 0 = .ok (.aload_n 0, 1) := by decide +kernel
theorem dX4_pass_1 : decode cX4_pass 1 = .ok (.dup, 1) := by decide +kernel
theorem dX4_pass_2 : decode cX4_pass 2 = .ok (.getfield 25, 3) := by decide +kernel
theorem dX4_pass_5 : decode cX4_pass 5 = .ok (.iload_n 1, 1) := by decide +kernel
theorem dX4_pass_6 : decode cX4_pass 6 = .ok (.iadd, 1) := by decide +kernel
theorem dX4_pass_7 : decode cX4_pass 7 = .ok (.putfield 25, 3) := by decide +kernel
theorem dX4_pass_10 : decode cX4_pass 10 = .ok (.aload_n 0, 1) := by decide +kernel
theorem dX4_pass_11 : decode cX4_pass 11 = .ok (.getfield 25, 3) := by decide +kernel
theorem dX4_pass_14 : decode cX4_pass 14 = .ok (.aload_n 0, 1) := by decide +kernel
theorem dX4_pass_15 : decode cX4_pass 15 = .ok (.getfield 12, 3) := by decide +kernel
theorem dX4_pass_18 : decode cX4_pass 18 = .ok (.invokevirtual 36, 3) := by decide +kernel
theorem dX4_pass_21 : decode cX4_pass 21 = .ok (.if_icmp .ge 33, 3) := by decide +kernel
theorem dX4_pass_24 : decode cX4_pass 24 = .ok (.aload_n 0, 1) := by decide +kernel
theorem dX4_pass_25 : decode cX4_pass 25 = .ok (.getfield 12, 3) := by decide +kernel
theorem dX4_pass_28 : decode cX4_pass 28 = .ok (.aload_n 0, 1) := by decide +kernel
theorem dX4_pass_29 : decode cX4_pass 29 = .ok (.getfield 25, 3) := by decide +kernel
theorem dX4_pass_32 : decode cX4_pass 32 = .ok (.invokevirtual 47, 3) := by decide +kernel
theorem dX4_pass_35 : decode cX4_pass 35 = .ok (.invokestatic 87, 3) := by decide +kernel
theorem dX4_pass_38 : decode cX4_pass 38 = .ok (.ifCond .eq 16, 3) := by decide +kernel
theorem dX4_pass_41 : decode cX4_pass 41 = .ok (.aload_n 0, 1) := by decide +kernel
theorem dX4_pass_42 : decode cX4_pass 42 = .ok (.dup, 1) := by decide +kernel
theorem dX4_pass_43 : decode cX4_pass 43 = .ok (.getfield 25, 3) := by decide +kernel
theorem dX4_pass_46 : decode cX4_pass 46 = .ok (.iconst 1, 1) := by decide +kernel
theorem dX4_pass_47 : decode cX4_pass 47 = .ok (.iadd, 1) := by decide +kernel
theorem dX4_pass_48 : decode cX4_pass 48 = .ok (.putfield 25, 3) := by decide +kernel
theorem dX4_pass_51 : decode cX4_pass 51 = .ok (.goto (-41), 3) := by decide +kernel
theorem dX4_pass_54 : decode cX4_pass 54 = .ok (.return_, 1) := by decide +kernel
theorem dX4_isDigit_0 : decode cX4_isDigit 0 = .ok (.iload_n 0, 1) := by decide +kernel
theorem dX4_isDigit_1 : decode cX4_isDigit 1 = .ok (.bipush 48, 2) := by decide +kernel
theorem dX4_isDigit_3 : decode cX4_isDigit 3 = .ok (.if_icmp .lt 13, 3) := by decide +kernel
theorem dX4_isDigit_6 : decode cX4_isDigit 6 = .ok (.iload_n 0, 1) := by decide +kernel
theorem dX4_isDigit_7 : decode cX4_isDigit 7 = .ok (.bipush 57, 2) := by decide +kernel
theorem dX4_isDigit_9 : decode cX4_isDigit 9 = .ok (.if_icmp .gt 7, 3) := by decide +kernel
theorem dX4_isDigit_12 : decode cX4_isDigit 12 = .ok (.iconst 1, 1) := by decide +kernel
theorem dX4_isDigit_13 : decode cX4_isDigit 13 = .ok (.goto 4, 3) := by decide +kernel
theorem dX4_isDigit_16 : decode cX4_isDigit 16 = .ok (.iconst 0, 1) := by decide +kernel
theorem dX4_isDigit_17 : decode cX4_isDigit 17 = .ok (.ireturn, 1) := by decide +kernel
theorem dX4_isBlank_0 : decode cX4_isBlank 0 = .ok (.iload_n 0, 1) := by decide +kernel
theorem dX4_isBlank_1 : decode cX4_isBlank 1 = .ok (.bipush 32, 2) := by decide +kernel
theorem dX4_isBlank_3 : decode cX4_isBlank 3 = .ok (.if_icmp .eq 9, 3) := by decide +kernel
theorem dX4_isBlank_6 : decode cX4_isBlank 6 = .ok (.iload_n 0, 1) := by decide +kernel
theorem dX4_isBlank_7 : decode cX4_isBlank 7 = .ok (.bipush 10, 2) := by decide +kernel
theorem dX4_isBlank_9 : decode cX4_isBlank 9 = .ok (.if_icmp .ne 7, 3) := by decide +kernel
theorem dX4_isBlank_12 : decode cX4_isBlank 12 = .ok (.iconst 1, 1) := by decide +kernel
theorem dX4_isBlank_13 : decode cX4_isBlank 13 = .ok (.goto 4, 3) := by decide +kernel
theorem dX4_isBlank_16 : decode cX4_isBlank 16 = .ok (.iconst 0, 1) := by decide +kernel
theorem dX4_isBlank_17 : decode cX4_isBlank 17 = .ok (.ireturn, 1) := by decide +kernel
theorem dX5_init_0 : decode cX5_init 0 = .ok (.aload_n 0, 1) := by decide +kernel
theorem dX5_init_1 : decode cX5_init 1 = .ok (.invokespecial 3, 3) := by decide +kernel
theorem dX5_init_4 : decode cX5_init 4 = .ok (.aload_n 0, 1) := by decide +kernel
theorem dX5_init_5 : decode cX5_init 5 = .ok (.sipush 1000, 3) := by decide +kernel
theorem dX5_init_8 : decode cX5_init 8 = .ok (.newarray .int, 2) := by decide +kernel
theorem dX5_init_10 : decode cX5_init 10 = .ok (.putfield 9, 3) := by decide +kernel
theorem dX5_init_13 : decode cX5_init 13 = .ok (.aload_n 0, 1) := by decide +kernel
theorem dX5_init_14 : decode cX5_init 14 = .ok (.sipush 1000, 3) := by decide +kernel
theorem dX5_init_17 : decode cX5_init 17 = .ok (.newarray .int, 2) := by decide +kernel
theorem dX5_init_19 : decode cX5_init 19 = .ok (.putfield 15, 3) := by decide +kernel
theorem dX5_init_22 : decode cX5_init 22 = .ok (.aload_n 0, 1) := by decide +kernel
theorem dX5_init_23 : decode cX5_init 23 = .ok (.new 18, 3) := by decide +kernel
theorem dX5_init_26 : decode cX5_init 26 = .ok (.dup, 1) := by decide +kernel
theorem dX5_init_27 : decode cX5_init 27 = .ok (.invokespecial 20, 3) := by decide +kernel
theorem dX5_init_30 : decode cX5_init 30 = .ok (.putfield 21, 3) := by decide +kernel
theorem dX5_init_33 : decode cX5_init 33 = .ok (.aload_n 0, 1) := by decide +kernel
theorem dX5_init_34 : decode cX5_init 34 = .ok (.iconst 0, 1) := by decide +kernel
theorem dX5_init_35 : decode cX5_init 35 = .ok (.putfield 25, 3) := by decide +kernel
theorem dX5_init_38 : decode cX5_init 38 = .ok (.return_, 1) := by decide +kernel
theorem dX5_length_0 : decode cX5_length 0 = .ok (.aload_n 0, 1) := by decide +kernel
theorem dX5_length_1 : decode cX5_length 1 = .ok (.getfield 25, 3) := by decide +kernel
theorem dX5_length_4 : decode cX5_length 4 = .ok (.ireturn, 1) := by decide +kernel
theorem dX5_keyIn_0 : decode cX5_keyIn 0 = .ok (.iload_n 1, 1) := by decide +kernel
theorem dX5_keyIn_1 : decode cX5_keyIn 1 = .ok (.ifCond .lt 20, 3) := by decide +kernel
theorem dX5_keyIn_4 : decode cX5_keyIn 4 = .ok (.iload_n 1, 1) := by decide +kernel
theorem dX5_keyIn_5 : decode cX5_keyIn 5 = .ok (.aload_n 0, 1) := by decide +kernel
theorem dX5_keyIn_6 : decode cX5_keyIn 6 = .ok (.getfield 25, 3) := by decide +kernel
theorem dX5_keyIn_9 : decode cX5_keyIn 9 = .ok (.if_icmp .ge 12, 3) := by decide +kernel
theorem dX5_keyIn_12 : decode cX5_keyIn 12 = .ok (.aload_n 0, 1) := by decide +kernel
theorem dX5_keyIn_13 : decode cX5_keyIn 13 = .ok (.getfield 9, 3) := by decide +kernel
theorem dX5_keyIn_16 : decode cX5_keyIn 16 = .ok (.iload_n 1, 1) := by decide +kernel
theorem dX5_keyIn_17 : decode cX5_keyIn 17 = .ok (.iaload, 1) := by decide +kernel
theorem dX5_keyIn_18 : decode cX5_keyIn 18 = .ok (.goto 4, 3) := by decide +kernel
theorem dX5_keyIn_21 : decode cX5_keyIn 21 = .ok (.iconst (-1), 1) := by decide +kernel
theorem dX5_keyIn_22 : decode cX5_keyIn 22 = .ok (.ireturn, 1) := by decide +kernel
theorem dX5_distanceIn_0 : decode cX5_distanceIn 0 = .ok (.iload_n 1, 1) := by decide +kernel
theorem dX5_distanceIn_1 : decode cX5_distanceIn 1 = .ok (.ifCond .lt 20, 3) := by decide +kernel
theorem dX5_distanceIn_4 : decode cX5_distanceIn 4 = .ok (.iload_n 1, 1) := by decide +kernel
theorem dX5_distanceIn_5 : decode cX5_distanceIn 5 = .ok (.aload_n 0, 1) := by decide +kernel
theorem dX5_distanceIn_6 : decode cX5_distanceIn 6 = .ok (.getfield 25, 3) := by decide +kernel
theorem dX5_distanceIn_9 : decode cX5_distanceIn 9 = .ok (.if_icmp .ge 12, 3) := by decide +kernel
theorem dX5_distanceIn_12 : decode cX5_distanceIn 12 = .ok (.aload_n 0, 1) := by decide +kernel
theorem dX5_distanceIn_13 : decode cX5_distanceIn 13 = .ok (.getfield 15, 3) := by decide +kernel
theorem dX5_distanceIn_16 : decode cX5_distanceIn 16 = .ok (.iload_n 1, 1) := by decide +kernel
theorem dX5_distanceIn_17 : decode cX5_distanceIn 17 = .ok (.iaload, 1) := by decide +kernel
theorem dX5_distanceIn_18 : decode cX5_distanceIn 18 = .ok (.goto 4, 3) := by decide +kernel
theorem dX5_distanceIn_21 : decode cX5_distanceIn 21 = .ok (.iconst (-1), 1) := by decide +kernel
theorem dX5_distanceIn_22 : decode cX5_distanceIn 22 = .ok (.ireturn, 1) := by decide +kernel
theorem dX5_note_0 : decode cX5_note 0 = .ok (.aload_n 0, 1) := by decide +kernel
theorem dX5_note_1 : decode cX5_note 1 = .ok (.getfield 25, 3) := by decide +kernel
theorem dX5_note_4 : decode cX5_note 4 = .ok (.sipush 1000, 3) := by decide +kernel
theorem dX5_note_7 : decode cX5_note 7 = .ok (.if_icmp .lt 4, 3) := by decide +kernel
theorem dX5_note_10 : decode cX5_note 10 = .ok (.return_, 1) := by decide +kernel
theorem dX5_note_11 : decode cX5_note 11 = .ok (.aload_n 0, 1) := by decide +kernel
theorem dX5_note_12 : decode cX5_note 12 = .ok (.getfield 9, 3) := by decide +kernel
theorem dX5_note_15 : decode cX5_note 15 = .ok (.aload_n 0, 1) := by decide +kernel
theorem dX5_note_16 : decode cX5_note 16 = .ok (.getfield 25, 3) := by decide +kernel
theorem dX5_note_19 : decode cX5_note 19 = .ok (.iload_n 1, 1) := by decide +kernel
theorem dX5_note_20 : decode cX5_note 20 = .ok (.iastore, 1) := by decide +kernel
theorem dX5_note_21 : decode cX5_note 21 = .ok (.aload_n 0, 1) := by decide +kernel
theorem dX5_note_22 : decode cX5_note 22 = .ok (.getfield 15, 3) := by decide +kernel
theorem dX5_note_25 : decode cX5_note 25 = .ok (.aload_n 0, 1) := by decide +kernel
theorem dX5_note_26 : decode cX5_note 26 = .ok (.getfield 25, 3) := by decide +kernel
theorem dX5_note_29 : decode cX5_note 29 = .ok (.aload_n 0, 1) := by decide +kernel
theorem dX5_note_30 : decode cX5_note 30 = .ok (.iload_n 1, 1) := by decide +kernel
theorem dX5_note_31 : decode cX5_note 31 = .ok (.invokevirtual 29, 3) := by decide +kernel
theorem dX5_note_34 : decode cX5_note 34 = .ok (.iastore, 1) := by decide +kernel
theorem dX5_note_35 : decode cX5_note 35 = .ok (.aload_n 0, 1) := by decide +kernel
theorem dX5_note_36 : decode cX5_note 36 = .ok (.dup, 1) := by decide +kernel
theorem dX5_note_37 : decode cX5_note 37 = .ok (.getfield 25, 3) := by decide +kernel
theorem dX5_note_40 : decode cX5_note 40 = .ok (.iconst 1, 1) := by decide +kernel
theorem dX5_note_41 : decode cX5_note 41 = .ok (.iadd, 1) := by decide +kernel
theorem dX5_note_42 : decode cX5_note 42 = .ok (.putfield 25, 3) := by decide +kernel
theorem dX5_note_45 : decode cX5_note 45 = .ok (.aload_n 0, 1) := by decide +kernel
theorem dX5_note_46 : decode cX5_note 46 = .ok (.getfield 21, 3) := by decide +kernel
theorem dX5_note_49 : decode cX5_note 49 = .ok (.iload_n 1, 1) := by decide +kernel
theorem dX5_note_50 : decode cX5_note 50 = .ok (.invokevirtual 33, 3) := by decide +kernel
theorem dX5_note_53 : decode cX5_note 53 = .ok (.pop, 1) := by decide +kernel
theorem dX5_note_54 : decode cX5_note 54 = .ok (.return_, 1) := by decide +kernel
theorem dX5_countBelow_0 : decode cX5_countBelow 0 = .ok (.iconst 0, 1) := by decide +kernel
theorem dX5_countBelow_1 : decode cX5_countBelow 1 = .ok (.istore_n 2, 1) := by decide +kernel
theorem dX5_countBelow_2 : decode cX5_countBelow 2 = .ok (.iconst 0, 1) := by decide +kernel
theorem dX5_countBelow_3 : decode cX5_countBelow 3 = .ok (.istore_n 3, 1) := by decide +kernel
theorem dX5_countBelow_4 : decode cX5_countBelow 4 = .ok (.iload_n 3, 1) := by decide +kernel
theorem dX5_countBelow_5 : decode cX5_countBelow 5 = .ok (.aload_n 0, 1) := by decide +kernel
theorem dX5_countBelow_6 : decode cX5_countBelow 6 = .ok (.getfield 25, 3) := by decide +kernel
theorem dX5_countBelow_9 : decode cX5_countBelow 9 = .ok (.if_icmp .ge 32, 3) := by decide +kernel
theorem dX5_countBelow_12 : decode cX5_countBelow 12 = .ok (.aload_n 0, 1) := by decide +kernel
theorem dX5_countBelow_13 : decode cX5_countBelow 13 = .ok (.getfield 15, 3) := by decide +kernel
theorem dX5_countBelow_16 : decode cX5_countBelow 16 = .ok (.iload_n 3, 1) := by decide +kernel
theorem dX5_countBelow_17 : decode cX5_countBelow 17 = .ok (.iaload, 1) := by decide +kernel
theorem dX5_countBelow_18 : decode cX5_countBelow 18 = .ok (.iconst (-1), 1) := by decide +kernel
theorem dX5_countBelow_19 : decode cX5_countBelow 19 = .ok (.if_icmp .eq 16, 3) := by decide +kernel
theorem dX5_countBelow_22 : decode cX5_countBelow 22 = .ok (.aload_n 0, 1) := by decide +kernel
theorem dX5_countBelow_23 : decode cX5_countBelow 23 = .ok (.getfield 15, 3) := by decide +kernel
theorem dX5_countBelow_26 : decode cX5_countBelow 26 = .ok (.iload_n 3, 1) := by decide +kernel
theorem dX5_countBelow_27 : decode cX5_countBelow 27 = .ok (.iaload, 1) := by decide +kernel
theorem dX5_countBelow_28 : decode cX5_countBelow 28 = .ok (.iload_n 1, 1) := by decide +kernel
theorem dX5_countBelow_29 : decode cX5_countBelow 29 = .ok (.if_icmp .ge 6, 3) := by decide +kernel
theorem dX5_countBelow_32 : decode cX5_countBelow 32 = .ok (.iinc 2 1, 3) := by decide +kernel
theorem dX5_countBelow_35 : decode cX5_countBelow 35 = .ok (.iinc 3 1, 3) := by decide +kernel
theorem dX5_countBelow_38 : decode cX5_countBelow 38 = .ok (.goto (-34), 3) := by decide +kernel
theorem dX5_countBelow_41 : decode cX5_countBelow 41 = .ok (.iload_n 2, 1) := by decide +kernel
theorem dX5_countBelow_42 : decode cX5_countBelow 42 = .ok (.ireturn, 1) := by decide +kernel
theorem dX5_distanceTotal_0 : decode cX5_distanceTotal 0 = .ok (.iconst 0, 1) := by decide +kernel
theorem dX5_distanceTotal_1 : decode cX5_distanceTotal 1 = .ok (.istore_n 1, 1) := by decide +kernel
theorem dX5_distanceTotal_2 : decode cX5_distanceTotal 2 = .ok (.iconst 0, 1) := by decide +kernel
theorem dX5_distanceTotal_3 : decode cX5_distanceTotal 3 = .ok (.istore_n 2, 1) := by decide +kernel
theorem dX5_distanceTotal_4 : decode cX5_distanceTotal 4 = .ok (.iload_n 2, 1) := by decide +kernel
theorem dX5_distanceTotal_5 : decode cX5_distanceTotal 5 = .ok (.aload_n 0, 1) := by decide +kernel
theorem dX5_distanceTotal_6 : decode cX5_distanceTotal 6 = .ok (.getfield 25, 3) := by decide +kernel
theorem dX5_distanceTotal_9 : decode cX5_distanceTotal 9 = .ok (.if_icmp .ge 28, 3) := by decide +kernel
theorem dX5_distanceTotal_12 : decode cX5_distanceTotal 12 = .ok (.aload_n 0, 1) := by decide +kernel
theorem dX5_distanceTotal_13 : decode cX5_distanceTotal 13 = .ok (.getfield 15, 3) := by decide +kernel
theorem dX5_distanceTotal_16 : decode cX5_distanceTotal 16 = .ok (.iload_n 2, 1) := by decide +kernel
theorem dX5_distanceTotal_17 : decode cX5_distanceTotal 17 = .ok (.iaload, 1) := by decide +kernel
theorem dX5_distanceTotal_18 : decode cX5_distanceTotal 18 = .ok (.iconst (-1), 1) := by decide +kernel
theorem dX5_distanceTotal_19 : decode cX5_distanceTotal 19 = .ok (.if_icmp .eq 12, 3) := by decide +kernel
theorem dX5_distanceTotal_22 : decode cX5_distanceTotal 22 = .ok (.iload_n 1, 1) := by decide +kernel
theorem dX5_distanceTotal_23 : decode cX5_distanceTotal 23 = .ok (.aload_n 0, 1) := by decide +kernel
theorem dX5_distanceTotal_24 : decode cX5_distanceTotal 24 = .ok (.getfield 15, 3) := by decide +kernel
theorem dX5_distanceTotal_27 : decode cX5_distanceTotal 27 = .ok (.iload_n 2, 1) := by decide +kernel
theorem dX5_distanceTotal_28 : decode cX5_distanceTotal 28 = .ok (.iaload, 1) := by decide +kernel
theorem dX5_distanceTotal_29 : decode cX5_distanceTotal 29 = .ok (.iadd, 1) := by decide +kernel
theorem dX5_distanceTotal_30 : decode cX5_distanceTotal 30 = .ok (.istore_n 1, 1) := by decide +kernel
theorem dX5_distanceTotal_31 : decode cX5_distanceTotal 31 = .ok (.iinc 2 1, 3) := by decide +kernel
theorem dX5_distanceTotal_34 : decode cX5_distanceTotal 34 = .ok (.goto (-30), 3) := by decide +kernel
theorem dX5_distanceTotal_37 : decode cX5_distanceTotal 37 = .ok (.iload_n 1, 1) := by decide +kernel
theorem dX5_distanceTotal_38 : decode cX5_distanceTotal 38 = .ok (.ireturn, 1) := by decide +kernel
theorem dX5_restart_0 : decode cX5_restart 0 = .ok (.aload_n 0, 1) := by decide +kernel
theorem dX5_restart_1 : decode cX5_restart 1 = .ok (.iconst 0, 1) := by decide +kernel
theorem dX5_restart_2 : decode cX5_restart 2 = .ok (.putfield 25, 3) := by decide +kernel
theorem dX5_restart_5 : decode cX5_restart 5 = .ok (.aload_n 0, 1) := by decide +kernel
theorem dX5_restart_6 : decode cX5_restart 6 = .ok (.getfield 21, 3) := by decide +kernel
theorem dX5_restart_9 : decode cX5_restart 9 = .ok (.invokevirtual 37, 3) := by decide +kernel
theorem dX5_restart_12 : decode cX5_restart 12 = .ok (.return_, 1) := by decide +kernel
theorem dX5_distanceTo_0 : decode cX5_distanceTo 0 = .ok (.aload_n 0, 1) := by decide +kernel
theorem dX5_distanceTo_1 : decode cX5_distanceTo 1 = .ok (.getfield 21, 3) := by decide +kernel
theorem dX5_distanceTo_4 : decode cX5_distanceTo 4 = .ok (.iload_n 1, 1) := by decide +kernel
theorem dX5_distanceTo_5 : decode cX5_distanceTo 5 = .ok (.invokevirtual 40, 3) := by decide +kernel
theorem dX5_distanceTo_8 : decode cX5_distanceTo 8 = .ok (.istore_n 2, 1) := by decide +kernel
theorem dX5_distanceTo_9 : decode cX5_distanceTo 9 = .ok (.iload_n 2, 1) := by decide +kernel
theorem dX5_distanceTo_10 : decode cX5_distanceTo 10 = .ok (.iconst (-1), 1) := by decide +kernel
theorem dX5_distanceTo_11 : decode cX5_distanceTo 11 = .ok (.if_icmp .ne 7, 3) := by decide +kernel
theorem dX5_distanceTo_14 : decode cX5_distanceTo 14 = .ok (.iconst (-1), 1) := by decide +kernel
theorem dX5_distanceTo_15 : decode cX5_distanceTo 15 = .ok (.goto 14, 3) := by decide +kernel
theorem dX5_distanceTo_18 : decode cX5_distanceTo 18 = .ok (.aload_n 0, 1) := by decide +kernel
theorem dX5_distanceTo_19 : decode cX5_distanceTo 19 = .ok (.getfield 21, 3) := by decide +kernel
theorem dX5_distanceTo_22 : decode cX5_distanceTo 22 = .ok (.invokevirtual 43, 3) := by decide +kernel
theorem dX5_distanceTo_25 : decode cX5_distanceTo 25 = .ok (.iconst 1, 1) := by decide +kernel
theorem dX5_distanceTo_26 : decode cX5_distanceTo 26 = .ok (.isub, 1) := by decide +kernel
theorem dX5_distanceTo_27 : decode cX5_distanceTo 27 = .ok (.iload_n 2, 1) := by decide +kernel
theorem dX5_distanceTo_28 : decode cX5_distanceTo 28 = .ok (.isub, 1) := by decide +kernel
theorem dX5_distanceTo_29 : decode cX5_distanceTo 29 = .ok (.ireturn, 1) := by decide +kernel
theorem dX6_init_0 : decode cX6_init 0 = .ok (.aload_n 0, 1) := by decide +kernel
theorem dX6_init_1 : decode cX6_init 1 = .ok (.invokespecial 3, 3) := by decide +kernel
theorem dX6_init_4 : decode cX6_init 4 = .ok (.aload_n 0, 1) := by decide +kernel
theorem dX6_init_5 : decode cX6_init 5 = .ok (.sipush 300, 3) := by decide +kernel
theorem dX6_init_8 : decode cX6_init 8 = .ok (.newarray .int, 2) := by decide +kernel
theorem dX6_init_10 : decode cX6_init 10 = .ok (.putfield 9, 3) := by decide +kernel
theorem dX6_init_13 : decode cX6_init 13 = .ok (.aload_n 0, 1) := by decide +kernel
theorem dX6_init_14 : decode cX6_init 14 = .ok (.iconst 0, 1) := by decide +kernel
theorem dX6_init_15 : decode cX6_init 15 = .ok (.putfield 15, 3) := by decide +kernel
theorem dX6_init_18 : decode cX6_init 18 = .ok (.return_, 1) := by decide +kernel
theorem dX6_bytesOf_0 : decode cX6_bytesOf 0 = .ok (.iconst 0, 1) := by decide +kernel
theorem dX6_bytesOf_1 : decode cX6_bytesOf 1 = .ok (.istore_n 1, 1) := by decide +kernel
theorem dX6_bytesOf_2 : decode cX6_bytesOf 2 = .ok (.bipush 24, 2) := by decide +kernel
theorem dX6_bytesOf_4 : decode cX6_bytesOf 4 = .ok (.istore_n 2, 1) := by decide +kernel
theorem dX6_bytesOf_5 : decode cX6_bytesOf 5 = .ok (.iload_n 2, 1) := by decide +kernel
theorem dX6_bytesOf_6 : decode cX6_bytesOf 6 = .ok (.ifCond .lt 22, 3) := by decide +kernel
theorem dX6_bytesOf_9 : decode cX6_bytesOf 9 = .ok (.iload_n 0, 1) := by decide +kernel
theorem dX6_bytesOf_10 : decode cX6_bytesOf 10 = .ok (.iload_n 2, 1) := by decide +kernel
theorem dX6_bytesOf_11 : decode cX6_bytesOf 11 = .ok (.iushr, 1) := by decide +kernel
theorem dX6_bytesOf_12 : decode cX6_bytesOf 12 = .ok (.sipush 255, 3) := by decide +kernel
theorem dX6_bytesOf_15 : decode cX6_bytesOf 15 = .ok (.iand, 1) := by decide +kernel
theorem dX6_bytesOf_16 : decode cX6_bytesOf 16 = .ok (.ifCond .eq 6, 3) := by decide +kernel
theorem dX6_bytesOf_19 : decode cX6_bytesOf 19 = .ok (.iinc 1 1, 3) := by decide +kernel
theorem dX6_bytesOf_22 : decode cX6_bytesOf 22 = .ok (.iinc 2 (-8), 3) := by decide +kernel
theorem dX6_bytesOf_25 : decode cX6_bytesOf 25 = .ok (.goto (-20), 3) := by decide +kernel
theorem dX6_bytesOf_28 : decode cX6_bytesOf 28 = .ok (.iload_n 1, 1) := by decide +kernel
theorem dX6_bytesOf_29 : decode cX6_bytesOf 29 = .ok (.ireturn, 1) := by decide +kernel
theorem dX6_length_0 : decode cX6_length 0 = .ok (.aload_n 0, 1) := by decide +kernel
theorem dX6_length_1 : decode cX6_length 1 = .ok (.getfield 15, 3) := by decide +kernel
theorem dX6_length_4 : decode cX6_length 4 = .ok (.ireturn, 1) := by decide +kernel
theorem dX6_byteIn_0 : decode cX6_byteIn 0 = .ok (.iload_n 1, 1) := by decide +kernel
theorem dX6_byteIn_1 : decode cX6_byteIn 1 = .ok (.ifCond .lt 20, 3) := by decide +kernel
theorem dX6_byteIn_4 : decode cX6_byteIn 4 = .ok (.iload_n 1, 1) := by decide +kernel
theorem dX6_byteIn_5 : decode cX6_byteIn 5 = .ok (.aload_n 0, 1) := by decide +kernel
theorem dX6_byteIn_6 : decode cX6_byteIn 6 = .ok (.getfield 15, 3) := by decide +kernel
theorem dX6_byteIn_9 : decode cX6_byteIn 9 = .ok (.if_icmp .ge 12, 3) := by decide +kernel
theorem dX6_byteIn_12 : decode cX6_byteIn 12 = .ok (.aload_n 0, 1) := by decide +kernel
theorem dX6_byteIn_13 : decode cX6_byteIn 13 = .ok (.getfield 9, 3) := by decide +kernel
theorem dX6_byteIn_16 : decode cX6_byteIn 16 = .ok (.iload_n 1, 1) := by decide +kernel
theorem dX6_byteIn_17 : decode cX6_byteIn 17 = .ok (.iaload, 1) := by decide +kernel
theorem dX6_byteIn_18 : decode cX6_byteIn 18 = .ok (.goto 4, 3) := by decide +kernel
theorem dX6_byteIn_21 : decode cX6_byteIn 21 = .ok (.iconst (-1), 1) := by decide +kernel
theorem dX6_byteIn_22 : decode cX6_byteIn 22 = .ok (.ireturn, 1) := by decide +kernel
theorem dX6_addBytes_0 : decode cX6_addBytes 0 = .ok (.bipush 24, 2) := by decide +kernel
theorem dX6_addBytes_2 : decode cX6_addBytes 2 = .ok (.istore_n 2, 1) := by decide +kernel
theorem dX6_addBytes_3 : decode cX6_addBytes 3 = .ok (.iload_n 2, 1) := by decide +kernel
theorem dX6_addBytes_4 : decode cX6_addBytes 4 = .ok (.ifCond .lt 51, 3) := by decide +kernel
theorem dX6_addBytes_7 : decode cX6_addBytes 7 = .ok (.iload_n 1, 1) := by decide +kernel
theorem dX6_addBytes_8 : decode cX6_addBytes 8 = .ok (.iload_n 2, 1) := by decide +kernel
theorem dX6_addBytes_9 : decode cX6_addBytes 9 = .ok (.iushr, 1) := by decide +kernel
theorem dX6_addBytes_10 : decode cX6_addBytes 10 = .ok (.sipush 255, 3) := by decide +kernel
theorem dX6_addBytes_13 : decode cX6_addBytes 13 = .ok (.iand, 1) := by decide +kernel
theorem dX6_addBytes_14 : decode cX6_addBytes 14 = .ok (.istore_n 3, 1) := by decide +kernel
theorem dX6_addBytes_15 : decode cX6_addBytes 15 = .ok (.iload_n 3, 1) := by decide +kernel
theorem dX6_addBytes_16 : decode cX6_addBytes 16 = .ok (.ifCond .eq 33, 3) := by decide +kernel
theorem dX6_addBytes_19 : decode cX6_addBytes 19 = .ok (.aload_n 0, 1) := by decide +kernel
theorem dX6_addBytes_20 : decode cX6_addBytes 20 = .ok (.getfield 15, 3) := by decide +kernel
theorem dX6_addBytes_23 : decode cX6_addBytes 23 = .ok (.sipush 300, 3) := by decide +kernel
theorem dX6_addBytes_26 : decode cX6_addBytes 26 = .ok (.if_icmp .ge 23, 3) := by decide +kernel
theorem dX6_addBytes_29 : decode cX6_addBytes 29 = .ok (.aload_n 0, 1) := by decide +kernel
theorem dX6_addBytes_30 : decode cX6_addBytes 30 = .ok (.getfield 9, 3) := by decide +kernel
theorem dX6_addBytes_33 : decode cX6_addBytes 33 = .ok (.aload_n 0, 1) := by decide +kernel
theorem dX6_addBytes_34 : decode cX6_addBytes 34 = .ok (.getfield 15, 3) := by decide +kernel
theorem dX6_addBytes_37 : decode cX6_addBytes 37 = .ok (.iload_n 3, 1) := by decide +kernel
theorem dX6_addBytes_38 : decode cX6_addBytes 38 = .ok (.iastore, 1) := by decide +kernel
theorem dX6_addBytes_39 : decode cX6_addBytes 39 = .ok (.aload_n 0, 1) := by decide +kernel
theorem dX6_addBytes_40 : decode cX6_addBytes 40 = .ok (.dup, 1) := by decide +kernel
theorem dX6_addBytes_41 : decode cX6_addBytes 41 = .ok (.getfield 15, 3) := by decide +kernel
theorem dX6_addBytes_44 : decode cX6_addBytes 44 = .ok (.iconst 1, 1) := by decide +kernel
theorem dX6_addBytes_45 : decode cX6_addBytes 45 = .ok (.iadd, 1) := by decide +kernel
theorem dX6_addBytes_46 : decode cX6_addBytes 46 = .ok (.putfield 15, 3) := by decide +kernel
theorem dX6_addBytes_49 : decode cX6_addBytes 49 = .ok (.iinc 2 (-8), 3) := by decide +kernel
theorem dX6_addBytes_52 : decode cX6_addBytes 52 = .ok (.goto (-49), 3) := by decide +kernel
theorem dX6_addBytes_55 : decode cX6_addBytes 55 = .ok (.return_, 1) := by decide +kernel
theorem dX6_empty_0 : decode cX6_empty 0 = .ok (.aload_n 0, 1) := by decide +kernel
theorem dX6_empty_1 : decode cX6_empty 1 = .ok (.getfield 15, 3) := by decide +kernel
theorem dX6_empty_4 : decode cX6_empty 4 = .ok (.istore_n 1, 1) := by decide +kernel
theorem dX6_empty_5 : decode cX6_empty 5 = .ok (.aload_n 0, 1) := by decide +kernel
theorem dX6_empty_6 : decode cX6_empty 6 = .ok (.iconst 0, 1) := by decide +kernel
theorem dX6_empty_7 : decode cX6_empty 7 = .ok (.putfield 15, 3) := by decide +kernel
theorem dX6_empty_10 : decode cX6_empty 10 = .ok (.iload_n 1, 1) := by decide +kernel
theorem dX6_empty_11 : decode cX6_empty 11 = .ok (.ireturn, 1) := by decide +kernel
theorem dX7_init_0 : decode cX7_init 0 = .ok (.aload_n 0, 1) := by decide +kernel
theorem dX7_init_1 : decode cX7_init 1 = .ok (.invokespecial 3, 3) := by decide +kernel
theorem dX7_init_4 : decode cX7_init 4 = .ok (.aload_n 0, 1) := by decide +kernel
theorem dX7_init_5 : decode cX7_init 5 = .ok (.new 9, 3) := by decide +kernel
theorem dX7_init_8 : decode cX7_init 8 = .ok (.dup, 1) := by decide +kernel
theorem dX7_init_9 : decode cX7_init 9 = .ok (.invokespecial 11, 3) := by decide +kernel
theorem dX7_init_12 : decode cX7_init 12 = .ok (.putfield 12, 3) := by decide +kernel
theorem dX7_init_15 : decode cX7_init 15 = .ok (.aload_n 0, 1) := by decide +kernel
theorem dX7_init_16 : decode cX7_init 16 = .ok (.new 18, 3) := by decide +kernel
theorem dX7_init_19 : decode cX7_init 19 = .ok (.dup, 1) := by decide +kernel
theorem dX7_init_20 : decode cX7_init 20 = .ok (.invokespecial 20, 3) := by decide +kernel
theorem dX7_init_23 : decode cX7_init 23 = .ok (.putfield 21, 3) := by decide +kernel
theorem dX7_init_26 : decode cX7_init 26 = .ok (.aload_n 0, 1) := by decide +kernel
theorem dX7_init_27 : decode cX7_init 27 = .ok (.bipush 100, 2) := by decide +kernel
theorem dX7_init_29 : decode cX7_init 29 = .ok (.newarray .int, 2) := by decide +kernel
theorem dX7_init_31 : decode cX7_init 31 = .ok (.putfield 25, 3) := by decide +kernel
theorem dX7_init_34 : decode cX7_init 34 = .ok (.aload_n 0, 1) := by decide +kernel
theorem dX7_init_35 : decode cX7_init 35 = .ok (.iconst 0, 1) := by decide +kernel
theorem dX7_init_36 : decode cX7_init 36 = .ok (.putfield 29, 3) := by decide +kernel
theorem dX7_init_39 : decode cX7_init 39 = .ok (.aload_n 0, 1) := by decide +kernel
theorem dX7_init_40 : decode cX7_init 40 = .ok (.iconst (-1), 1) := by decide +kernel
theorem dX7_init_41 : decode cX7_init 41 = .ok (.putfield 33, 3) := by decide +kernel
theorem dX7_init_44 : decode cX7_init 44 = .ok (.aload_n 0, 1) := by decide +kernel
theorem dX7_init_45 : decode cX7_init 45 = .ok (.iload_n 1, 1) := by decide +kernel
theorem dX7_init_46 : decode cX7_init 46 = .ok (.putfield 36, 3) := by decide +kernel
theorem dX7_init_49 : decode cX7_init 49 = .ok (.return_, 1) := by decide +kernel
theorem dX7_keys_0 : decode cX7_keys 0 = .ok (.aload_n 0, 1) := by decide +kernel
theorem dX7_keys_1 : decode cX7_keys 1 = .ok (.getfield 12, 3) := by decide +kernel
theorem dX7_keys_4 : decode cX7_keys 4 = .ok (.areturn, 1) := by decide +kernel
theorem dX7_cursor_0 : decode cX7_cursor 0 = .ok (.aload_n 0, 1) := by decide +kernel
theorem dX7_cursor_1 : decode cX7_cursor 1 = .ok (.getfield 21, 3) := by decide +kernel
theorem dX7_cursor_4 : decode cX7_cursor 4 = .ok (.areturn, 1) := by decide +kernel
theorem dX7_outCount_0 : decode cX7_outCount 0 = .ok (.aload_n 0, 1) := by decide +kernel
theorem dX7_outCount_1 : decode cX7_outCount 1 = .ok (.getfield 29, 3) := by decide +kernel
theorem dX7_outCount_4 : decode cX7_outCount 4 = .ok (.ireturn, 1) := by decide +kernel
theorem dX7_outLast_0 : decode cX7_outLast 0 = .ok (.aload_n 0, 1) := by decide +kernel
theorem dX7_outLast_1 : decode cX7_outLast 1 = .ok (.getfield 33, 3) := by decide +kernel
theorem dX7_outLast_4 : decode cX7_outLast 4 = .ok (.ireturn, 1) := by decide +kernel
theorem dX7_lookUp_0 : decode cX7_lookUp 0 = .ok (.iload_n 1, 1) := by decide +kernel
theorem dX7_lookUp_1 : decode cX7_lookUp 1 = .ok (.ifCond .lt 29, 3) := by decide +kernel
theorem dX7_lookUp_4 : decode cX7_lookUp 4 = .ok (.iload_n 1, 1) := by decide +kernel
theorem dX7_lookUp_5 : decode cX7_lookUp 5 = .ok (.bipush 100, 2) := by decide +kernel
theorem dX7_lookUp_7 : decode cX7_lookUp 7 = .ok (.if_icmp .ge 23, 3) := by decide +kernel
theorem dX7_lookUp_10 : decode cX7_lookUp 10 = .ok (.aload_n 0, 1) := by decide +kernel
theorem dX7_lookUp_11 : decode cX7_lookUp 11 = .ok (.getfield 12, 3) := by decide +kernel
theorem dX7_lookUp_14 : decode cX7_lookUp 14 = .ok (.iload_n 1, 1) := by decide +kernel
theorem dX7_lookUp_15 : decode cX7_lookUp 15 = .ok (.invokevirtual 39, 3) := by decide +kernel
theorem dX7_lookUp_18 : decode cX7_lookUp 18 = .ok (.ifCond .eq 12, 3) := by decide +kernel
theorem dX7_lookUp_21 : decode cX7_lookUp 21 = .ok (.aload_n 0, 1) := by decide +kernel
theorem dX7_lookUp_22 : decode cX7_lookUp 22 = .ok (.getfield 25, 3) := by decide +kernel
theorem dX7_lookUp_25 : decode cX7_lookUp 25 = .ok (.iload_n 1, 1) := by decide +kernel
theorem dX7_lookUp_26 : decode cX7_lookUp 26 = .ok (.iaload, 1) := by decide +kernel
theorem dX7_lookUp_27 : decode cX7_lookUp 27 = .ok (.goto 4, 3) := by decide +kernel
theorem dX7_lookUp_30 : decode cX7_lookUp 30 = .ok (.iconst (-1), 1) := by decide +kernel
theorem dX7_lookUp_31 : decode cX7_lookUp 31 = .ok (.ireturn, 1) := by decide +kernel
theorem dX7_valueIn_0 : decode cX7_valueIn 0 = .ok (.aload_n 0, 1) := by decide +kernel
theorem dX7_valueIn_1 : decode cX7_valueIn 1 = .ok (.aload_n 0, 1) := by decide +kernel
theorem dX7_valueIn_2 : decode cX7_valueIn 2 = .ok (.getfield 12, 3) := by decide +kernel
theorem dX7_valueIn_5 : decode cX7_valueIn 5 = .ok (.iload_n 1, 1) := by decide +kernel
theorem dX7_valueIn_6 : decode cX7_valueIn 6 = .ok (.invokevirtual 43, 3) := by decide +kernel
theorem dX7_valueIn_9 : decode cX7_valueIn 9 = .ok (.invokevirtual 47, 3) := by decide +kernel
theorem dX7_valueIn_12 : decode cX7_valueIn 12 = .ok (.ireturn, 1) := by decide +kernel
theorem dX7_store_0 : decode cX7_store 0 = .ok (.aload_n 0, 1) := by decide +kernel
theorem dX7_store_1 : decode cX7_store 1 = .ok (.iload_n 1, 1) := by decide +kernel
theorem dX7_store_2 : decode cX7_store 2 = .ok (.invokevirtual 47, 3) := by decide +kernel
theorem dX7_store_5 : decode cX7_store 5 = .ok (.istore_n 3, 1) := by decide +kernel
theorem dX7_store_6 : decode cX7_store 6 = .ok (.aload_n 0, 1) := by decide +kernel
theorem dX7_store_7 : decode cX7_store 7 = .ok (.getfield 21, 3) := by decide +kernel
theorem dX7_store_10 : decode cX7_store 10 = .ok (.invokevirtual 50, 3) := by decide +kernel
theorem dX7_store_13 : decode cX7_store 13 = .ok (.iload_n 1, 1) := by decide +kernel
theorem dX7_store_14 : decode cX7_store 14 = .ok (.ifCond .lt 40, 3) := by decide +kernel
theorem dX7_store_17 : decode cX7_store 17 = .ok (.iload_n 1, 1) := by decide +kernel
theorem dX7_store_18 : decode cX7_store 18 = .ok (.bipush 100, 2) := by decide +kernel
theorem dX7_store_20 : decode cX7_store 20 = .ok (.if_icmp .ge 34, 3) := by decide +kernel
theorem dX7_store_23 : decode cX7_store 23 = .ok (.aload_n 0, 1) := by decide +kernel
theorem dX7_store_24 : decode cX7_store 24 = .ok (.getfield 12, 3) := by decide +kernel
theorem dX7_store_27 : decode cX7_store 27 = .ok (.iload_n 1, 1) := by decide +kernel
theorem dX7_store_28 : decode cX7_store 28 = .ok (.invokevirtual 53, 3) := by decide +kernel
theorem dX7_store_31 : decode cX7_store 31 = .ok (.pop, 1) := by decide +kernel
theorem dX7_store_32 : decode cX7_store 32 = .ok (.aload_n 0, 1) := by decide +kernel
theorem dX7_store_33 : decode cX7_store 33 = .ok (.getfield 25, 3) := by decide +kernel
theorem dX7_store_36 : decode cX7_store 36 = .ok (.iload_n 1, 1) := by decide +kernel
theorem dX7_store_37 : decode cX7_store 37 = .ok (.iload_n 2, 1) := by decide +kernel
theorem dX7_store_38 : decode cX7_store 38 = .ok (.iastore, 1) := by decide +kernel
theorem dX7_store_39 : decode cX7_store 39 = .ok (.aload_n 0, 1) := by decide +kernel
theorem dX7_store_40 : decode cX7_store 40 = .ok (.aload_n 0, 1) := by decide +kernel
theorem dX7_store_41 : decode cX7_store 41 = .ok (.getfield 12, 3) := by decide +kernel
theorem dX7_store_44 : decode cX7_store 44 = .ok (.aload_n 0, 1) := by decide +kernel
theorem dX7_store_45 : decode cX7_store 45 = .ok (.getfield 36, 3) := by decide +kernel
theorem dX7_store_48 : decode cX7_store 48 = .ok (.invokevirtual 56, 3) := by decide +kernel
theorem dX7_store_51 : decode cX7_store 51 = .ok (.invokevirtual 59, 3) := by decide +kernel
theorem dX7_store_54 : decode cX7_store 54 = .ok (.iload_n 3, 1) := by decide +kernel
theorem dX7_store_55 : decode cX7_store 55 = .ok (.ireturn, 1) := by decide +kernel
theorem dX7_storeIfMissing_0 : decode cX7_storeIfMissing 0 = .ok (.aload_n 0, 1) := by decide +kernel
theorem dX7_storeIfMissing_1 : decode cX7_storeIfMissing 1 = .ok (.iload_n 1, 1) := by decide +kernel
theorem dX7_storeIfMissing_2 : decode cX7_storeIfMissing 2 = .ok (.invokevirtual 47, 3) := by decide +kernel
theorem dX7_storeIfMissing_5 : decode cX7_storeIfMissing 5 = .ok (.istore_n 3, 1) := by decide +kernel
theorem dX7_storeIfMissing_6 : decode cX7_storeIfMissing 6 = .ok (.aload_n 0, 1) := by decide +kernel
theorem dX7_storeIfMissing_7 : decode cX7_storeIfMissing 7 = .ok (.iload_n 1, 1) := by decide +kernel
theorem dX7_storeIfMissing_8 : decode cX7_storeIfMissing 8 = .ok (.iload_n 3, 1) := by decide +kernel
theorem dX7_storeIfMissing_9 : decode cX7_storeIfMissing 9 = .ok (.iconst (-1), 1) := by decide +kernel
theorem dX7_storeIfMissing_10 : decode cX7_storeIfMissing 10 = .ok (.if_icmp .ne 7, 3) := by decide +kernel
theorem dX7_storeIfMissing_13 : decode cX7_storeIfMissing 13 = .ok (.iload_n 2, 1) := by decide +kernel
theorem dX7_storeIfMissing_14 : decode cX7_storeIfMissing 14 = .ok (.goto 4, 3) := by decide +kernel
theorem dX7_storeIfMissing_17 : decode cX7_storeIfMissing 17 = .ok (.iload_n 3, 1) := by decide +kernel
theorem dX7_storeIfMissing_18 : decode cX7_storeIfMissing 18 = .ok (.invokevirtual 63, 3) := by decide +kernel
theorem dX7_storeIfMissing_21 : decode cX7_storeIfMissing 21 = .ok (.ireturn, 1) := by decide +kernel
theorem dX7_fetch_0 : decode cX7_fetch 0 = .ok (.aload_n 0, 1) := by decide +kernel
theorem dX7_fetch_1 : decode cX7_fetch 1 = .ok (.iload_n 1, 1) := by decide +kernel
theorem dX7_fetch_2 : decode cX7_fetch 2 = .ok (.invokevirtual 47, 3) := by decide +kernel
theorem dX7_fetch_5 : decode cX7_fetch 5 = .ok (.istore_n 2, 1) := by decide +kernel
theorem dX7_fetch_6 : decode cX7_fetch 6 = .ok (.aload_n 0, 1) := by decide +kernel
theorem dX7_fetch_7 : decode cX7_fetch 7 = .ok (.getfield 21, 3) := by decide +kernel
theorem dX7_fetch_10 : decode cX7_fetch 10 = .ok (.invokevirtual 50, 3) := by decide +kernel
theorem dX7_fetch_13 : decode cX7_fetch 13 = .ok (.iload_n 2, 1) := by decide +kernel
theorem dX7_fetch_14 : decode cX7_fetch 14 = .ok (.iconst (-1), 1) := by decide +kernel
theorem dX7_fetch_15 : decode cX7_fetch 15 = .ok (.if_icmp .eq 12, 3) := by decide +kernel
theorem dX7_fetch_18 : decode cX7_fetch 18 = .ok (.aload_n 0, 1) := by decide +kernel
theorem dX7_fetch_19 : decode cX7_fetch 19 = .ok (.getfield 12, 3) := by decide +kernel
theorem dX7_fetch_22 : decode cX7_fetch 22 = .ok (.iload_n 1, 1) := by decide +kernel
theorem dX7_fetch_23 : decode cX7_fetch 23 = .ok (.invokevirtual 53, 3) := by decide +kernel
theorem dX7_fetch_26 : decode cX7_fetch 26 = .ok (.pop, 1) := by decide +kernel
theorem dX7_fetch_27 : decode cX7_fetch 27 = .ok (.iload_n 2, 1) := by decide +kernel
theorem dX7_fetch_28 : decode cX7_fetch 28 = .ok (.ireturn, 1) := by decide +kernel
theorem dX7_drop_0 : decode cX7_drop 0 = .ok (.aload_n 0, 1) := by decide +kernel
theorem dX7_drop_1 : decode cX7_drop 1 = .ok (.iload_n 1, 1) := by decide +kernel
theorem dX7_drop_2 : decode cX7_drop 2 = .ok (.invokevirtual 47, 3) := by decide +kernel
theorem dX7_drop_5 : decode cX7_drop 5 = .ok (.istore_n 2, 1) := by decide +kernel
theorem dX7_drop_6 : decode cX7_drop 6 = .ok (.aload_n 0, 1) := by decide +kernel
theorem dX7_drop_7 : decode cX7_drop 7 = .ok (.getfield 21, 3) := by decide +kernel
theorem dX7_drop_10 : decode cX7_drop 10 = .ok (.invokevirtual 50, 3) := by decide +kernel
theorem dX7_drop_13 : decode cX7_drop 13 = .ok (.aload_n 0, 1) := by decide +kernel
theorem dX7_drop_14 : decode cX7_drop 14 = .ok (.getfield 12, 3) := by decide +kernel
theorem dX7_drop_17 : decode cX7_drop 17 = .ok (.aload_n 0, 1) := by decide +kernel
theorem dX7_drop_18 : decode cX7_drop 18 = .ok (.getfield 12, 3) := by decide +kernel
theorem dX7_drop_21 : decode cX7_drop 21 = .ok (.iload_n 1, 1) := by decide +kernel
theorem dX7_drop_22 : decode cX7_drop 22 = .ok (.invokevirtual 67, 3) := by decide +kernel
theorem dX7_drop_25 : decode cX7_drop 25 = .ok (.invokevirtual 70, 3) := by decide +kernel
theorem dX7_drop_28 : decode cX7_drop 28 = .ok (.iload_n 2, 1) := by decide +kernel
theorem dX7_drop_29 : decode cX7_drop 29 = .ok (.ireturn, 1) := by decide +kernel
theorem dX7_dropAll_0 : decode cX7_dropAll 0 = .ok (.aload_n 0, 1) := by decide +kernel
theorem dX7_dropAll_1 : decode cX7_dropAll 1 = .ok (.getfield 12, 3) := by decide +kernel
theorem dX7_dropAll_4 : decode cX7_dropAll 4 = .ok (.invokevirtual 73, 3) := by decide +kernel
theorem dX7_dropAll_7 : decode cX7_dropAll 7 = .ok (.istore_n 1, 1) := by decide +kernel
theorem dX7_dropAll_8 : decode cX7_dropAll 8 = .ok (.aload_n 0, 1) := by decide +kernel
theorem dX7_dropAll_9 : decode cX7_dropAll 9 = .ok (.getfield 21, 3) := by decide +kernel
theorem dX7_dropAll_12 : decode cX7_dropAll 12 = .ok (.invokevirtual 50, 3) := by decide +kernel
theorem dX7_dropAll_15 : decode cX7_dropAll 15 = .ok (.aload_n 0, 1) := by decide +kernel
theorem dX7_dropAll_16 : decode cX7_dropAll 16 = .ok (.getfield 12, 3) := by decide +kernel
theorem dX7_dropAll_19 : decode cX7_dropAll 19 = .ok (.invokevirtual 77, 3) := by decide +kernel
theorem dX7_dropAll_22 : decode cX7_dropAll 22 = .ok (.iload_n 1, 1) := by decide +kernel
theorem dX7_dropAll_23 : decode cX7_dropAll 23 = .ok (.ireturn, 1) := by decide +kernel
theorem dX7_changeBound_0 : decode cX7_changeBound 0 = .ok (.aload_n 0, 1) := by decide +kernel
theorem dX7_changeBound_1 : decode cX7_changeBound 1 = .ok (.getfield 36, 3) := by decide +kernel
theorem dX7_changeBound_4 : decode cX7_changeBound 4 = .ok (.istore_n 2, 1) := by decide +kernel
theorem dX7_changeBound_5 : decode cX7_changeBound 5 = .ok (.aload_n 0, 1) := by decide +kernel
theorem dX7_changeBound_6 : decode cX7_changeBound 6 = .ok (.invokevirtual 80, 3) := by decide +kernel
theorem dX7_changeBound_9 : decode cX7_changeBound 9 = .ok (.pop, 1) := by decide +kernel
theorem dX7_changeBound_10 : decode cX7_changeBound 10 = .ok (.aload_n 0, 1) := by decide +kernel
theorem dX7_changeBound_11 : decode cX7_changeBound 11 = .ok (.iload_n 1, 1) := by decide +kernel
theorem dX7_changeBound_12 : decode cX7_changeBound 12 = .ok (.putfield 36, 3) := by decide +kernel
theorem dX7_changeBound_15 : decode cX7_changeBound 15 = .ok (.iload_n 2, 1) := by decide +kernel
theorem dX7_changeBound_16 : decode cX7_changeBound 16 = .ok (.ireturn, 1) := by decide +kernel
theorem dX7_holdsValue_0 : decode cX7_holdsValue 0 = .ok (.iconst 0, 1) := by decide +kernel
theorem dX7_holdsValue_1 : decode cX7_holdsValue 1 = .ok (.istore_n 2, 1) := by decide +kernel
theorem dX7_holdsValue_2 : decode cX7_holdsValue 2 = .ok (.iload_n 2, 1) := by decide +kernel
theorem dX7_holdsValue_3 : decode cX7_holdsValue 3 = .ok (.aload_n 0, 1) := by decide +kernel
theorem dX7_holdsValue_4 : decode cX7_holdsValue 4 = .ok (.getfield 12, 3) := by decide +kernel
theorem dX7_holdsValue_7 : decode cX7_holdsValue 7 = .ok (.invokevirtual 73, 3) := by decide +kernel
theorem dX7_holdsValue_10 : decode cX7_holdsValue 10 = .ok (.if_icmp .ge 20, 3) := by decide +kernel
theorem dX7_holdsValue_13 : decode cX7_holdsValue 13 = .ok (.aload_n 0, 1) := by decide +kernel
theorem dX7_holdsValue_14 : decode cX7_holdsValue 14 = .ok (.iload_n 2, 1) := by decide +kernel
theorem dX7_holdsValue_15 : decode cX7_holdsValue 15 = .ok (.invokevirtual 82, 3) := by decide +kernel
theorem dX7_holdsValue_18 : decode cX7_holdsValue 18 = .ok (.iload_n 1, 1) := by decide +kernel
theorem dX7_holdsValue_19 : decode cX7_holdsValue 19 = .ok (.if_icmp .ne 5, 3) := by decide +kernel
theorem dX7_holdsValue_22 : decode cX7_holdsValue 22 = .ok (.iconst 1, 1) := by decide +kernel
theorem dX7_holdsValue_23 : decode cX7_holdsValue 23 = .ok (.ireturn, 1) := by decide +kernel
theorem dX7_holdsValue_24 : decode cX7_holdsValue 24 = .ok (.iinc 2 1, 3) := by decide +kernel
theorem dX7_holdsValue_27 : decode cX7_holdsValue 27 = .ok (.goto (-25), 3) := by decide +kernel
theorem dX7_holdsValue_30 : decode cX7_holdsValue 30 = .ok (.iconst 0, 1) := by decide +kernel
theorem dX7_holdsValue_31 : decode cX7_holdsValue 31 = .ok (.ireturn, 1) := by decide +kernel
theorem dX7_total_0 : decode cX7_total 0 = .ok (.iconst 0, 1) := by decide +kernel
theorem dX7_total_1 : decode cX7_total 1 = .ok (.istore_n 1, 1) := by decide +kernel
theorem dX7_total_2 : decode cX7_total 2 = .ok (.iconst 0, 1) := by decide +kernel
theorem dX7_total_3 : decode cX7_total 3 = .ok (.istore_n 2, 1) := by decide +kernel
theorem dX7_total_4 : decode cX7_total 4 = .ok (.iload_n 2, 1) := by decide +kernel
theorem dX7_total_5 : decode cX7_total 5 = .ok (.aload_n 0, 1) := by decide +kernel
theorem dX7_total_6 : decode cX7_total 6 = .ok (.getfield 12, 3) := by decide +kernel
theorem dX7_total_9 : decode cX7_total 9 = .ok (.invokevirtual 73, 3) := by decide +kernel
theorem dX7_total_12 : decode cX7_total 12 = .ok (.if_icmp .ge 17, 3) := by decide +kernel
theorem dX7_total_15 : decode cX7_total 15 = .ok (.iload_n 1, 1) := by decide +kernel
theorem dX7_total_16 : decode cX7_total 16 = .ok (.aload_n 0, 1) := by decide +kernel
theorem dX7_total_17 : decode cX7_total 17 = .ok (.iload_n 2, 1) := by decide +kernel
theorem dX7_total_18 : decode cX7_total 18 = .ok (.invokevirtual 82, 3) := by decide +kernel
theorem dX7_total_21 : decode cX7_total 21 = .ok (.iadd, 1) := by decide +kernel
theorem dX7_total_22 : decode cX7_total 22 = .ok (.istore_n 1, 1) := by decide +kernel
theorem dX7_total_23 : decode cX7_total 23 = .ok (.iinc 2 1, 3) := by decide +kernel
theorem dX7_total_26 : decode cX7_total 26 = .ok (.goto (-22), 3) := by decide +kernel
theorem dX7_total_29 : decode cX7_total 29 = .ok (.iload_n 1, 1) := by decide +kernel
theorem dX7_total_30 : decode cX7_total 30 = .ok (.ireturn, 1) := by decide +kernel
theorem dX7_recordOut_0 : decode cX7_recordOut 0 = .ok (.iload_n 1, 1) := by decide +kernel
theorem dX7_recordOut_1 : decode cX7_recordOut 1 = .ok (.iconst (-1), 1) := by decide +kernel
theorem dX7_recordOut_2 : decode cX7_recordOut 2 = .ok (.if_icmp .eq 18, 3) := by decide +kernel
theorem dX7_recordOut_5 : decode cX7_recordOut 5 = .ok (.aload_n 0, 1) := by decide +kernel
theorem dX7_recordOut_6 : decode cX7_recordOut 6 = .ok (.dup, 1) := by decide +kernel
theorem dX7_recordOut_7 : decode cX7_recordOut 7 = .ok (.getfield 29, 3) := by decide +kernel
theorem dX7_recordOut_10 : decode cX7_recordOut 10 = .ok (.iconst 1, 1) := by decide +kernel
theorem dX7_recordOut_11 : decode cX7_recordOut 11 = .ok (.iadd, 1) := by decide +kernel
theorem dX7_recordOut_12 : decode cX7_recordOut 12 = .ok (.putfield 29, 3) := by decide +kernel
theorem dX7_recordOut_15 : decode cX7_recordOut 15 = .ok (.aload_n 0, 1) := by decide +kernel
theorem dX7_recordOut_16 : decode cX7_recordOut 16 = .ok (.iload_n 1, 1) := by decide +kernel
theorem dX7_recordOut_17 : decode cX7_recordOut 17 = .ok (.putfield 33, 3) := by decide +kernel
theorem dX7_recordOut_20 : decode cX7_recordOut 20 = .ok (.return_, 1) := by decide +kernel
theorem dX8_init_0 : decode cX8_init 0 = .ok (.aload_n 0, 1) := by decide +kernel
theorem dX8_init_1 : decode cX8_init 1 = .ok (.invokespecial 3, 3) := by decide +kernel
theorem dX8_init_4 : decode cX8_init 4 = .ok (.aload_n 0, 1) := by decide +kernel
theorem dX8_init_5 : decode cX8_init 5 = .ok (.bipush 100, 2) := by decide +kernel
theorem dX8_init_7 : decode cX8_init 7 = .ok (.newarray .int, 2) := by decide +kernel
theorem dX8_init_9 : decode cX8_init 9 = .ok (.putfield 9, 3) := by decide +kernel
theorem dX8_init_12 : decode cX8_init 12 = .ok (.aload_n 0, 1) := by decide +kernel
theorem dX8_init_13 : decode cX8_init 13 = .ok (.iconst 0, 1) := by decide +kernel
theorem dX8_init_14 : decode cX8_init 14 = .ok (.putfield 15, 3) := by decide +kernel
theorem dX8_init_17 : decode cX8_init 17 = .ok (.return_, 1) := by decide +kernel
theorem dX8_length_0 : decode cX8_length 0 = .ok (.aload_n 0, 1) := by decide +kernel
theorem dX8_length_1 : decode cX8_length 1 = .ok (.getfield 15, 3) := by decide +kernel
theorem dX8_length_4 : decode cX8_length 4 = .ok (.ireturn, 1) := by decide +kernel
theorem dX8_keyIn_0 : decode cX8_keyIn 0 = .ok (.iload_n 1, 1) := by decide +kernel
theorem dX8_keyIn_1 : decode cX8_keyIn 1 = .ok (.ifCond .lt 20, 3) := by decide +kernel
theorem dX8_keyIn_4 : decode cX8_keyIn 4 = .ok (.iload_n 1, 1) := by decide +kernel
theorem dX8_keyIn_5 : decode cX8_keyIn 5 = .ok (.aload_n 0, 1) := by decide +kernel
theorem dX8_keyIn_6 : decode cX8_keyIn 6 = .ok (.getfield 15, 3) := by decide +kernel
theorem dX8_keyIn_9 : decode cX8_keyIn 9 = .ok (.if_icmp .ge 12, 3) := by decide +kernel
theorem dX8_keyIn_12 : decode cX8_keyIn 12 = .ok (.aload_n 0, 1) := by decide +kernel
theorem dX8_keyIn_13 : decode cX8_keyIn 13 = .ok (.getfield 9, 3) := by decide +kernel
theorem dX8_keyIn_16 : decode cX8_keyIn 16 = .ok (.iload_n 1, 1) := by decide +kernel
theorem dX8_keyIn_17 : decode cX8_keyIn 17 = .ok (.iaload, 1) := by decide +kernel
theorem dX8_keyIn_18 : decode cX8_keyIn 18 = .ok (.goto 4, 3) := by decide +kernel
theorem dX8_keyIn_21 : decode cX8_keyIn 21 = .ok (.iconst (-1), 1) := by decide +kernel
theorem dX8_keyIn_22 : decode cX8_keyIn 22 = .ok (.ireturn, 1) := by decide +kernel
theorem dX8_find_0 : decode cX8_find 0 = .ok (.iconst 0, 1) := by decide +kernel
theorem dX8_find_1 : decode cX8_find 1 = .ok (.istore_n 2, 1) := by decide +kernel
theorem dX8_find_2 : decode cX8_find 2 = .ok (.iload_n 2, 1) := by decide +kernel
theorem dX8_find_3 : decode cX8_find 3 = .ok (.aload_n 0, 1) := by decide +kernel
theorem dX8_find_4 : decode cX8_find 4 = .ok (.getfield 15, 3) := by decide +kernel
theorem dX8_find_7 : decode cX8_find 7 = .ok (.if_icmp .ge 21, 3) := by decide +kernel
theorem dX8_find_10 : decode cX8_find 10 = .ok (.aload_n 0, 1) := by decide +kernel
theorem dX8_find_11 : decode cX8_find 11 = .ok (.getfield 9, 3) := by decide +kernel
theorem dX8_find_14 : decode cX8_find 14 = .ok (.iload_n 2, 1) := by decide +kernel
theorem dX8_find_15 : decode cX8_find 15 = .ok (.iaload, 1) := by decide +kernel
theorem dX8_find_16 : decode cX8_find 16 = .ok (.iload_n 1, 1) := by decide +kernel
theorem dX8_find_17 : decode cX8_find 17 = .ok (.if_icmp .ne 5, 3) := by decide +kernel
theorem dX8_find_20 : decode cX8_find 20 = .ok (.iload_n 2, 1) := by decide +kernel
theorem dX8_find_21 : decode cX8_find 21 = .ok (.ireturn, 1) := by decide +kernel
theorem dX8_find_22 : decode cX8_find 22 = .ok (.iinc 2 1, 3) := by decide +kernel
theorem dX8_find_25 : decode cX8_find 25 = .ok (.goto (-23), 3) := by decide +kernel
theorem dX8_find_28 : decode cX8_find 28 = .ok (.iconst (-1), 1) := by decide +kernel
theorem dX8_find_29 : decode cX8_find 29 = .ok (.ireturn, 1) := by decide +kernel
theorem dX8_holds_0 : decode cX8_holds 0 = .ok (.aload_n 0, 1) := by decide +kernel
theorem dX8_holds_1 : decode cX8_holds 1 = .ok (.iload_n 1, 1) := by decide +kernel
theorem dX8_holds_2 : decode cX8_holds 2 = .ok (.invokevirtual 19, 3) := by decide +kernel
theorem dX8_holds_5 : decode cX8_holds 5 = .ok (.iconst (-1), 1) := by decide +kernel
theorem dX8_holds_6 : decode cX8_holds 6 = .ok (.if_icmp .eq 7, 3) := by decide +kernel
theorem dX8_holds_9 : decode cX8_holds 9 = .ok (.iconst 1, 1) := by decide +kernel
theorem dX8_holds_10 : decode cX8_holds 10 = .ok (.goto 4, 3) := by decide +kernel
theorem dX8_holds_13 : decode cX8_holds 13 = .ok (.iconst 0, 1) := by decide +kernel
theorem dX8_holds_14 : decode cX8_holds 14 = .ok (.ireturn, 1) := by decide +kernel
theorem dX8_use_0 : decode cX8_use 0 = .ok (.aload_n 0, 1) := by decide +kernel
theorem dX8_use_1 : decode cX8_use 1 = .ok (.iload_n 1, 1) := by decide +kernel
theorem dX8_use_2 : decode cX8_use 2 = .ok (.invokevirtual 19, 3) := by decide +kernel
theorem dX8_use_5 : decode cX8_use 5 = .ok (.istore_n 2, 1) := by decide +kernel
theorem dX8_use_6 : decode cX8_use 6 = .ok (.aload_n 0, 1) := by decide +kernel
theorem dX8_use_7 : decode cX8_use 7 = .ok (.iload_n 2, 1) := by decide +kernel
theorem dX8_use_8 : decode cX8_use 8 = .ok (.invokevirtual 23, 3) := by decide +kernel
theorem dX8_use_11 : decode cX8_use 11 = .ok (.aload_n 0, 1) := by decide +kernel
theorem dX8_use_12 : decode cX8_use 12 = .ok (.getfield 15, 3) := by decide +kernel
theorem dX8_use_15 : decode cX8_use 15 = .ok (.bipush 100, 2) := by decide +kernel
theorem dX8_use_17 : decode cX8_use 17 = .ok (.if_icmp .ge 23, 3) := by decide +kernel
theorem dX8_use_20 : decode cX8_use 20 = .ok (.aload_n 0, 1) := by decide +kernel
theorem dX8_use_21 : decode cX8_use 21 = .ok (.getfield 9, 3) := by decide +kernel
theorem dX8_use_24 : decode cX8_use 24 = .ok (.aload_n 0, 1) := by decide +kernel
theorem dX8_use_25 : decode cX8_use 25 = .ok (.getfield 15, 3) := by decide +kernel
theorem dX8_use_28 : decode cX8_use 28 = .ok (.iload_n 1, 1) := by decide +kernel
theorem dX8_use_29 : decode cX8_use 29 = .ok (.iastore, 1) := by decide +kernel
theorem dX8_use_30 : decode cX8_use 30 = .ok (.aload_n 0, 1) := by decide +kernel
theorem dX8_use_31 : decode cX8_use 31 = .ok (.dup, 1) := by decide +kernel
theorem dX8_use_32 : decode cX8_use 32 = .ok (.getfield 15, 3) := by decide +kernel
theorem dX8_use_35 : decode cX8_use 35 = .ok (.iconst 1, 1) := by decide +kernel
theorem dX8_use_36 : decode cX8_use 36 = .ok (.iadd, 1) := by decide +kernel
theorem dX8_use_37 : decode cX8_use 37 = .ok (.putfield 15, 3) := by decide +kernel
theorem dX8_use_40 : decode cX8_use 40 = .ok (.iload_n 2, 1) := by decide +kernel
theorem dX8_use_41 : decode cX8_use 41 = .ok (.iconst (-1), 1) := by decide +kernel
theorem dX8_use_42 : decode cX8_use 42 = .ok (.if_icmp .eq 7, 3) := by decide +kernel
theorem dX8_use_45 : decode cX8_use 45 = .ok (.iconst 1, 1) := by decide +kernel
theorem dX8_use_46 : decode cX8_use 46 = .ok (.goto 4, 3) := by decide +kernel
theorem dX8_use_49 : decode cX8_use 49 = .ok (.iconst 0, 1) := by decide +kernel
theorem dX8_use_50 : decode cX8_use 50 = .ok (.ireturn, 1) := by decide +kernel
theorem dX8_dropIn_0 : decode cX8_dropIn 0 = .ok (.iload_n 1, 1) := by decide +kernel
theorem dX8_dropIn_1 : decode cX8_dropIn 1 = .ok (.ifCond .lt 11, 3) := by decide +kernel
theorem dX8_dropIn_4 : decode cX8_dropIn 4 = .ok (.iload_n 1, 1) := by decide +kernel
theorem dX8_dropIn_5 : decode cX8_dropIn 5 = .ok (.aload_n 0, 1) := by decide +kernel
theorem dX8_dropIn_6 : decode cX8_dropIn 6 = .ok (.getfield 15, 3) := by decide +kernel
theorem dX8_dropIn_9 : decode cX8_dropIn 9 = .ok (.if_icmp .lt 4, 3) := by decide +kernel
theorem dX8_dropIn_12 : decode cX8_dropIn 12 = .ok (.return_, 1) := by decide +kernel
theorem dX8_dropIn_13 : decode cX8_dropIn 13 = .ok (.aload_n 0, 1) := by decide +kernel
theorem dX8_dropIn_14 : decode cX8_dropIn 14 = .ok (.dup, 1) := by decide +kernel
theorem dX8_dropIn_15 : decode cX8_dropIn 15 = .ok (.getfield 15, 3) := by decide +kernel
theorem dX8_dropIn_18 : decode cX8_dropIn 18 = .ok (.iconst 1, 1) := by decide +kernel
theorem dX8_dropIn_19 : decode cX8_dropIn 19 = .ok (.isub, 1) := by decide +kernel
theorem dX8_dropIn_20 : decode cX8_dropIn 20 = .ok (.putfield 15, 3) := by decide +kernel
theorem dX8_dropIn_23 : decode cX8_dropIn 23 = .ok (.iload_n 1, 1) := by decide +kernel
theorem dX8_dropIn_24 : decode cX8_dropIn 24 = .ok (.istore_n 2, 1) := by decide +kernel
theorem dX8_dropIn_25 : decode cX8_dropIn 25 = .ok (.iload_n 2, 1) := by decide +kernel
theorem dX8_dropIn_26 : decode cX8_dropIn 26 = .ok (.aload_n 0, 1) := by decide +kernel
theorem dX8_dropIn_27 : decode cX8_dropIn 27 = .ok (.getfield 15, 3) := by decide +kernel
theorem dX8_dropIn_30 : decode cX8_dropIn 30 = .ok (.if_icmp .ge 23, 3) := by decide +kernel
theorem dX8_dropIn_33 : decode cX8_dropIn 33 = .ok (.aload_n 0, 1) := by decide +kernel
theorem dX8_dropIn_34 : decode cX8_dropIn 34 = .ok (.getfield 9, 3) := by decide +kernel
theorem dX8_dropIn_37 : decode cX8_dropIn 37 = .ok (.iload_n 2, 1) := by decide +kernel
theorem dX8_dropIn_38 : decode cX8_dropIn 38 = .ok (.aload_n 0, 1) := by decide +kernel
theorem dX8_dropIn_39 : decode cX8_dropIn 39 = .ok (.getfield 9, 3) := by decide +kernel
theorem dX8_dropIn_42 : decode cX8_dropIn 42 = .ok (.iload_n 2, 1) := by decide +kernel
theorem dX8_dropIn_43 : decode cX8_dropIn 43 = .ok (.iconst 1, 1) := by decide +kernel
theorem dX8_dropIn_44 : decode cX8_dropIn 44 = .ok (.iadd, 1) := by decide +kernel
theorem dX8_dropIn_45 : decode cX8_dropIn 45 = .ok (.iaload, 1) := by decide +kernel
theorem dX8_dropIn_46 : decode cX8_dropIn 46 = .ok (.iastore, 1) := by decide +kernel
theorem dX8_dropIn_47 : decode cX8_dropIn 47 = .ok (.iinc 2 1, 3) := by decide +kernel
theorem dX8_dropIn_50 : decode cX8_dropIn 50 = .ok (.goto (-25), 3) := by decide +kernel
theorem dX8_dropIn_53 : decode cX8_dropIn 53 = .ok (.return_, 1) := by decide +kernel
theorem dX8_dropBeyond_0 : decode cX8_dropBeyond 0 = .ok (.aload_n 0, 1) := by decide +kernel
theorem dX8_dropBeyond_1 : decode cX8_dropBeyond 1 = .ok (.getfield 15, 3) := by decide +kernel
theorem dX8_dropBeyond_4 : decode cX8_dropBeyond 4 = .ok (.iload_n 1, 1) := by decide +kernel
theorem dX8_dropBeyond_5 : decode cX8_dropBeyond 5 = .ok (.if_icmp .gt 5, 3) := by decide +kernel
theorem dX8_dropBeyond_8 : decode cX8_dropBeyond 8 = .ok (.iconst (-1), 1) := by decide +kernel
theorem dX8_dropBeyond_9 : decode cX8_dropBeyond 9 = .ok (.ireturn, 1) := by decide +kernel
theorem dX8_dropBeyond_10 : decode cX8_dropBeyond 10 = .ok (.aload_n 0, 1) := by decide +kernel
theorem dX8_dropBeyond_11 : decode cX8_dropBeyond 11 = .ok (.iconst 0, 1) := by decide +kernel
theorem dX8_dropBeyond_12 : decode cX8_dropBeyond 12 = .ok (.invokevirtual 27, 3) := by decide +kernel
theorem dX8_dropBeyond_15 : decode cX8_dropBeyond 15 = .ok (.istore_n 2, 1) := by decide +kernel
theorem dX8_dropBeyond_16 : decode cX8_dropBeyond 16 = .ok (.aload_n 0, 1) := by decide +kernel
theorem dX8_dropBeyond_17 : decode cX8_dropBeyond 17 = .ok (.iconst 0, 1) := by decide +kernel
theorem dX8_dropBeyond_18 : decode cX8_dropBeyond 18 = .ok (.invokevirtual 23, 3) := by decide +kernel
theorem dX8_dropBeyond_21 : decode cX8_dropBeyond 21 = .ok (.iload_n 2, 1) := by decide +kernel
theorem dX8_dropBeyond_22 : decode cX8_dropBeyond 22 = .ok (.ireturn, 1) := by decide +kernel
theorem dX8_dropAll_0 : decode cX8_dropAll 0 = .ok (.aload_n 0, 1) := by decide +kernel
theorem dX8_dropAll_1 : decode cX8_dropAll 1 = .ok (.iconst 0, 1) := by decide +kernel
theorem dX8_dropAll_2 : decode cX8_dropAll 2 = .ok (.putfield 15, 3) := by decide +kernel
theorem dX8_dropAll_5 : decode cX8_dropAll 5 = .ok (.return_, 1) := by decide +kernel
theorem dX9_init_0 : decode cX9_init 0 = .ok (.aload_n 0, 1) := by decide +kernel
theorem dX9_init_1 : decode cX9_init 1 = .ok (.invokespecial 1, 3) := by decide +kernel
theorem dX9_init_4 : decode cX9_init 4 = .ok (.aload_n 0, 1) := by decide +kernel
theorem dX9_init_5 : decode cX9_init 5 = .ok (.new 7, 3) := by decide +kernel
theorem dX9_init_8 : decode cX9_init 8 = .ok (.dup, 1) := by decide +kernel
theorem dX9_init_9 : decode cX9_init 9 = .ok (.bipush 100, 2) := by decide +kernel
theorem dX9_init_11 : decode cX9_init 11 = .ok (.invokespecial 11, 3) := by decide +kernel
theorem dX9_init_14 : decode cX9_init 14 = .ok (.putfield 14, 3) := by decide +kernel
theorem dX9_init_17 : decode cX9_init 17 = .ok (.aload_n 0, 1) := by decide +kernel
theorem dX9_init_18 : decode cX9_init 18 = .ok (.new 7, 3) := by decide +kernel
theorem dX9_init_21 : decode cX9_init 21 = .ok (.dup, 1) := by decide +kernel
theorem dX9_init_22 : decode cX9_init 22 = .ok (.iconst 4, 1) := by decide +kernel
theorem dX9_init_23 : decode cX9_init 23 = .ok (.invokespecial 11, 3) := by decide +kernel
theorem dX9_init_26 : decode cX9_init 26 = .ok (.putfield 18, 3) := by decide +kernel
theorem dX9_init_29 : decode cX9_init 29 = .ok (.aload_n 0, 1) := by decide +kernel
theorem dX9_init_30 : decode cX9_init 30 = .ok (.bipush 8, 2) := by decide +kernel
theorem dX9_init_32 : decode cX9_init 32 = .ok (.anewarray 21, 3) := by decide +kernel
theorem dX9_init_35 : decode cX9_init 35 = .ok (.putfield 23, 3) := by decide +kernel
theorem dX9_init_38 : decode cX9_init 38 = .ok (.aload_n 0, 1) := by decide +kernel
theorem dX9_init_39 : decode cX9_init 39 = .ok (.new 27, 3) := by decide +kernel
theorem dX9_init_42 : decode cX9_init 42 = .ok (.dup, 1) := by decide +kernel
theorem dX9_init_43 : decode cX9_init 43 = .ok (.invokespecial 29, 3) := by decide +kernel
theorem dX9_init_46 : decode cX9_init 46 = .ok (.putfield 30, 3) := by decide +kernel
theorem dX9_init_49 : decode cX9_init 49 = .ok (.aload_n 0, 1) := by decide +kernel
theorem dX9_init_50 : decode cX9_init 50 = .ok (.new 34, 3) := by decide +kernel
theorem dX9_init_53 : decode cX9_init 53 = .ok (.dup, 1) := by decide +kernel
theorem dX9_init_54 : decode cX9_init 54 = .ok (.invokespecial 36, 3) := by decide +kernel
theorem dX9_init_57 : decode cX9_init 57 = .ok (.putfield 37, 3) := by decide +kernel
theorem dX9_init_60 : decode cX9_init 60 = .ok (.aload_n 0, 1) := by decide +kernel
theorem dX9_init_61 : decode cX9_init 61 = .ok (.new 41, 3) := by decide +kernel
theorem dX9_init_64 : decode cX9_init 64 = .ok (.dup, 1) := by decide +kernel
theorem dX9_init_65 : decode cX9_init 65 = .ok (.invokespecial 43, 3) := by decide +kernel
theorem dX9_init_68 : decode cX9_init 68 = .ok (.putfield 44, 3) := by decide +kernel
theorem dX9_init_71 : decode cX9_init 71 = .ok (.aload_n 0, 1) := by decide +kernel
theorem dX9_init_72 : decode cX9_init 72 = .ok (.iconst (-1), 1) := by decide +kernel
theorem dX9_init_73 : decode cX9_init 73 = .ok (.putfield 48, 3) := by decide +kernel
theorem dX9_init_76 : decode cX9_init 76 = .ok (.iconst 0, 1) := by decide +kernel
theorem dX9_init_77 : decode cX9_init 77 = .ok (.istore_n 1, 1) := by decide +kernel
theorem dX9_init_78 : decode cX9_init 78 = .ok (.iload_n 1, 1) := by decide +kernel
theorem dX9_init_79 : decode cX9_init 79 = .ok (.bipush 8, 2) := by decide +kernel
theorem dX9_init_81 : decode cX9_init 81 = .ok (.if_icmp .ge 25, 3) := by decide +kernel
theorem dX9_init_84 : decode cX9_init 84 = .ok (.aload_n 0, 1) := by decide +kernel
theorem dX9_init_85 : decode cX9_init 85 = .ok (.getfield 23, 3) := by decide +kernel
theorem dX9_init_88 : decode cX9_init 88 = .ok (.iload_n 1, 1) := by decide +kernel
theorem dX9_init_89 : decode cX9_init 89 = .ok (.new 21, 3) := by decide +kernel
theorem dX9_init_92 : decode cX9_init 92 = .ok (.dup, 1) := by decide +kernel
theorem dX9_init_93 : decode cX9_init 93 = .ok (.iload_n 1, 1) := by decide +kernel
theorem dX9_init_94 : decode cX9_init 94 = .ok (.iconst 1, 1) := by decide +kernel
theorem dX9_init_95 : decode cX9_init 95 = .ok (.iadd, 1) := by decide +kernel
theorem dX9_init_96 : decode cX9_init 96 = .ok (.invokespecial 52, 3) := by decide +kernel
theorem dX9_init_99 : decode cX9_init 99 = .ok (.aastore, 1) := by decide +kernel
theorem dX9_init_100 : decode cX9_init 100 = .ok (.iinc 1 1, 3) := by decide +kernel
theorem dX9_init_103 : decode cX9_init 103 = .ok (.goto (-25), 3) := by decide +kernel
theorem dX9_init_106 : decode cX9_init 106 = .ok (.return_, 1) := by decide +kernel
theorem dX9_put_0 : decode cX9_put 0 = .ok (.aload_n 0, 1) := by decide +kernel
theorem dX9_put_1 : decode cX9_put 1 = .ok (.iload_n 1, 1) := by decide +kernel
theorem dX9_put_2 : decode cX9_put 2 = .ok (.invokevirtual 53, 3) := by decide +kernel
theorem dX9_put_5 : decode cX9_put 5 = .ok (.astore 4, 2) := by decide +kernel
theorem dX9_put_7 : decode cX9_put 7 = .ok (.iload_n 2, 1) := by decide +kernel
theorem dX9_put_8 : decode cX9_put 8 = .ok (.invokestatic 57, 3) := by decide +kernel
theorem dX9_put_11 : decode cX9_put 11 = .ok (.iload_n 3, 1) := by decide +kernel
theorem dX9_put_12 : decode cX9_put 12 = .ok (.invokestatic 60, 3) := by decide +kernel
theorem dX9_put_15 : decode cX9_put 15 = .ok (.aload 4, 2) := by decide +kernel
theorem dX9_put_17 : decode cX9_put 17 = .ok (.iload_n 2, 1) := by decide +kernel
theorem dX9_put_18 : decode cX9_put 18 = .ok (.iload_n 3, 1) := by decide +kernel
theorem dX9_put_19 : decode cX9_put 19 = .ok (.invokevirtual 63, 3) := by decide +kernel
theorem dX9_put_22 : decode cX9_put 22 = .ok (.ireturn, 1) := by decide +kernel
theorem dX9_putIfAbsent_0 : decode cX9_putIfAbsent 0 = .ok (.aload_n 0, 1) := by decide +kernel
theorem dX9_putIfAbsent_1 : decode cX9_putIfAbsent 1 = .ok (.iload_n 1, 1) := by decide +kernel
theorem dX9_putIfAbsent_2 : decode cX9_putIfAbsent 2 = .ok (.invokevirtual 53, 3) := by decide +kernel
theorem dX9_putIfAbsent_5 : decode cX9_putIfAbsent 5 = .ok (.astore 4, 2) := by decide +kernel
theorem dX9_putIfAbsent_7 : decode cX9_putIfAbsent 7 = .ok (.iload_n 2, 1) := by decide +kernel
theorem dX9_putIfAbsent_8 : decode cX9_putIfAbsent 8 = .ok (.invokestatic 57, 3) := by decide +kernel
theorem dX9_putIfAbsent_11 : decode cX9_putIfAbsent 11 = .ok (.iload_n 3, 1) := by decide +kernel
theorem dX9_putIfAbsent_12 : decode cX9_putIfAbsent 12 = .ok (.invokestatic 60, 3) := by decide +kernel
theorem dX9_putIfAbsent_15 : decode cX9_putIfAbsent 15 = .ok (.aload 4, 2) := by decide +kernel
theorem dX9_putIfAbsent_17 : decode cX9_putIfAbsent 17 = .ok (.iload_n 2, 1) := by decide +kernel
theorem dX9_putIfAbsent_18 : decode cX9_putIfAbsent 18 = .ok (.iload_n 3, 1) := by decide +kernel
theorem dX9_putIfAbsent_19 : decode cX9_putIfAbsent 19 = .ok (.invokevirtual 67, 3) := by decide +kernel
theorem dX9_putIfAbsent_22 : decode cX9_putIfAbsent 22 = .ok (.ireturn, 1) := by decide +kernel
theorem dX9_get_0 : decode cX9_get 0 = .ok (.aload_n 0, 1) := by decide +kernel
theorem dX9_get_1 : decode cX9_get 1 = .ok (.iload_n 1, 1) := by decide +kernel
theorem dX9_get_2 : decode cX9_get 2 = .ok (.invokevirtual 53, 3) := by decide +kernel
theorem dX9_get_5 : decode cX9_get 5 = .ok (.astore_n 3, 1) := by decide +kernel
theorem dX9_get_6 : decode cX9_get 6 = .ok (.iload_n 2, 1) := by decide +kernel
theorem dX9_get_7 : decode cX9_get 7 = .ok (.invokestatic 57, 3) := by decide +kernel
theorem dX9_get_10 : decode cX9_get 10 = .ok (.aload_n 3, 1) := by decide +kernel
theorem dX9_get_11 : decode cX9_get 11 = .ok (.iload_n 2, 1) := by decide +kernel
theorem dX9_get_12 : decode cX9_get 12 = .ok (.invokevirtual 70, 3) := by decide +kernel
theorem dX9_get_15 : decode cX9_get 15 = .ok (.ireturn, 1) := by decide +kernel
theorem dX9_getOrDefault_0 : decode cX9_getOrDefault 0 = .ok (.aload_n 0, 1) := by decide +kernel
theorem dX9_getOrDefault_1 : decode cX9_getOrDefault 1 = .ok (.iload_n 1, 1) := by decide +kernel
theorem dX9_getOrDefault_2 : decode cX9_getOrDefault 2 = .ok (.invokevirtual 53, 3) := by decide +kernel
theorem dX9_getOrDefault_5 : decode cX9_getOrDefault 5 = .ok (.astore 4, 2) := by decide +kernel
theorem dX9_getOrDefault_7 : decode cX9_getOrDefault 7 = .ok (.iload_n 2, 1) := by decide +kernel
theorem dX9_getOrDefault_8 : decode cX9_getOrDefault 8 = .ok (.invokestatic 57, 3) := by decide +kernel
theorem dX9_getOrDefault_11 : decode cX9_getOrDefault 11 = .ok (.aload 4, 2) := by decide +kernel
theorem dX9_getOrDefault_13 : decode cX9_getOrDefault 13 = .ok (.iload_n 2, 1) := by decide +kernel
theorem dX9_getOrDefault_14 : decode cX9_getOrDefault 14 = .ok (.invokevirtual 70, 3) := by decide +kernel
theorem dX9_getOrDefault_17 : decode cX9_getOrDefault 17 = .ok (.istore 5, 2) := by decide +kernel
theorem dX9_getOrDefault_19 : decode cX9_getOrDefault 19 = .ok (.iload 5, 2) := by decide +kernel
theorem dX9_getOrDefault_21 : decode cX9_getOrDefault 21 = .ok (.iconst (-1), 1) := by decide +kernel
theorem dX9_getOrDefault_22 : decode cX9_getOrDefault 22 = .ok (.if_icmp .ne 7, 3) := by decide +kernel
theorem dX9_getOrDefault_25 : decode cX9_getOrDefault 25 = .ok (.iload_n 3, 1) := by decide +kernel
theorem dX9_getOrDefault_26 : decode cX9_getOrDefault 26 = .ok (.goto 5, 3) := by decide +kernel
theorem dX9_getOrDefault_29 : decode cX9_getOrDefault 29 = .ok (.iload 5, 2) := by decide +kernel
theorem dX9_getOrDefault_31 : decode cX9_getOrDefault 31 = .ok (.ireturn, 1) := by decide +kernel
theorem dX9_remove_0 : decode cX9_remove 0 = .ok (.aload_n 0, 1) := by decide +kernel
theorem dX9_remove_1 : decode cX9_remove 1 = .ok (.iload_n 1, 1) := by decide +kernel
theorem dX9_remove_2 : decode cX9_remove 2 = .ok (.invokevirtual 53, 3) := by decide +kernel
theorem dX9_remove_5 : decode cX9_remove 5 = .ok (.astore_n 3, 1) := by decide +kernel
theorem dX9_remove_6 : decode cX9_remove 6 = .ok (.iload_n 2, 1) := by decide +kernel
theorem dX9_remove_7 : decode cX9_remove 7 = .ok (.invokestatic 57, 3) := by decide +kernel
theorem dX9_remove_10 : decode cX9_remove 10 = .ok (.aload_n 3, 1) := by decide +kernel
theorem dX9_remove_11 : decode cX9_remove 11 = .ok (.iload_n 2, 1) := by decide +kernel
theorem dX9_remove_12 : decode cX9_remove 12 = .ok (.invokevirtual 74, 3) := by decide +kernel
theorem dX9_remove_15 : decode cX9_remove 15 = .ok (.ireturn, 1) := by decide +kernel
theorem dX9_clear_0 : decode cX9_clear 0 = .ok (.aload_n 0, 1) := by decide +kernel
theorem dX9_clear_1 : decode cX9_clear 1 = .ok (.iload_n 1, 1) := by decide +kernel
theorem dX9_clear_2 : decode cX9_clear 2 = .ok (.invokevirtual 53, 3) := by decide +kernel
theorem dX9_clear_5 : decode cX9_clear 5 = .ok (.invokevirtual 77, 3) := by decide +kernel
theorem dX9_clear_8 : decode cX9_clear 8 = .ok (.ireturn, 1) := by decide +kernel
theorem dX9_setBound_0 : decode cX9_setBound 0 = .ok (.iload_n 1, 1) := by decide +kernel
theorem dX9_setBound_1 : decode cX9_setBound 1 = .ok (.iconst 1, 1) := by decide +kernel
theorem dX9_setBound_2 : decode cX9_setBound 2 = .ok (.bipush 20, 2) := by decide +kernel
theorem dX9_setBound_4 : decode cX9_setBound 4 = .ok (.invokestatic 81, 3) := by decide +kernel
theorem dX9_setBound_7 : decode cX9_setBound 7 = .ok (.aload_n 0, 1) := by decide +kernel
theorem dX9_setBound_8 : decode cX9_setBound 8 = .ok (.getfield 18, 3) := by decide +kernel
theorem dX9_setBound_11 : decode cX9_setBound 11 = .ok (.iload_n 1, 1) := by decide +kernel
theorem dX9_setBound_12 : decode cX9_setBound 12 = .ok (.invokevirtual 85, 3) := by decide +kernel
theorem dX9_setBound_15 : decode cX9_setBound 15 = .ok (.ireturn, 1) := by decide +kernel
theorem dX9_hasKey_0 : decode cX9_hasKey 0 = .ok (.aload_n 0, 1) := by decide +kernel
theorem dX9_hasKey_1 : decode cX9_hasKey 1 = .ok (.iload_n 1, 1) := by decide +kernel
theorem dX9_hasKey_2 : decode cX9_hasKey 2 = .ok (.invokevirtual 53, 3) := by decide +kernel
theorem dX9_hasKey_5 : decode cX9_hasKey 5 = .ok (.astore_n 3, 1) := by decide +kernel
theorem dX9_hasKey_6 : decode cX9_hasKey 6 = .ok (.iload_n 2, 1) := by decide +kernel
theorem dX9_hasKey_7 : decode cX9_hasKey 7 = .ok (.invokestatic 57, 3) := by decide +kernel
theorem dX9_hasKey_10 : decode cX9_hasKey 10 = .ok (.aload_n 3, 1) := by decide +kernel
theorem dX9_hasKey_11 : decode cX9_hasKey 11 = .ok (.iload_n 2, 1) := by decide +kernel
theorem dX9_hasKey_12 : decode cX9_hasKey 12 = .ok (.invokevirtual 88, 3) := by decide +kernel
theorem dX9_hasKey_15 : decode cX9_hasKey 15 = .ok (.iconst (-1), 1) := by decide +kernel
theorem dX9_hasKey_16 : decode cX9_hasKey 16 = .ok (.if_icmp .eq 7, 3) := by decide +kernel
theorem dX9_hasKey_19 : decode cX9_hasKey 19 = .ok (.iconst 1, 1) := by decide +kernel
theorem dX9_hasKey_20 : decode cX9_hasKey 20 = .ok (.goto 4, 3) := by decide +kernel
theorem dX9_hasKey_23 : decode cX9_hasKey 23 = .ok (.iconst 0, 1) := by decide +kernel
theorem dX9_hasKey_24 : decode cX9_hasKey 24 = .ok (.ireturn, 1) := by decide +kernel
theorem dX9_hasValue_0 : decode cX9_hasValue 0 = .ok (.aload_n 0, 1) := by decide +kernel
theorem dX9_hasValue_1 : decode cX9_hasValue 1 = .ok (.iload_n 1, 1) := by decide +kernel
theorem dX9_hasValue_2 : decode cX9_hasValue 2 = .ok (.invokevirtual 53, 3) := by decide +kernel
theorem dX9_hasValue_5 : decode cX9_hasValue 5 = .ok (.astore_n 3, 1) := by decide +kernel
theorem dX9_hasValue_6 : decode cX9_hasValue 6 = .ok (.iload_n 2, 1) := by decide +kernel
theorem dX9_hasValue_7 : decode cX9_hasValue 7 = .ok (.invokestatic 60, 3) := by decide +kernel
theorem dX9_hasValue_10 : decode cX9_hasValue 10 = .ok (.aload_n 3, 1) := by decide +kernel
theorem dX9_hasValue_11 : decode cX9_hasValue 11 = .ok (.iload_n 2, 1) := by decide +kernel
theorem dX9_hasValue_12 : decode cX9_hasValue 12 = .ok (.invokevirtual 91, 3) := by decide +kernel
theorem dX9_hasValue_15 : decode cX9_hasValue 15 = .ok (.ireturn, 1) := by decide +kernel
theorem dX9_size_0 : decode cX9_size 0 = .ok (.aload_n 0, 1) := by decide +kernel
theorem dX9_size_1 : decode cX9_size 1 = .ok (.iload_n 1, 1) := by decide +kernel
theorem dX9_size_2 : decode cX9_size 2 = .ok (.invokevirtual 53, 3) := by decide +kernel
theorem dX9_size_5 : decode cX9_size 5 = .ok (.invokevirtual 95, 3) := by decide +kernel
theorem dX9_size_8 : decode cX9_size 8 = .ok (.invokevirtual 99, 3) := by decide +kernel
theorem dX9_size_11 : decode cX9_size 11 = .ok (.ireturn, 1) := by decide +kernel
theorem dX9_keyAt_0 : decode cX9_keyAt 0 = .ok (.aload_n 0, 1) := by decide +kernel
theorem dX9_keyAt_1 : decode cX9_keyAt 1 = .ok (.iload_n 1, 1) := by decide +kernel
theorem dX9_keyAt_2 : decode cX9_keyAt 2 = .ok (.invokevirtual 53, 3) := by decide +kernel
theorem dX9_keyAt_5 : decode cX9_keyAt 5 = .ok (.invokevirtual 95, 3) := by decide +kernel
theorem dX9_keyAt_8 : decode cX9_keyAt 8 = .ok (.astore_n 3, 1) := by decide +kernel
theorem dX9_keyAt_9 : decode cX9_keyAt 9 = .ok (.iload_n 2, 1) := by decide +kernel
theorem dX9_keyAt_10 : decode cX9_keyAt 10 = .ok (.aload_n 3, 1) := by decide +kernel
theorem dX9_keyAt_11 : decode cX9_keyAt 11 = .ok (.invokevirtual 99, 3) := by decide +kernel
theorem dX9_keyAt_14 : decode cX9_keyAt 14 = .ok (.invokestatic 104, 3) := by decide +kernel
theorem dX9_keyAt_17 : decode cX9_keyAt 17 = .ok (.aload_n 3, 1) := by decide +kernel
theorem dX9_keyAt_18 : decode cX9_keyAt 18 = .ok (.iload_n 2, 1) := by decide +kernel
theorem dX9_keyAt_19 : decode cX9_keyAt 19 = .ok (.invokevirtual 108, 3) := by decide +kernel
theorem dX9_keyAt_22 : decode cX9_keyAt 22 = .ok (.ireturn, 1) := by decide +kernel
theorem dX9_valueAt_0 : decode cX9_valueAt 0 = .ok (.aload_n 0, 1) := by decide +kernel
theorem dX9_valueAt_1 : decode cX9_valueAt 1 = .ok (.iload_n 1, 1) := by decide +kernel
theorem dX9_valueAt_2 : decode cX9_valueAt 2 = .ok (.invokevirtual 53, 3) := by decide +kernel
theorem dX9_valueAt_5 : decode cX9_valueAt 5 = .ok (.astore_n 3, 1) := by decide +kernel
theorem dX9_valueAt_6 : decode cX9_valueAt 6 = .ok (.iload_n 2, 1) := by decide +kernel
theorem dX9_valueAt_7 : decode cX9_valueAt 7 = .ok (.aload_n 3, 1) := by decide +kernel
theorem dX9_valueAt_8 : decode cX9_valueAt 8 = .ok (.invokevirtual 95, 3) := by decide +kernel
theorem dX9_valueAt_11 : decode cX9_valueAt 11 = .ok (.invokevirtual 99, 3) := by decide +kernel
theorem dX9_valueAt_14 : decode cX9_valueAt 14 = .ok (.invokestatic 104, 3) := by decide +kernel
theorem dX9_valueAt_17 : decode cX9_valueAt 17 = .ok (.aload_n 3, 1) := by decide +kernel
theorem dX9_valueAt_18 : decode cX9_valueAt 18 = .ok (.iload_n 2, 1) := by decide +kernel
theorem dX9_valueAt_19 : decode cX9_valueAt 19 = .ok (.invokevirtual 111, 3) := by decide +kernel
theorem dX9_valueAt_22 : decode cX9_valueAt 22 = .ok (.ireturn, 1) := by decide +kernel
theorem dX9_placeOf_0 : decode cX9_placeOf 0 = .ok (.aload_n 0, 1) := by decide +kernel
theorem dX9_placeOf_1 : decode cX9_placeOf 1 = .ok (.iload_n 1, 1) := by decide +kernel
theorem dX9_placeOf_2 : decode cX9_placeOf 2 = .ok (.invokevirtual 53, 3) := by decide +kernel
theorem dX9_placeOf_5 : decode cX9_placeOf 5 = .ok (.astore_n 3, 1) := by decide +kernel
theorem dX9_placeOf_6 : decode cX9_placeOf 6 = .ok (.iload_n 2, 1) := by decide +kernel
theorem dX9_placeOf_7 : decode cX9_placeOf 7 = .ok (.invokestatic 57, 3) := by decide +kernel
theorem dX9_placeOf_10 : decode cX9_placeOf 10 = .ok (.aload_n 3, 1) := by decide +kernel
theorem dX9_placeOf_11 : decode cX9_placeOf 11 = .ok (.invokevirtual 95, 3) := by decide +kernel
theorem dX9_placeOf_14 : decode cX9_placeOf 14 = .ok (.iload_n 2, 1) := by decide +kernel
theorem dX9_placeOf_15 : decode cX9_placeOf 15 = .ok (.invokevirtual 114, 3) := by decide +kernel
theorem dX9_placeOf_18 : decode cX9_placeOf 18 = .ok (.ireturn, 1) := by decide +kernel
theorem dX9_sum_0 : decode cX9_sum 0 = .ok (.aload_n 0, 1) := by decide +kernel
theorem dX9_sum_1 : decode cX9_sum 1 = .ok (.iload_n 1, 1) := by decide +kernel
theorem dX9_sum_2 : decode cX9_sum 2 = .ok (.invokevirtual 53, 3) := by decide +kernel
theorem dX9_sum_5 : decode cX9_sum 5 = .ok (.invokevirtual 117, 3) := by decide +kernel
theorem dX9_sum_8 : decode cX9_sum 8 = .ok (.ireturn, 1) := by decide +kernel
theorem dX9_putOut_0 : decode cX9_putOut 0 = .ok (.aload_n 0, 1) := by decide +kernel
theorem dX9_putOut_1 : decode cX9_putOut 1 = .ok (.getfield 18, 3) := by decide +kernel
theorem dX9_putOut_4 : decode cX9_putOut 4 = .ok (.invokevirtual 120, 3) := by decide +kernel
theorem dX9_putOut_7 : decode cX9_putOut 7 = .ok (.ireturn, 1) := by decide +kernel
theorem dX9_lastPutOut_0 : decode cX9_lastPutOut 0 = .ok (.aload_n 0, 1) := by decide +kernel
theorem dX9_lastPutOut_1 : decode cX9_lastPutOut 1 = .ok (.getfield 18, 3) := by decide +kernel
theorem dX9_lastPutOut_4 : decode cX9_lastPutOut 4 = .ok (.invokevirtual 123, 3) := by decide +kernel
theorem dX9_lastPutOut_7 : decode cX9_lastPutOut 7 = .ok (.ireturn, 1) := by decide +kernel
theorem dX9_beginCursor_0 : decode cX9_beginCursor 0 = .ok (.aload_n 0, 1) := by decide +kernel
theorem dX9_beginCursor_1 : decode cX9_beginCursor 1 = .ok (.iload_n 1, 1) := by decide +kernel
theorem dX9_beginCursor_2 : decode cX9_beginCursor 2 = .ok (.invokevirtual 53, 3) := by decide +kernel
theorem dX9_beginCursor_5 : decode cX9_beginCursor 5 = .ok (.astore_n 2, 1) := by decide +kernel
theorem dX9_beginCursor_6 : decode cX9_beginCursor 6 = .ok (.aload_n 2, 1) := by decide +kernel
theorem dX9_beginCursor_7 : decode cX9_beginCursor 7 = .ok (.invokevirtual 126, 3) := by decide +kernel
theorem dX9_beginCursor_10 : decode cX9_beginCursor 10 = .ok (.invokevirtual 130, 3) := by decide +kernel
theorem dX9_beginCursor_13 : decode cX9_beginCursor 13 = .ok (.aload_n 2, 1) := by decide +kernel
theorem dX9_beginCursor_14 : decode cX9_beginCursor 14 = .ok (.invokevirtual 95, 3) := by decide +kernel
theorem dX9_beginCursor_17 : decode cX9_beginCursor 17 = .ok (.invokevirtual 99, 3) := by decide +kernel
theorem dX9_beginCursor_20 : decode cX9_beginCursor 20 = .ok (.ireturn, 1) := by decide +kernel
theorem dX9_hasNext_0 : decode cX9_hasNext 0 = .ok (.aload_n 0, 1) := by decide +kernel
theorem dX9_hasNext_1 : decode cX9_hasNext 1 = .ok (.iload_n 1, 1) := by decide +kernel
theorem dX9_hasNext_2 : decode cX9_hasNext 2 = .ok (.invokevirtual 53, 3) := by decide +kernel
theorem dX9_hasNext_5 : decode cX9_hasNext 5 = .ok (.astore_n 2, 1) := by decide +kernel
theorem dX9_hasNext_6 : decode cX9_hasNext 6 = .ok (.aload_n 2, 1) := by decide +kernel
theorem dX9_hasNext_7 : decode cX9_hasNext 7 = .ok (.invokevirtual 126, 3) := by decide +kernel
theorem dX9_hasNext_10 : decode cX9_hasNext 10 = .ok (.aload_n 2, 1) := by decide +kernel
theorem dX9_hasNext_11 : decode cX9_hasNext 11 = .ok (.invokevirtual 95, 3) := by decide +kernel
theorem dX9_hasNext_14 : decode cX9_hasNext 14 = .ok (.invokevirtual 99, 3) := by decide +kernel
theorem dX9_hasNext_17 : decode cX9_hasNext 17 = .ok (.invokevirtual 135, 3) := by decide +kernel
theorem dX9_hasNext_20 : decode cX9_hasNext 20 = .ok (.ireturn, 1) := by decide +kernel
theorem dX9_next_0 : decode cX9_next 0 = .ok (.aload_n 0, 1) := by decide +kernel
theorem dX9_next_1 : decode cX9_next 1 = .ok (.iload_n 1, 1) := by decide +kernel
theorem dX9_next_2 : decode cX9_next 2 = .ok (.invokevirtual 53, 3) := by decide +kernel
theorem dX9_next_5 : decode cX9_next 5 = .ok (.astore_n 2, 1) := by decide +kernel
theorem dX9_next_6 : decode cX9_next 6 = .ok (.aload_n 2, 1) := by decide +kernel
theorem dX9_next_7 : decode cX9_next 7 = .ok (.invokevirtual 126, 3) := by decide +kernel
theorem dX9_next_10 : decode cX9_next 10 = .ok (.invokevirtual 138, 3) := by decide +kernel
theorem dX9_next_13 : decode cX9_next 13 = .ok (.ifCond .ne 13, 3) := by decide +kernel
theorem dX9_next_16 : decode cX9_next 16 = .ok (.new 142, 3) := by decide +kernel
theorem dX9_next_19 : decode cX9_next 19 = .ok (.dup, 1) := by decide +kernel
theorem dX9_next_20 : decode cX9_next 20 = .ok (.ldc 144, 2) := by decide +kernel
theorem dX9_next_22 : decode cX9_next 22 = .ok (.invokespecial 146, 3) := by decide +kernel
theorem dX9_next_25 : decode cX9_next 25 = .ok (.athrow, 1) := by decide +kernel
theorem dX9_next_26 : decode cX9_next 26 = .ok (.aload_n 2, 1) := by decide +kernel
theorem dX9_next_27 : decode cX9_next 27 = .ok (.invokevirtual 126, 3) := by decide +kernel
theorem dX9_next_30 : decode cX9_next 30 = .ok (.aload_n 2, 1) := by decide +kernel
theorem dX9_next_31 : decode cX9_next 31 = .ok (.invokevirtual 95, 3) := by decide +kernel
theorem dX9_next_34 : decode cX9_next 34 = .ok (.invokevirtual 99, 3) := by decide +kernel
theorem dX9_next_37 : decode cX9_next 37 = .ok (.invokevirtual 135, 3) := by decide +kernel
theorem dX9_next_40 : decode cX9_next 40 = .ok (.ifCond .ne 13, 3) := by decide +kernel
theorem dX9_next_43 : decode cX9_next 43 = .ok (.new 149, 3) := by decide +kernel
theorem dX9_next_46 : decode cX9_next 46 = .ok (.dup, 1) := by decide +kernel
theorem dX9_next_47 : decode cX9_next 47 = .ok (.ldc 151, 2) := by decide +kernel
theorem dX9_next_49 : decode cX9_next 49 = .ok (.invokespecial 153, 3) := by decide +kernel
theorem dX9_next_52 : decode cX9_next 52 = .ok (.athrow, 1) := by decide +kernel
theorem dX9_next_53 : decode cX9_next 53 = .ok (.aload_n 2, 1) := by decide +kernel
theorem dX9_next_54 : decode cX9_next 54 = .ok (.invokevirtual 126, 3) := by decide +kernel
theorem dX9_next_57 : decode cX9_next 57 = .ok (.invokevirtual 154, 3) := by decide +kernel
theorem dX9_next_60 : decode cX9_next 60 = .ok (.istore_n 3, 1) := by decide +kernel
theorem dX9_next_61 : decode cX9_next 61 = .ok (.sipush 1000, 3) := by decide +kernel
theorem dX9_next_64 : decode cX9_next 64 = .ok (.aload_n 2, 1) := by decide +kernel
theorem dX9_next_65 : decode cX9_next 65 = .ok (.invokevirtual 95, 3) := by decide +kernel
theorem dX9_next_68 : decode cX9_next 68 = .ok (.iload_n 3, 1) := by decide +kernel
theorem dX9_next_69 : decode cX9_next 69 = .ok (.invokevirtual 108, 3) := by decide +kernel
theorem dX9_next_72 : decode cX9_next 72 = .ok (.imul, 1) := by decide +kernel
theorem dX9_next_73 : decode cX9_next 73 = .ok (.aload_n 2, 1) := by decide +kernel
theorem dX9_next_74 : decode cX9_next 74 = .ok (.iload_n 3, 1) := by decide +kernel
theorem dX9_next_75 : decode cX9_next 75 = .ok (.invokevirtual 111, 3) := by decide +kernel
theorem dX9_next_78 : decode cX9_next 78 = .ok (.iadd, 1) := by decide +kernel
theorem dX9_next_79 : decode cX9_next 79 = .ok (.ireturn, 1) := by decide +kernel
theorem dX9_takeOut_0 : decode cX9_takeOut 0 = .ok (.aload_n 0, 1) := by decide +kernel
theorem dX9_takeOut_1 : decode cX9_takeOut 1 = .ok (.iload_n 1, 1) := by decide +kernel
theorem dX9_takeOut_2 : decode cX9_takeOut 2 = .ok (.invokevirtual 53, 3) := by decide +kernel
theorem dX9_takeOut_5 : decode cX9_takeOut 5 = .ok (.astore_n 2, 1) := by decide +kernel
theorem dX9_takeOut_6 : decode cX9_takeOut 6 = .ok (.aload_n 2, 1) := by decide +kernel
theorem dX9_takeOut_7 : decode cX9_takeOut 7 = .ok (.invokevirtual 126, 3) := by decide +kernel
theorem dX9_takeOut_10 : decode cX9_takeOut 10 = .ok (.invokevirtual 157, 3) := by decide +kernel
theorem dX9_takeOut_13 : decode cX9_takeOut 13 = .ok (.ifCond .ne 13, 3) := by decide +kernel
theorem dX9_takeOut_16 : decode cX9_takeOut 16 = .ok (.new 142, 3) := by decide +kernel
theorem dX9_takeOut_19 : decode cX9_takeOut 19 = .ok (.dup, 1) := by decide +kernel
theorem dX9_takeOut_20 : decode cX9_takeOut 20 = .ok (.ldc 160, 2) := by decide +kernel
theorem dX9_takeOut_22 : decode cX9_takeOut 22 = .ok (.invokespecial 146, 3) := by decide +kernel
theorem dX9_takeOut_25 : decode cX9_takeOut 25 = .ok (.athrow, 1) := by decide +kernel
theorem dX9_takeOut_26 : decode cX9_takeOut 26 = .ok (.aload_n 2, 1) := by decide +kernel
theorem dX9_takeOut_27 : decode cX9_takeOut 27 = .ok (.invokevirtual 95, 3) := by decide +kernel
theorem dX9_takeOut_30 : decode cX9_takeOut 30 = .ok (.aload_n 2, 1) := by decide +kernel
theorem dX9_takeOut_31 : decode cX9_takeOut 31 = .ok (.invokevirtual 126, 3) := by decide +kernel
theorem dX9_takeOut_34 : decode cX9_takeOut 34 = .ok (.invokevirtual 162, 3) := by decide +kernel
theorem dX9_takeOut_37 : decode cX9_takeOut 37 = .ok (.invokevirtual 165, 3) := by decide +kernel
theorem dX9_takeOut_40 : decode cX9_takeOut 40 = .ok (.aload_n 2, 1) := by decide +kernel
theorem dX9_takeOut_41 : decode cX9_takeOut 41 = .ok (.invokevirtual 95, 3) := by decide +kernel
theorem dX9_takeOut_44 : decode cX9_takeOut 44 = .ok (.invokevirtual 99, 3) := by decide +kernel
theorem dX9_takeOut_47 : decode cX9_takeOut 47 = .ok (.ireturn, 1) := by decide +kernel
theorem dX9_request_0 : decode cX9_request 0 = .ok (.iload_n 1, 1) := by decide +kernel
theorem dX9_request_1 : decode cX9_request 1 = .ok (.invokestatic 57, 3) := by decide +kernel
theorem dX9_request_4 : decode cX9_request 4 = .ok (.aload_n 0, 1) := by decide +kernel
theorem dX9_request_5 : decode cX9_request 5 = .ok (.getfield 30, 3) := by decide +kernel
theorem dX9_request_8 : decode cX9_request 8 = .ok (.invokevirtual 168, 3) := by decide +kernel
theorem dX9_request_11 : decode cX9_request 11 = .ok (.sipush 1000, 3) := by decide +kernel
theorem dX9_request_14 : decode cX9_request 14 = .ok (.if_icmp .lt 13, 3) := by decide +kernel
theorem dX9_request_17 : decode cX9_request 17 = .ok (.new 142, 3) := by decide +kernel
theorem dX9_request_20 : decode cX9_request 20 = .ok (.dup, 1) := by decide +kernel
theorem dX9_request_21 : decode cX9_request 21 = .ok (.ldc 169, 2) := by decide +kernel
theorem dX9_request_23 : decode cX9_request 23 = .ok (.invokespecial 146, 3) := by decide +kernel
theorem dX9_request_26 : decode cX9_request 26 = .ok (.athrow, 1) := by decide +kernel
theorem dX9_request_27 : decode cX9_request 27 = .ok (.aload_n 0, 1) := by decide +kernel
theorem dX9_request_28 : decode cX9_request 28 = .ok (.iload_n 1, 1) := by decide +kernel
theorem dX9_request_29 : decode cX9_request 29 = .ok (.invokevirtual 171, 3) := by decide +kernel
theorem dX9_request_32 : decode cX9_request 32 = .ok (.ireturn, 1) := by decide +kernel
theorem dX9_clearCaches_0 : decode cX9_clearCaches 0 = .ok (.aload_n 0, 1) := by decide +kernel
theorem dX9_clearCaches_1 : decode cX9_clearCaches 1 = .ok (.getfield 30, 3) := by decide +kernel
theorem dX9_clearCaches_4 : decode cX9_clearCaches 4 = .ok (.invokevirtual 168, 3) := by decide +kernel
theorem dX9_clearCaches_7 : decode cX9_clearCaches 7 = .ok (.istore_n 1, 1) := by decide +kernel
theorem dX9_clearCaches_8 : decode cX9_clearCaches 8 = .ok (.iconst 0, 1) := by decide +kernel
theorem dX9_clearCaches_9 : decode cX9_clearCaches 9 = .ok (.istore_n 2, 1) := by decide +kernel
theorem dX9_clearCaches_10 : decode cX9_clearCaches 10 = .ok (.iload_n 2, 1) := by decide +kernel
theorem dX9_clearCaches_11 : decode cX9_clearCaches 11 = .ok (.bipush 8, 2) := by decide +kernel
theorem dX9_clearCaches_13 : decode cX9_clearCaches 13 = .ok (.if_icmp .ge 18, 3) := by decide +kernel
theorem dX9_clearCaches_16 : decode cX9_clearCaches 16 = .ok (.aload_n 0, 1) := by decide +kernel
theorem dX9_clearCaches_17 : decode cX9_clearCaches 17 = .ok (.getfield 23, 3) := by decide +kernel
theorem dX9_clearCaches_20 : decode cX9_clearCaches 20 = .ok (.iload_n 2, 1) := by decide +kernel
theorem dX9_clearCaches_21 : decode cX9_clearCaches 21 = .ok (.aaload, 1) := by decide +kernel
theorem dX9_clearCaches_22 : decode cX9_clearCaches 22 = .ok (.invokevirtual 174, 3) := by decide +kernel
theorem dX9_clearCaches_25 : decode cX9_clearCaches 25 = .ok (.iinc 2 1, 3) := by decide +kernel
theorem dX9_clearCaches_28 : decode cX9_clearCaches 28 = .ok (.goto (-18), 3) := by decide +kernel
theorem dX9_clearCaches_31 : decode cX9_clearCaches 31 = .ok (.aload_n 0, 1) := by decide +kernel
theorem dX9_clearCaches_32 : decode cX9_clearCaches 32 = .ok (.getfield 30, 3) := by decide +kernel
theorem dX9_clearCaches_35 : decode cX9_clearCaches 35 = .ok (.invokevirtual 177, 3) := by decide +kernel
theorem dX9_clearCaches_38 : decode cX9_clearCaches 38 = .ok (.iload_n 1, 1) := by decide +kernel
theorem dX9_clearCaches_39 : decode cX9_clearCaches 39 = .ok (.ireturn, 1) := by decide +kernel
theorem dX9_hits_0 : decode cX9_hits 0 = .ok (.aload_n 0, 1) := by decide +kernel
theorem dX9_hits_1 : decode cX9_hits 1 = .ok (.iload_n 1, 1) := by decide +kernel
theorem dX9_hits_2 : decode cX9_hits 2 = .ok (.invokevirtual 178, 3) := by decide +kernel
theorem dX9_hits_5 : decode cX9_hits 5 = .ok (.invokevirtual 182, 3) := by decide +kernel
theorem dX9_hits_8 : decode cX9_hits 8 = .ok (.ireturn, 1) := by decide +kernel
theorem dX9_cached_0 : decode cX9_cached 0 = .ok (.aload_n 0, 1) := by decide +kernel
theorem dX9_cached_1 : decode cX9_cached 1 = .ok (.iload_n 1, 1) := by decide +kernel
theorem dX9_cached_2 : decode cX9_cached 2 = .ok (.invokevirtual 178, 3) := by decide +kernel
theorem dX9_cached_5 : decode cX9_cached 5 = .ok (.invokevirtual 185, 3) := by decide +kernel
theorem dX9_cached_8 : decode cX9_cached 8 = .ok (.invokevirtual 99, 3) := by decide +kernel
theorem dX9_cached_11 : decode cX9_cached 11 = .ok (.ireturn, 1) := by decide +kernel
theorem dX9_isCached_0 : decode cX9_isCached 0 = .ok (.aload_n 0, 1) := by decide +kernel
theorem dX9_isCached_1 : decode cX9_isCached 1 = .ok (.iload_n 1, 1) := by decide +kernel
theorem dX9_isCached_2 : decode cX9_isCached 2 = .ok (.invokevirtual 178, 3) := by decide +kernel
theorem dX9_isCached_5 : decode cX9_isCached 5 = .ok (.astore_n 3, 1) := by decide +kernel
theorem dX9_isCached_6 : decode cX9_isCached 6 = .ok (.iload_n 2, 1) := by decide +kernel
theorem dX9_isCached_7 : decode cX9_isCached 7 = .ok (.invokestatic 57, 3) := by decide +kernel
theorem dX9_isCached_10 : decode cX9_isCached 10 = .ok (.aload_n 3, 1) := by decide +kernel
theorem dX9_isCached_11 : decode cX9_isCached 11 = .ok (.invokevirtual 185, 3) := by decide +kernel
theorem dX9_isCached_14 : decode cX9_isCached 14 = .ok (.iload_n 2, 1) := by decide +kernel
theorem dX9_isCached_15 : decode cX9_isCached 15 = .ok (.invokevirtual 186, 3) := by decide +kernel
theorem dX9_isCached_18 : decode cX9_isCached 18 = .ok (.ireturn, 1) := by decide +kernel
theorem dX9_cachedAt_0 : decode cX9_cachedAt 0 = .ok (.aload_n 0, 1) := by decide +kernel
theorem dX9_cachedAt_1 : decode cX9_cachedAt 1 = .ok (.iload_n 1, 1) := by decide +kernel
theorem dX9_cachedAt_2 : decode cX9_cachedAt 2 = .ok (.invokevirtual 178, 3) := by decide +kernel
theorem dX9_cachedAt_5 : decode cX9_cachedAt 5 = .ok (.invokevirtual 185, 3) := by decide +kernel
theorem dX9_cachedAt_8 : decode cX9_cachedAt 8 = .ok (.astore_n 3, 1) := by decide +kernel
theorem dX9_cachedAt_9 : decode cX9_cachedAt 9 = .ok (.iload_n 2, 1) := by decide +kernel
theorem dX9_cachedAt_10 : decode cX9_cachedAt 10 = .ok (.aload_n 3, 1) := by decide +kernel
theorem dX9_cachedAt_11 : decode cX9_cachedAt 11 = .ok (.invokevirtual 99, 3) := by decide +kernel
theorem dX9_cachedAt_14 : decode cX9_cachedAt 14 = .ok (.invokestatic 104, 3) := by decide +kernel
theorem dX9_cachedAt_17 : decode cX9_cachedAt 17 = .ok (.aload_n 3, 1) := by decide +kernel
theorem dX9_cachedAt_18 : decode cX9_cachedAt 18 = .ok (.iload_n 2, 1) := by decide +kernel
theorem dX9_cachedAt_19 : decode cX9_cachedAt 19 = .ok (.invokevirtual 108, 3) := by decide +kernel
theorem dX9_cachedAt_22 : decode cX9_cachedAt 22 = .ok (.ireturn, 1) := by decide +kernel
theorem dX9_requests_0 : decode cX9_requests 0 = .ok (.aload_n 0, 1) := by decide +kernel
theorem dX9_requests_1 : decode cX9_requests 1 = .ok (.getfield 30, 3) := by decide +kernel
theorem dX9_requests_4 : decode cX9_requests 4 = .ok (.invokevirtual 168, 3) := by decide +kernel
theorem dX9_requests_7 : decode cX9_requests 7 = .ok (.ireturn, 1) := by decide +kernel
theorem dX9_requestAt_0 : decode cX9_requestAt 0 = .ok (.iload_n 1, 1) := by decide +kernel
theorem dX9_requestAt_1 : decode cX9_requestAt 1 = .ok (.aload_n 0, 1) := by decide +kernel
theorem dX9_requestAt_2 : decode cX9_requestAt 2 = .ok (.getfield 30, 3) := by decide +kernel
theorem dX9_requestAt_5 : decode cX9_requestAt 5 = .ok (.invokevirtual 168, 3) := by decide +kernel
theorem dX9_requestAt_8 : decode cX9_requestAt 8 = .ok (.invokestatic 104, 3) := by decide +kernel
theorem dX9_requestAt_11 : decode cX9_requestAt 11 = .ok (.aload_n 0, 1) := by decide +kernel
theorem dX9_requestAt_12 : decode cX9_requestAt 12 = .ok (.getfield 30, 3) := by decide +kernel
theorem dX9_requestAt_15 : decode cX9_requestAt 15 = .ok (.iload_n 1, 1) := by decide +kernel
theorem dX9_requestAt_16 : decode cX9_requestAt 16 = .ok (.invokevirtual 189, 3) := by decide +kernel
theorem dX9_requestAt_19 : decode cX9_requestAt 19 = .ok (.ireturn, 1) := by decide +kernel
theorem dX9_distanceOf_0 : decode cX9_distanceOf 0 = .ok (.iload_n 1, 1) := by decide +kernel
theorem dX9_distanceOf_1 : decode cX9_distanceOf 1 = .ok (.aload_n 0, 1) := by decide +kernel
theorem dX9_distanceOf_2 : decode cX9_distanceOf 2 = .ok (.getfield 30, 3) := by decide +kernel
theorem dX9_distanceOf_5 : decode cX9_distanceOf 5 = .ok (.invokevirtual 168, 3) := by decide +kernel
theorem dX9_distanceOf_8 : decode cX9_distanceOf 8 = .ok (.invokestatic 104, 3) := by decide +kernel
theorem dX9_distanceOf_11 : decode cX9_distanceOf 11 = .ok (.aload_n 0, 1) := by decide +kernel
theorem dX9_distanceOf_12 : decode cX9_distanceOf 12 = .ok (.getfield 30, 3) := by decide +kernel
theorem dX9_distanceOf_15 : decode cX9_distanceOf 15 = .ok (.iload_n 1, 1) := by decide +kernel
theorem dX9_distanceOf_16 : decode cX9_distanceOf 16 = .ok (.invokevirtual 190, 3) := by decide +kernel
theorem dX9_distanceOf_19 : decode cX9_distanceOf 19 = .ok (.ireturn, 1) := by decide +kernel
theorem dX9_nearer_0 : decode cX9_nearer 0 = .ok (.iload_n 1, 1) := by decide +kernel
theorem dX9_nearer_1 : decode cX9_nearer 1 = .ok (.iconst 0, 1) := by decide +kernel
theorem dX9_nearer_2 : decode cX9_nearer 2 = .ok (.bipush 100, 2) := by decide +kernel
theorem dX9_nearer_4 : decode cX9_nearer 4 = .ok (.invokestatic 81, 3) := by decide +kernel
theorem dX9_nearer_7 : decode cX9_nearer 7 = .ok (.aload_n 0, 1) := by decide +kernel
theorem dX9_nearer_8 : decode cX9_nearer 8 = .ok (.getfield 30, 3) := by decide +kernel
theorem dX9_nearer_11 : decode cX9_nearer 11 = .ok (.iload_n 1, 1) := by decide +kernel
theorem dX9_nearer_12 : decode cX9_nearer 12 = .ok (.invokevirtual 193, 3) := by decide +kernel
theorem dX9_nearer_15 : decode cX9_nearer 15 = .ok (.ireturn, 1) := by decide +kernel
theorem dX9_leastCache_0 : decode cX9_leastCache 0 = .ok (.iload_n 1, 1) := by decide +kernel
theorem dX9_leastCache_1 : decode cX9_leastCache 1 = .ok (.iconst 0, 1) := by decide +kernel
theorem dX9_leastCache_2 : decode cX9_leastCache 2 = .ok (.ldc 198, 2) := by decide +kernel
theorem dX9_leastCache_4 : decode cX9_leastCache 4 = .ok (.invokestatic 81, 3) := by decide +kernel
theorem dX9_leastCache_7 : decode cX9_leastCache 7 = .ok (.iconst 0, 1) := by decide +kernel
theorem dX9_leastCache_8 : decode cX9_leastCache 8 = .ok (.istore_n 2, 1) := by decide +kernel
theorem dX9_leastCache_9 : decode cX9_leastCache 9 = .ok (.iload_n 2, 1) := by decide +kernel
theorem dX9_leastCache_10 : decode cX9_leastCache 10 = .ok (.bipush 8, 2) := by decide +kernel
theorem dX9_leastCache_12 : decode cX9_leastCache 12 = .ok (.if_icmp .ge 26, 3) := by decide +kernel
theorem dX9_leastCache_15 : decode cX9_leastCache 15 = .ok (.aload_n 0, 1) := by decide +kernel
theorem dX9_leastCache_16 : decode cX9_leastCache 16 = .ok (.getfield 23, 3) := by decide +kernel
theorem dX9_leastCache_19 : decode cX9_leastCache 19 = .ok (.iload_n 2, 1) := by decide +kernel
theorem dX9_leastCache_20 : decode cX9_leastCache 20 = .ok (.aaload, 1) := by decide +kernel
theorem dX9_leastCache_21 : decode cX9_leastCache 21 = .ok (.invokevirtual 182, 3) := by decide +kernel
theorem dX9_leastCache_24 : decode cX9_leastCache 24 = .ok (.iload_n 1, 1) := by decide +kernel
theorem dX9_leastCache_25 : decode cX9_leastCache 25 = .ok (.if_icmp .lt 7, 3) := by decide +kernel
theorem dX9_leastCache_28 : decode cX9_leastCache 28 = .ok (.iload_n 2, 1) := by decide +kernel
theorem dX9_leastCache_29 : decode cX9_leastCache 29 = .ok (.iconst 1, 1) := by decide +kernel
theorem dX9_leastCache_30 : decode cX9_leastCache 30 = .ok (.iadd, 1) := by decide +kernel
theorem dX9_leastCache_31 : decode cX9_leastCache 31 = .ok (.ireturn, 1) := by decide +kernel
theorem dX9_leastCache_32 : decode cX9_leastCache 32 = .ok (.iinc 2 1, 3) := by decide +kernel
theorem dX9_leastCache_35 : decode cX9_leastCache 35 = .ok (.goto (-26), 3) := by decide +kernel
theorem dX9_leastCache_38 : decode cX9_leastCache 38 = .ok (.iconst (-1), 1) := by decide +kernel
theorem dX9_leastCache_39 : decode cX9_leastCache 39 = .ok (.ireturn, 1) := by decide +kernel
theorem dX9_append_0 : decode cX9_append 0 = .ok (.aload_n 0, 1) := by decide +kernel
theorem dX9_append_1 : decode cX9_append 1 = .ok (.getfield 37, 3) := by decide +kernel
theorem dX9_append_4 : decode cX9_append 4 = .ok (.invokevirtual 199, 3) := by decide +kernel
theorem dX9_append_7 : decode cX9_append 7 = .ok (.astore 6, 2) := by decide +kernel
theorem dX9_append_9 : decode cX9_append 9 = .ok (.iload_n 1, 1) := by decide +kernel
theorem dX9_append_10 : decode cX9_append 10 = .ok (.invokestatic 203, 3) := by decide +kernel
theorem dX9_append_13 : decode cX9_append 13 = .ok (.iload_n 2, 1) := by decide +kernel
theorem dX9_append_14 : decode cX9_append 14 = .ok (.invokestatic 203, 3) := by decide +kernel
theorem dX9_append_17 : decode cX9_append 17 = .ok (.iadd, 1) := by decide +kernel
theorem dX9_append_18 : decode cX9_append 18 = .ok (.iload_n 3, 1) := by decide +kernel
theorem dX9_append_19 : decode cX9_append 19 = .ok (.invokestatic 203, 3) := by decide +kernel
theorem dX9_append_22 : decode cX9_append 22 = .ok (.iadd, 1) := by decide +kernel
theorem dX9_append_23 : decode cX9_append 23 = .ok (.iload 4, 2) := by decide +kernel
theorem dX9_append_25 : decode cX9_append 25 = .ok (.invokestatic 203, 3) := by decide +kernel
theorem dX9_append_28 : decode cX9_append 28 = .ok (.iadd, 1) := by decide +kernel
theorem dX9_append_29 : decode cX9_append 29 = .ok (.iload 5, 2) := by decide +kernel
theorem dX9_append_31 : decode cX9_append 31 = .ok (.invokestatic 203, 3) := by decide +kernel
theorem dX9_append_34 : decode cX9_append 34 = .ok (.iadd, 1) := by decide +kernel
theorem dX9_append_35 : decode cX9_append 35 = .ok (.istore 7, 2) := by decide +kernel
theorem dX9_append_37 : decode cX9_append 37 = .ok (.aload 6, 2) := by decide +kernel
theorem dX9_append_39 : decode cX9_append 39 = .ok (.invokevirtual 208, 3) := by decide +kernel
theorem dX9_append_42 : decode cX9_append 42 = .ok (.iload 7, 2) := by decide +kernel
theorem dX9_append_44 : decode cX9_append 44 = .ok (.iadd, 1) := by decide +kernel
theorem dX9_append_45 : decode cX9_append 45 = .ok (.sipush 300, 3) := by decide +kernel
theorem dX9_append_48 : decode cX9_append 48 = .ok (.if_icmp .le 13, 3) := by decide +kernel
theorem dX9_append_51 : decode cX9_append 51 = .ok (.new 142, 3) := by decide +kernel
theorem dX9_append_54 : decode cX9_append 54 = .ok (.dup, 1) := by decide +kernel
theorem dX9_append_55 : decode cX9_append 55 = .ok (.ldc 209, 2) := by decide +kernel
theorem dX9_append_57 : decode cX9_append 57 = .ok (.invokespecial 146, 3) := by decide +kernel
theorem dX9_append_60 : decode cX9_append 60 = .ok (.athrow, 1) := by decide +kernel
theorem dX9_append_61 : decode cX9_append 61 = .ok (.aload 6, 2) := by decide +kernel
theorem dX9_append_63 : decode cX9_append 63 = .ok (.iload_n 1, 1) := by decide +kernel
theorem dX9_append_64 : decode cX9_append 64 = .ok (.invokevirtual 211, 3) := by decide +kernel
theorem dX9_append_67 : decode cX9_append 67 = .ok (.aload 6, 2) := by decide +kernel
theorem dX9_append_69 : decode cX9_append 69 = .ok (.iload_n 2, 1) := by decide +kernel
theorem dX9_append_70 : decode cX9_append 70 = .ok (.invokevirtual 211, 3) := by decide +kernel
theorem dX9_append_73 : decode cX9_append 73 = .ok (.aload 6, 2) := by decide +kernel
theorem dX9_append_75 : decode cX9_append 75 = .ok (.iload_n 3, 1) := by decide +kernel
theorem dX9_append_76 : decode cX9_append 76 = .ok (.invokevirtual 211, 3) := by decide +kernel
theorem dX9_append_79 : decode cX9_append 79 = .ok (.aload 6, 2) := by decide +kernel
theorem dX9_append_81 : decode cX9_append 81 = .ok (.iload 4, 2) := by decide +kernel
theorem dX9_append_83 : decode cX9_append 83 = .ok (.invokevirtual 211, 3) := by decide +kernel
theorem dX9_append_86 : decode cX9_append 86 = .ok (.aload 6, 2) := by decide +kernel
theorem dX9_append_88 : decode cX9_append 88 = .ok (.iload 5, 2) := by decide +kernel
theorem dX9_append_90 : decode cX9_append 90 = .ok (.invokevirtual 211, 3) := by decide +kernel
theorem dX9_append_93 : decode cX9_append 93 = .ok (.aload 6, 2) := by decide +kernel
theorem dX9_append_95 : decode cX9_append 95 = .ok (.invokevirtual 208, 3) := by decide +kernel
theorem dX9_append_98 : decode cX9_append 98 = .ok (.ireturn, 1) := by decide +kernel
theorem dX9_clearTape_0 : decode cX9_clearTape 0 = .ok (.aload_n 0, 1) := by decide +kernel
theorem dX9_clearTape_1 : decode cX9_clearTape 1 = .ok (.getfield 37, 3) := by decide +kernel
theorem dX9_clearTape_4 : decode cX9_clearTape 4 = .ok (.invokevirtual 199, 3) := by decide +kernel
theorem dX9_clearTape_7 : decode cX9_clearTape 7 = .ok (.invokevirtual 214, 3) := by decide +kernel
theorem dX9_clearTape_10 : decode cX9_clearTape 10 = .ok (.ireturn, 1) := by decide +kernel
theorem dX9_run_0 : decode cX9_run 0 = .ok (.aload_n 0, 1) := by decide +kernel
theorem dX9_run_1 : decode cX9_run 1 = .ok (.getfield 30, 3) := by decide +kernel
theorem dX9_run_4 : decode cX9_run 4 = .ok (.invokevirtual 168, 3) := by decide +kernel
theorem dX9_run_7 : decode cX9_run 7 = .ok (.sipush 800, 3) := by decide +kernel
theorem dX9_run_10 : decode cX9_run 10 = .ok (.if_icmp .le 13, 3) := by decide +kernel
theorem dX9_run_13 : decode cX9_run 13 = .ok (.new 142, 3) := by decide +kernel
theorem dX9_run_16 : decode cX9_run 16 = .ok (.dup, 1) := by decide +kernel
theorem dX9_run_17 : decode cX9_run 17 = .ok (.ldc 217, 2) := by decide +kernel
theorem dX9_run_19 : decode cX9_run 19 = .ok (.invokespecial 146, 3) := by decide +kernel
theorem dX9_run_22 : decode cX9_run 22 = .ok (.athrow, 1) := by decide +kernel
theorem dX9_run_23 : decode cX9_run 23 = .ok (.aload_n 0, 1) := by decide +kernel
theorem dX9_run_24 : decode cX9_run 24 = .ok (.aload_n 0, 1) := by decide +kernel
theorem dX9_run_25 : decode cX9_run 25 = .ok (.getfield 37, 3) := by decide +kernel
theorem dX9_run_28 : decode cX9_run 28 = .ok (.invokevirtual 219, 3) := by decide +kernel
theorem dX9_run_31 : decode cX9_run 31 = .ok (.putfield 48, 3) := by decide +kernel
theorem dX9_run_34 : decode cX9_run 34 = .ok (.aload_n 0, 1) := by decide +kernel
theorem dX9_run_35 : decode cX9_run 35 = .ok (.getfield 37, 3) := by decide +kernel
theorem dX9_run_38 : decode cX9_run 38 = .ok (.invokevirtual 199, 3) := by decide +kernel
theorem dX9_run_41 : decode cX9_run 41 = .ok (.invokevirtual 214, 3) := by decide +kernel
theorem dX9_run_44 : decode cX9_run 44 = .ok (.pop, 1) := by decide +kernel
theorem dX9_run_45 : decode cX9_run 45 = .ok (.aload_n 0, 1) := by decide +kernel
theorem dX9_run_46 : decode cX9_run 46 = .ok (.getfield 48, 3) := by decide +kernel
theorem dX9_run_49 : decode cX9_run 49 = .ok (.iconst (-1), 1) := by decide +kernel
theorem dX9_run_50 : decode cX9_run 50 = .ok (.if_icmp .eq 13, 3) := by decide +kernel
theorem dX9_run_53 : decode cX9_run 53 = .ok (.new 222, 3) := by decide +kernel
theorem dX9_run_56 : decode cX9_run 56 = .ok (.dup, 1) := by decide +kernel
theorem dX9_run_57 : decode cX9_run 57 = .ok (.ldc 224, 2) := by decide +kernel
theorem dX9_run_59 : decode cX9_run 59 = .ok (.invokespecial 226, 3) := by decide +kernel
theorem dX9_run_62 : decode cX9_run 62 = .ok (.athrow, 1) := by decide +kernel
theorem dX9_run_63 : decode cX9_run 63 = .ok (.aload_n 0, 1) := by decide +kernel
theorem dX9_run_64 : decode cX9_run 64 = .ok (.getfield 37, 3) := by decide +kernel
theorem dX9_run_67 : decode cX9_run 67 = .ok (.invokevirtual 227, 3) := by decide +kernel
theorem dX9_run_70 : decode cX9_run 70 = .ok (.astore_n 1, 1) := by decide +kernel
theorem dX9_run_71 : decode cX9_run 71 = .ok (.iconst 0, 1) := by decide +kernel
theorem dX9_run_72 : decode cX9_run 72 = .ok (.istore_n 2, 1) := by decide +kernel
theorem dX9_run_73 : decode cX9_run 73 = .ok (.iload_n 2, 1) := by decide +kernel
theorem dX9_run_74 : decode cX9_run 74 = .ok (.aload_n 1, 1) := by decide +kernel
theorem dX9_run_75 : decode cX9_run 75 = .ok (.invokevirtual 231, 3) := by decide +kernel
theorem dX9_run_78 : decode cX9_run 78 = .ok (.if_icmp .ge 23, 3) := by decide +kernel
theorem dX9_run_81 : decode cX9_run 81 = .ok (.aload_n 0, 1) := by decide +kernel
theorem dX9_run_82 : decode cX9_run 82 = .ok (.aload_n 1, 1) := by decide +kernel
theorem dX9_run_83 : decode cX9_run 83 = .ok (.iload_n 2, 1) := by decide +kernel
theorem dX9_run_84 : decode cX9_run 84 = .ok (.invokevirtual 234, 3) := by decide +kernel
theorem dX9_run_87 : decode cX9_run 87 = .ok (.aload_n 1, 1) := by decide +kernel
theorem dX9_run_88 : decode cX9_run 88 = .ok (.iload_n 2, 1) := by decide +kernel
theorem dX9_run_89 : decode cX9_run 89 = .ok (.invokevirtual 237, 3) := by decide +kernel
theorem dX9_run_92 : decode cX9_run 92 = .ok (.invokevirtual 240, 3) := by decide +kernel
theorem dX9_run_95 : decode cX9_run 95 = .ok (.iinc 2 1, 3) := by decide +kernel
theorem dX9_run_98 : decode cX9_run 98 = .ok (.goto (-25), 3) := by decide +kernel
theorem dX9_run_101 : decode cX9_run 101 = .ok (.aload_n 1, 1) := by decide +kernel
theorem dX9_run_102 : decode cX9_run 102 = .ok (.invokevirtual 231, 3) := by decide +kernel
theorem dX9_run_105 : decode cX9_run 105 = .ok (.ireturn, 1) := by decide +kernel
theorem dX9_errorPosition_0 : decode cX9_errorPosition 0 = .ok (.aload_n 0, 1) := by decide +kernel
theorem dX9_errorPosition_1 : decode cX9_errorPosition 1 = .ok (.getfield 48, 3) := by decide +kernel
theorem dX9_errorPosition_4 : decode cX9_errorPosition 4 = .ok (.ireturn, 1) := by decide +kernel
theorem dX9_setFrames_0 : decode cX9_setFrames 0 = .ok (.iload_n 1, 1) := by decide +kernel
theorem dX9_setFrames_1 : decode cX9_setFrames 1 = .ok (.iconst 1, 1) := by decide +kernel
theorem dX9_setFrames_2 : decode cX9_setFrames 2 = .ok (.bipush 8, 2) := by decide +kernel
theorem dX9_setFrames_4 : decode cX9_setFrames 4 = .ok (.invokestatic 81, 3) := by decide +kernel
theorem dX9_setFrames_7 : decode cX9_setFrames 7 = .ok (.aload_n 0, 1) := by decide +kernel
theorem dX9_setFrames_8 : decode cX9_setFrames 8 = .ok (.getfield 44, 3) := by decide +kernel
theorem dX9_setFrames_11 : decode cX9_setFrames 11 = .ok (.iload_n 1, 1) := by decide +kernel
theorem dX9_setFrames_12 : decode cX9_setFrames 12 = .ok (.invokevirtual 243, 3) := by decide +kernel
theorem dX9_setFrames_15 : decode cX9_setFrames 15 = .ok (.ireturn, 1) := by decide +kernel
theorem dX9_flush_0 : decode cX9_flush 0 = .ok (.aload_n 0, 1) := by decide +kernel
theorem dX9_flush_1 : decode cX9_flush 1 = .ok (.getfield 44, 3) := by decide +kernel
theorem dX9_flush_4 : decode cX9_flush 4 = .ok (.invokevirtual 246, 3) := by decide +kernel
theorem dX9_flush_7 : decode cX9_flush 7 = .ok (.ireturn, 1) := by decide +kernel
theorem dX9_accumulator_0 : decode cX9_accumulator 0 = .ok (.aload_n 0, 1) := by decide +kernel
theorem dX9_accumulator_1 : decode cX9_accumulator 1 = .ok (.getfield 44, 3) := by decide +kernel
theorem dX9_accumulator_4 : decode cX9_accumulator 4 = .ok (.invokevirtual 249, 3) := by decide +kernel
theorem dX9_accumulator_7 : decode cX9_accumulator 7 = .ok (.ireturn, 1) := by decide +kernel
theorem dX9_wordAt_0 : decode cX9_wordAt 0 = .ok (.iload_n 1, 1) := by decide +kernel
theorem dX9_wordAt_1 : decode cX9_wordAt 1 = .ok (.iconst 0, 1) := by decide +kernel
theorem dX9_wordAt_2 : decode cX9_wordAt 2 = .ok (.bipush 63, 2) := by decide +kernel
theorem dX9_wordAt_4 : decode cX9_wordAt 4 = .ok (.invokestatic 81, 3) := by decide +kernel
theorem dX9_wordAt_7 : decode cX9_wordAt 7 = .ok (.aload_n 0, 1) := by decide +kernel
theorem dX9_wordAt_8 : decode cX9_wordAt 8 = .ok (.getfield 44, 3) := by decide +kernel
theorem dX9_wordAt_11 : decode cX9_wordAt 11 = .ok (.iload_n 1, 1) := by decide +kernel
theorem dX9_wordAt_12 : decode cX9_wordAt 12 = .ok (.invokevirtual 252, 3) := by decide +kernel
theorem dX9_wordAt_15 : decode cX9_wordAt 15 = .ok (.ireturn, 1) := by decide +kernel
theorem dX9_discAt_0 : decode cX9_discAt 0 = .ok (.iload_n 1, 1) := by decide +kernel
theorem dX9_discAt_1 : decode cX9_discAt 1 = .ok (.iconst 0, 1) := by decide +kernel
theorem dX9_discAt_2 : decode cX9_discAt 2 = .ok (.bipush 63, 2) := by decide +kernel
theorem dX9_discAt_4 : decode cX9_discAt 4 = .ok (.invokestatic 81, 3) := by decide +kernel
theorem dX9_discAt_7 : decode cX9_discAt 7 = .ok (.aload_n 0, 1) := by decide +kernel
theorem dX9_discAt_8 : decode cX9_discAt 8 = .ok (.getfield 44, 3) := by decide +kernel
theorem dX9_discAt_11 : decode cX9_discAt 11 = .ok (.iload_n 1, 1) := by decide +kernel
theorem dX9_discAt_12 : decode cX9_discAt 12 = .ok (.invokevirtual 255, 3) := by decide +kernel
theorem dX9_discAt_15 : decode cX9_discAt 15 = .ok (.ireturn, 1) := by decide +kernel
theorem dX9_resident_0 : decode cX9_resident 0 = .ok (.aload_n 0, 1) := by decide +kernel
theorem dX9_resident_1 : decode cX9_resident 1 = .ok (.getfield 44, 3) := by decide +kernel
theorem dX9_resident_4 : decode cX9_resident 4 = .ok (.invokevirtual 258, 3) := by decide +kernel
theorem dX9_resident_7 : decode cX9_resident 7 = .ok (.invokevirtual 99, 3) := by decide +kernel
theorem dX9_resident_10 : decode cX9_resident 10 = .ok (.ireturn, 1) := by decide +kernel
theorem dX9_residentAt_0 : decode cX9_residentAt 0 = .ok (.iload_n 1, 1) := by decide +kernel
theorem dX9_residentAt_1 : decode cX9_residentAt 1 = .ok (.aload_n 0, 1) := by decide +kernel
theorem dX9_residentAt_2 : decode cX9_residentAt 2 = .ok (.getfield 44, 3) := by decide +kernel
theorem dX9_residentAt_5 : decode cX9_residentAt 5 = .ok (.invokevirtual 258, 3) := by decide +kernel
theorem dX9_residentAt_8 : decode cX9_residentAt 8 = .ok (.invokevirtual 99, 3) := by decide +kernel
theorem dX9_residentAt_11 : decode cX9_residentAt 11 = .ok (.invokestatic 104, 3) := by decide +kernel
theorem dX9_residentAt_14 : decode cX9_residentAt 14 = .ok (.aload_n 0, 1) := by decide +kernel
theorem dX9_residentAt_15 : decode cX9_residentAt 15 = .ok (.getfield 44, 3) := by decide +kernel
theorem dX9_residentAt_18 : decode cX9_residentAt 18 = .ok (.invokevirtual 258, 3) := by decide +kernel
theorem dX9_residentAt_21 : decode cX9_residentAt 21 = .ok (.iload_n 1, 1) := by decide +kernel
theorem dX9_residentAt_22 : decode cX9_residentAt 22 = .ok (.invokevirtual 108, 3) := by decide +kernel
theorem dX9_residentAt_25 : decode cX9_residentAt 25 = .ok (.ireturn, 1) := by decide +kernel
theorem dX9_isDirty_0 : decode cX9_isDirty 0 = .ok (.iload_n 1, 1) := by decide +kernel
theorem dX9_isDirty_1 : decode cX9_isDirty 1 = .ok (.iconst 0, 1) := by decide +kernel
theorem dX9_isDirty_2 : decode cX9_isDirty 2 = .ok (.bipush 15, 2) := by decide +kernel
theorem dX9_isDirty_4 : decode cX9_isDirty 4 = .ok (.invokestatic 81, 3) := by decide +kernel
theorem dX9_isDirty_7 : decode cX9_isDirty 7 = .ok (.aload_n 0, 1) := by decide +kernel
theorem dX9_isDirty_8 : decode cX9_isDirty 8 = .ok (.getfield 44, 3) := by decide +kernel
theorem dX9_isDirty_11 : decode cX9_isDirty 11 = .ok (.iload_n 1, 1) := by decide +kernel
theorem dX9_isDirty_12 : decode cX9_isDirty 12 = .ok (.invokevirtual 261, 3) := by decide +kernel
theorem dX9_isDirty_15 : decode cX9_isDirty 15 = .ok (.ireturn, 1) := by decide +kernel
theorem dX9_faults_0 : decode cX9_faults 0 = .ok (.aload_n 0, 1) := by decide +kernel
theorem dX9_faults_1 : decode cX9_faults 1 = .ok (.getfield 44, 3) := by decide +kernel
theorem dX9_faults_4 : decode cX9_faults 4 = .ok (.invokevirtual 264, 3) := by decide +kernel
theorem dX9_faults_7 : decode cX9_faults 7 = .ok (.ireturn, 1) := by decide +kernel
theorem dX9_writes_0 : decode cX9_writes 0 = .ok (.aload_n 0, 1) := by decide +kernel
theorem dX9_writes_1 : decode cX9_writes 1 = .ok (.getfield 44, 3) := by decide +kernel
theorem dX9_writes_4 : decode cX9_writes 4 = .ok (.invokevirtual 267, 3) := by decide +kernel
theorem dX9_writes_7 : decode cX9_writes 7 = .ok (.ireturn, 1) := by decide +kernel
theorem dX9_hitShare_0 : decode cX9_hitShare 0 = .ok (.aload_n 0, 1) := by decide +kernel
theorem dX9_hitShare_1 : decode cX9_hitShare 1 = .ok (.iload_n 1, 1) := by decide +kernel
theorem dX9_hitShare_2 : decode cX9_hitShare 2 = .ok (.invokevirtual 178, 3) := by decide +kernel
theorem dX9_hitShare_5 : decode cX9_hitShare 5 = .ok (.astore_n 2, 1) := by decide +kernel
theorem dX9_hitShare_6 : decode cX9_hitShare 6 = .ok (.aload_n 0, 1) := by decide +kernel
theorem dX9_hitShare_7 : decode cX9_hitShare 7 = .ok (.getfield 30, 3) := by decide +kernel
theorem dX9_hitShare_10 : decode cX9_hitShare 10 = .ok (.invokevirtual 168, 3) := by decide +kernel
theorem dX9_hitShare_13 : decode cX9_hitShare 13 = .ok (.istore_n 3, 1) := by decide +kernel
theorem dX9_hitShare_14 : decode cX9_hitShare 14 = .ok (.iload_n 3, 1) := by decide +kernel
theorem dX9_hitShare_15 : decode cX9_hitShare 15 = .ok (.ifCond .ne 5, 3) := by decide +kernel
theorem dX9_hitShare_18 : decode cX9_hitShare 18 = .ok (.fconst 0, 1) := by decide +kernel
theorem dX9_hitShare_19 : decode cX9_hitShare 19 = .ok (.freturn, 1) := by decide +kernel
theorem dX9_hitShare_20 : decode cX9_hitShare 20 = .ok (.aload_n 2, 1) := by decide +kernel
theorem dX9_hitShare_21 : decode cX9_hitShare 21 = .ok (.invokevirtual 182, 3) := by decide +kernel
theorem dX9_hitShare_24 : decode cX9_hitShare 24 = .ok (.i2f, 1) := by decide +kernel
theorem dX9_hitShare_25 : decode cX9_hitShare 25 = .ok (.iload_n 3, 1) := by decide +kernel
theorem dX9_hitShare_26 : decode cX9_hitShare 26 = .ok (.i2f, 1) := by decide +kernel
theorem dX9_hitShare_27 : decode cX9_hitShare 27 = .ok (.fdiv, 1) := by decide +kernel
theorem dX9_hitShare_28 : decode cX9_hitShare 28 = .ok (.freturn, 1) := by decide +kernel
theorem dX9_meanDistance_0 : decode cX9_meanDistance 0 = .ok (.aload_n 0, 1) := by decide +kernel
theorem dX9_meanDistance_1 : decode cX9_meanDistance 1 = .ok (.getfield 30, 3) := by decide +kernel
theorem dX9_meanDistance_4 : decode cX9_meanDistance 4 = .ok (.bipush 100, 2) := by decide +kernel
theorem dX9_meanDistance_6 : decode cX9_meanDistance 6 = .ok (.invokevirtual 193, 3) := by decide +kernel
theorem dX9_meanDistance_9 : decode cX9_meanDistance 9 = .ok (.istore_n 1, 1) := by decide +kernel
theorem dX9_meanDistance_10 : decode cX9_meanDistance 10 = .ok (.iload_n 1, 1) := by decide +kernel
theorem dX9_meanDistance_11 : decode cX9_meanDistance 11 = .ok (.ifCond .ne 5, 3) := by decide +kernel
theorem dX9_meanDistance_14 : decode cX9_meanDistance 14 = .ok (.dconst 0, 1) := by decide +kernel
theorem dX9_meanDistance_15 : decode cX9_meanDistance 15 = .ok (.dreturn, 1) := by decide +kernel
theorem dX9_meanDistance_16 : decode cX9_meanDistance 16 = .ok (.aload_n 0, 1) := by decide +kernel
theorem dX9_meanDistance_17 : decode cX9_meanDistance 17 = .ok (.getfield 30, 3) := by decide +kernel
theorem dX9_meanDistance_20 : decode cX9_meanDistance 20 = .ok (.invokevirtual 270, 3) := by decide +kernel
theorem dX9_meanDistance_23 : decode cX9_meanDistance 23 = .ok (.i2d, 1) := by decide +kernel
theorem dX9_meanDistance_24 : decode cX9_meanDistance 24 = .ok (.iload_n 1, 1) := by decide +kernel
theorem dX9_meanDistance_25 : decode cX9_meanDistance 25 = .ok (.i2d, 1) := by decide +kernel
theorem dX9_meanDistance_26 : decode cX9_meanDistance 26 = .ok (.ddiv, 1) := by decide +kernel
theorem dX9_meanDistance_27 : decode cX9_meanDistance 27 = .ok (.dreturn, 1) := by decide +kernel
theorem dX9_errors_0 : decode cX9_errors 0 = .ok (.iconst 0, 1) := by decide +kernel
theorem dX9_errors_1 : decode cX9_errors 1 = .ok (.istore_n 1, 1) := by decide +kernel
theorem dX9_errors_2 : decode cX9_errors 2 = .ok (.iconst 0, 1) := by decide +kernel
theorem dX9_errors_3 : decode cX9_errors 3 = .ok (.istore_n 2, 1) := by decide +kernel
theorem dX9_errors_4 : decode cX9_errors 4 = .ok (.iload_n 2, 1) := by decide +kernel
theorem dX9_errors_5 : decode cX9_errors 5 = .ok (.bipush 8, 2) := by decide +kernel
theorem dX9_errors_7 : decode cX9_errors 7 = .ok (.if_icmp .ge 28, 3) := by decide +kernel
theorem dX9_errors_10 : decode cX9_errors 10 = .ok (.aload_n 0, 1) := by decide +kernel
theorem dX9_errors_11 : decode cX9_errors 11 = .ok (.iload_n 2, 1) := by decide +kernel
theorem dX9_errors_12 : decode cX9_errors 12 = .ok (.invokevirtual 273, 3) := by decide +kernel
theorem dX9_errors_15 : decode cX9_errors 15 = .ok (.ifCond .ne 11, 3) := by decide +kernel
theorem dX9_errors_18 : decode cX9_errors 18 = .ok (.aload_n 0, 1) := by decide +kernel
theorem dX9_errors_19 : decode cX9_errors 19 = .ok (.iload_n 2, 1) := by decide +kernel
theorem dX9_errors_20 : decode cX9_errors 20 = .ok (.invokevirtual 276, 3) := by decide +kernel
theorem dX9_errors_23 : decode cX9_errors 23 = .ok (.ifCond .eq 6, 3) := by decide +kernel
theorem dX9_errors_26 : decode cX9_errors 26 = .ok (.iinc 1 1, 3) := by decide +kernel
theorem dX9_errors_29 : decode cX9_errors 29 = .ok (.iinc 2 1, 3) := by decide +kernel
theorem dX9_errors_32 : decode cX9_errors 32 = .ok (.goto (-28), 3) := by decide +kernel
theorem dX9_errors_35 : decode cX9_errors 35 = .ok (.iload_n 1, 1) := by decide +kernel
theorem dX9_errors_36 : decode cX9_errors 36 = .ok (.ireturn, 1) := by decide +kernel
theorem dX9_requireRange_0 : decode cX9_requireRange 0 = .ok (.iload_n 0, 1) := by decide +kernel
theorem dX9_requireRange_1 : decode cX9_requireRange 1 = .ok (.iload_n 1, 1) := by decide +kernel
theorem dX9_requireRange_2 : decode cX9_requireRange 2 = .ok (.if_icmp .lt 8, 3) := by decide +kernel
theorem dX9_requireRange_5 : decode cX9_requireRange 5 = .ok (.iload_n 0, 1) := by decide +kernel
theorem dX9_requireRange_6 : decode cX9_requireRange 6 = .ok (.iload_n 2, 1) := by decide +kernel
theorem dX9_requireRange_7 : decode cX9_requireRange 7 = .ok (.if_icmp .le 14, 3) := by decide +kernel
theorem dX9_requireRange_10 : decode cX9_requireRange 10 = .ok (.new 222, 3) := by decide +kernel
theorem dX9_requireRange_13 : decode cX9_requireRange 13 = .ok (.dup, 1) := by decide +kernel
theorem dX9_requireRange_14 : decode cX9_requireRange 14 = .ok (.ldc_w 279, 3) := by decide +kernel
theorem dX9_requireRange_17 : decode cX9_requireRange 17 = .ok (.invokespecial 226, 3) := by decide +kernel
theorem dX9_requireRange_20 : decode cX9_requireRange 20 = .ok (.athrow, 1) := by decide +kernel
theorem dX9_requireRange_21 : decode cX9_requireRange 21 = .ok (.return_, 1) := by decide +kernel
theorem dX9_requireKey_0 : decode cX9_requireKey 0 = .ok (.iload_n 0, 1) := by decide +kernel
theorem dX9_requireKey_1 : decode cX9_requireKey 1 = .ok (.iconst 0, 1) := by decide +kernel
theorem dX9_requireKey_2 : decode cX9_requireKey 2 = .ok (.bipush 99, 2) := by decide +kernel
theorem dX9_requireKey_4 : decode cX9_requireKey 4 = .ok (.invokestatic 81, 3) := by decide +kernel
theorem dX9_requireKey_7 : decode cX9_requireKey 7 = .ok (.return_, 1) := by decide +kernel
theorem dX9_requireValue_0 : decode cX9_requireValue 0 = .ok (.iload_n 0, 1) := by decide +kernel
theorem dX9_requireValue_1 : decode cX9_requireValue 1 = .ok (.iconst 0, 1) := by decide +kernel
theorem dX9_requireValue_2 : decode cX9_requireValue 2 = .ok (.sipush 999, 3) := by decide +kernel
theorem dX9_requireValue_5 : decode cX9_requireValue 5 = .ok (.invokestatic 81, 3) := by decide +kernel
theorem dX9_requireValue_8 : decode cX9_requireValue 8 = .ok (.return_, 1) := by decide +kernel
theorem dX9_requirePlace_0 : decode cX9_requirePlace 0 = .ok (.iload_n 0, 1) := by decide +kernel
theorem dX9_requirePlace_1 : decode cX9_requirePlace 1 = .ok (.ifCond .lt 8, 3) := by decide +kernel
theorem dX9_requirePlace_4 : decode cX9_requirePlace 4 = .ok (.iload_n 0, 1) := by decide +kernel
theorem dX9_requirePlace_5 : decode cX9_requirePlace 5 = .ok (.iload_n 1, 1) := by decide +kernel
theorem dX9_requirePlace_6 : decode cX9_requirePlace 6 = .ok (.if_icmp .lt 14, 3) := by decide +kernel
theorem dX9_requirePlace_9 : decode cX9_requirePlace 9 = .ok (.new 281, 3) := by decide +kernel
theorem dX9_requirePlace_12 : decode cX9_requirePlace 12 = .ok (.dup, 1) := by decide +kernel
theorem dX9_requirePlace_13 : decode cX9_requirePlace 13 = .ok (.ldc_w 283, 3) := by decide +kernel
theorem dX9_requirePlace_16 : decode cX9_requirePlace 16 = .ok (.invokespecial 285, 3) := by decide +kernel
theorem dX9_requirePlace_19 : decode cX9_requirePlace 19 = .ok (.athrow, 1) := by decide +kernel
theorem dX9_requirePlace_20 : decode cX9_requirePlace 20 = .ok (.return_, 1) := by decide +kernel
theorem dX9_chosenMap_0 : decode cX9_chosenMap 0 = .ok (.iload_n 1, 1) := by decide +kernel
theorem dX9_chosenMap_1 : decode cX9_chosenMap 1 = .ok (.iconst 0, 1) := by decide +kernel
theorem dX9_chosenMap_2 : decode cX9_chosenMap 2 = .ok (.iconst 1, 1) := by decide +kernel
theorem dX9_chosenMap_3 : decode cX9_chosenMap 3 = .ok (.invokestatic 81, 3) := by decide +kernel
theorem dX9_chosenMap_6 : decode cX9_chosenMap 6 = .ok (.iload_n 1, 1) := by decide +kernel
theorem dX9_chosenMap_7 : decode cX9_chosenMap 7 = .ok (.ifCond .ne 10, 3) := by decide +kernel
theorem dX9_chosenMap_10 : decode cX9_chosenMap 10 = .ok (.aload_n 0, 1) := by decide +kernel
theorem dX9_chosenMap_11 : decode cX9_chosenMap 11 = .ok (.getfield 14, 3) := by decide +kernel
theorem dX9_chosenMap_14 : decode cX9_chosenMap 14 = .ok (.goto 7, 3) := by decide +kernel
theorem dX9_chosenMap_17 : decode cX9_chosenMap 17 = .ok (.aload_n 0, 1) := by decide +kernel
theorem dX9_chosenMap_18 : decode cX9_chosenMap 18 = .ok (.getfield 18, 3) := by decide +kernel
theorem dX9_chosenMap_21 : decode cX9_chosenMap 21 = .ok (.areturn, 1) := by decide +kernel
theorem dX9_chosenCache_0 : decode cX9_chosenCache 0 = .ok (.iload_n 1, 1) := by decide +kernel
theorem dX9_chosenCache_1 : decode cX9_chosenCache 1 = .ok (.iconst 1, 1) := by decide +kernel
theorem dX9_chosenCache_2 : decode cX9_chosenCache 2 = .ok (.bipush 8, 2) := by decide +kernel
theorem dX9_chosenCache_4 : decode cX9_chosenCache 4 = .ok (.invokestatic 81, 3) := by decide +kernel
theorem dX9_chosenCache_7 : decode cX9_chosenCache 7 = .ok (.aload_n 0, 1) := by decide +kernel
theorem dX9_chosenCache_8 : decode cX9_chosenCache 8 = .ok (.getfield 23, 3) := by decide +kernel
theorem dX9_chosenCache_11 : decode cX9_chosenCache 11 = .ok (.iload_n 1, 1) := by decide +kernel
theorem dX9_chosenCache_12 : decode cX9_chosenCache 12 = .ok (.iconst 1, 1) := by decide +kernel
theorem dX9_chosenCache_13 : decode cX9_chosenCache 13 = .ok (.isub, 1) := by decide +kernel
theorem dX9_chosenCache_14 : decode cX9_chosenCache 14 = .ok (.aaload, 1) := by decide +kernel
theorem dX9_chosenCache_15 : decode cX9_chosenCache 15 = .ok (.areturn, 1) := by decide +kernel
theorem dX9_askCaches_0 : decode cX9_askCaches 0 = .ok (.iconst 0, 1) := by decide +kernel
theorem dX9_askCaches_1 : decode cX9_askCaches 1 = .ok (.istore_n 2, 1) := by decide +kernel
theorem dX9_askCaches_2 : decode cX9_askCaches 2 = .ok (.iconst 0, 1) := by decide +kernel
theorem dX9_askCaches_3 : decode cX9_askCaches 3 = .ok (.istore_n 3, 1) := by decide +kernel
theorem dX9_askCaches_4 : decode cX9_askCaches 4 = .ok (.iload_n 3, 1) := by decide +kernel
theorem dX9_askCaches_5 : decode cX9_askCaches 5 = .ok (.bipush 8, 2) := by decide +kernel
theorem dX9_askCaches_7 : decode cX9_askCaches 7 = .ok (.if_icmp .ge 28, 3) := by decide +kernel
theorem dX9_askCaches_10 : decode cX9_askCaches 10 = .ok (.aload_n 0, 1) := by decide +kernel
theorem dX9_askCaches_11 : decode cX9_askCaches 11 = .ok (.getfield 23, 3) := by decide +kernel
theorem dX9_askCaches_14 : decode cX9_askCaches 14 = .ok (.iload_n 3, 1) := by decide +kernel
theorem dX9_askCaches_15 : decode cX9_askCaches 15 = .ok (.aaload, 1) := by decide +kernel
theorem dX9_askCaches_16 : decode cX9_askCaches 16 = .ok (.iload_n 1, 1) := by decide +kernel
theorem dX9_askCaches_17 : decode cX9_askCaches 17 = .ok (.invokevirtual 286, 3) := by decide +kernel
theorem dX9_askCaches_20 : decode cX9_askCaches 20 = .ok (.ifCond .eq 9, 3) := by decide +kernel
theorem dX9_askCaches_23 : decode cX9_askCaches 23 = .ok (.iload_n 2, 1) := by decide +kernel
theorem dX9_askCaches_24 : decode cX9_askCaches 24 = .ok (.iconst 1, 1) := by decide +kernel
theorem dX9_askCaches_25 : decode cX9_askCaches 25 = .ok (.iload_n 3, 1) := by decide +kernel
theorem dX9_askCaches_26 : decode cX9_askCaches 26 = .ok (.ishl, 1) := by decide +kernel
theorem dX9_askCaches_27 : decode cX9_askCaches 27 = .ok (.ior, 1) := by decide +kernel
theorem dX9_askCaches_28 : decode cX9_askCaches 28 = .ok (.istore_n 2, 1) := by decide +kernel
theorem dX9_askCaches_29 : decode cX9_askCaches 29 = .ok (.iinc 3 1, 3) := by decide +kernel
theorem dX9_askCaches_32 : decode cX9_askCaches 32 = .ok (.goto (-28), 3) := by decide +kernel
theorem dX9_askCaches_35 : decode cX9_askCaches 35 = .ok (.aload_n 0, 1) := by decide +kernel
theorem dX9_askCaches_36 : decode cX9_askCaches 36 = .ok (.getfield 30, 3) := by decide +kernel
theorem dX9_askCaches_39 : decode cX9_askCaches 39 = .ok (.iload_n 1, 1) := by decide +kernel
theorem dX9_askCaches_40 : decode cX9_askCaches 40 = .ok (.invokevirtual 289, 3) := by decide +kernel
theorem dX9_askCaches_43 : decode cX9_askCaches 43 = .ok (.iload_n 2, 1) := by decide +kernel
theorem dX9_askCaches_44 : decode cX9_askCaches 44 = .ok (.ireturn, 1) := by decide +kernel
theorem dX9_performStep_0 : decode cX9_performStep 0 = .ok (.iload_n 1, 1) := by decide +kernel
theorem dX9_performStep_1 : decode cX9_performStep 1 = .ok (.bipush 99, 2) := by decide +kernel
theorem dX9_performStep_3 : decode cX9_performStep 3 = .ok (.if_icmp .eq 11, 3) := by decide +kernel
theorem dX9_performStep_6 : decode cX9_performStep 6 = .ok (.aload_n 0, 1) := by decide +kernel
theorem dX9_performStep_7 : decode cX9_performStep 7 = .ok (.iload_n 2, 1) := by decide +kernel
theorem dX9_performStep_8 : decode cX9_performStep 8 = .ok (.iconst 4, 1) := by decide +kernel
theorem dX9_performStep_9 : decode cX9_performStep 9 = .ok (.idiv, 1) := by decide +kernel
theorem dX9_performStep_10 : decode cX9_performStep 10 = .ok (.invokevirtual 171, 3) := by decide +kernel
theorem dX9_performStep_13 : decode cX9_performStep 13 = .ok (.pop, 1) := by decide +kernel
theorem dX9_performStep_14 : decode cX9_performStep 14 = .ok (.aload_n 0, 1) := by decide +kernel
theorem dX9_performStep_15 : decode cX9_performStep 15 = .ok (.getfield 44, 3) := by decide +kernel
theorem dX9_performStep_18 : decode cX9_performStep 18 = .ok (.iload_n 1, 1) := by decide +kernel
theorem dX9_performStep_19 : decode cX9_performStep 19 = .ok (.iload_n 2, 1) := by decide +kernel
theorem dX9_performStep_20 : decode cX9_performStep 20 = .ok (.invokevirtual 292, 3) := by decide +kernel
theorem dX9_performStep_23 : decode cX9_performStep 23 = .ok (.return_, 1) := by decide +kernel
theorem dX9_hitsContradictLog_0 : decode cX9_hitsContradictLog 0 = .ok (.aload_n 0, 1) := by decide +kernel
theorem dX9_hitsContradictLog_1 : decode cX9_hitsContradictLog 1 = .ok (.getfield 23, 3) := by decide +kernel
theorem dX9_hitsContradictLog_4 : decode cX9_hitsContradictLog 4 = .ok (.iload_n 1, 1) := by decide +kernel
theorem dX9_hitsContradictLog_5 : decode cX9_hitsContradictLog 5 = .ok (.aaload, 1) := by decide +kernel
theorem dX9_hitsContradictLog_6 : decode cX9_hitsContradictLog 6 = .ok (.invokevirtual 182, 3) := by decide +kernel
theorem dX9_hitsContradictLog_9 : decode cX9_hitsContradictLog 9 = .ok (.aload_n 0, 1) := by decide +kernel
theorem dX9_hitsContradictLog_10 : decode cX9_hitsContradictLog 10 = .ok (.getfield 30, 3) := by decide +kernel
theorem dX9_hitsContradictLog_13 : decode cX9_hitsContradictLog 13 = .ok (.iload_n 1, 1) := by decide +kernel
theorem dX9_hitsContradictLog_14 : decode cX9_hitsContradictLog 14 = .ok (.iconst 1, 1) := by decide +kernel
theorem dX9_hitsContradictLog_15 : decode cX9_hitsContradictLog 15 = .ok (.iadd, 1) := by decide +kernel
theorem dX9_hitsContradictLog_16 : decode cX9_hitsContradictLog 16 = .ok (.invokevirtual 193, 3) := by decide +kernel
theorem dX9_hitsContradictLog_19 : decode cX9_hitsContradictLog 19 = .ok (.if_icmp .eq 7, 3) := by decide +kernel
theorem dX9_hitsContradictLog_22 : decode cX9_hitsContradictLog 22 = .ok (.iconst 1, 1) := by decide +kernel
theorem dX9_hitsContradictLog_23 : decode cX9_hitsContradictLog 23 = .ok (.goto 4, 3) := by decide +kernel
theorem dX9_hitsContradictLog_26 : decode cX9_hitsContradictLog 26 = .ok (.iconst 0, 1) := by decide +kernel
theorem dX9_hitsContradictLog_27 : decode cX9_hitsContradictLog 27 = .ok (.ireturn, 1) := by decide +kernel
theorem dX9_hasKeyThatNextLacks_0 : decode cX9_hasKeyThatNextLacks 0 = .ok (.iload_n 1, 1) := by decide +kernel
theorem dX9_hasKeyThatNextLacks_1 : decode cX9_hasKeyThatNextLacks 1 = .ok (.iconst 1, 1) := by decide +kernel
theorem dX9_hasKeyThatNextLacks_2 : decode cX9_hasKeyThatNextLacks 2 = .ok (.iadd, 1) := by decide +kernel
theorem dX9_hasKeyThatNextLacks_3 : decode cX9_hasKeyThatNextLacks 3 = .ok (.bipush 8, 2) := by decide +kernel
theorem dX9_hasKeyThatNextLacks_5 : decode cX9_hasKeyThatNextLacks 5 = .ok (.if_icmp .lt 5, 3) := by decide +kernel
theorem dX9_hasKeyThatNextLacks_8 : decode cX9_hasKeyThatNextLacks 8 = .ok (.iconst 0, 1) := by decide +kernel
theorem dX9_hasKeyThatNextLacks_9 : decode cX9_hasKeyThatNextLacks 9 = .ok (.ireturn, 1) := by decide +kernel
theorem dX9_hasKeyThatNextLacks_10 : decode cX9_hasKeyThatNextLacks 10 = .ok (.aload_n 0, 1) := by decide +kernel
theorem dX9_hasKeyThatNextLacks_11 : decode cX9_hasKeyThatNextLacks 11 = .ok (.getfield 23, 3) := by decide +kernel
theorem dX9_hasKeyThatNextLacks_14 : decode cX9_hasKeyThatNextLacks 14 = .ok (.iload_n 1, 1) := by decide +kernel
theorem dX9_hasKeyThatNextLacks_15 : decode cX9_hasKeyThatNextLacks 15 = .ok (.aaload, 1) := by decide +kernel
theorem dX9_hasKeyThatNextLacks_16 : decode cX9_hasKeyThatNextLacks 16 = .ok (.invokevirtual 185, 3) := by decide +kernel
theorem dX9_hasKeyThatNextLacks_19 : decode cX9_hasKeyThatNextLacks 19 = .ok (.astore_n 2, 1) := by decide +kernel
theorem dX9_hasKeyThatNextLacks_20 : decode cX9_hasKeyThatNextLacks 20 = .ok (.aload_n 0, 1) := by decide +kernel
theorem dX9_hasKeyThatNextLacks_21 : decode cX9_hasKeyThatNextLacks 21 = .ok (.getfield 23, 3) := by decide +kernel
theorem dX9_hasKeyThatNextLacks_24 : decode cX9_hasKeyThatNextLacks 24 = .ok (.iload_n 1, 1) := by decide +kernel
theorem dX9_hasKeyThatNextLacks_25 : decode cX9_hasKeyThatNextLacks 25 = .ok (.iconst 1, 1) := by decide +kernel
theorem dX9_hasKeyThatNextLacks_26 : decode cX9_hasKeyThatNextLacks 26 = .ok (.iadd, 1) := by decide +kernel
theorem dX9_hasKeyThatNextLacks_27 : decode cX9_hasKeyThatNextLacks 27 = .ok (.aaload, 1) := by decide +kernel
theorem dX9_hasKeyThatNextLacks_28 : decode cX9_hasKeyThatNextLacks 28 = .ok (.invokevirtual 185, 3) := by decide +kernel
theorem dX9_hasKeyThatNextLacks_31 : decode cX9_hasKeyThatNextLacks 31 = .ok (.astore_n 3, 1) := by decide +kernel
theorem dX9_hasKeyThatNextLacks_32 : decode cX9_hasKeyThatNextLacks 32 = .ok (.iconst 0, 1) := by decide +kernel
theorem dX9_hasKeyThatNextLacks_33 : decode cX9_hasKeyThatNextLacks 33 = .ok (.istore 4, 2) := by decide +kernel
theorem dX9_hasKeyThatNextLacks_35 : decode cX9_hasKeyThatNextLacks 35 = .ok (.iload 4, 2) := by decide +kernel
theorem dX9_hasKeyThatNextLacks_37 : decode cX9_hasKeyThatNextLacks 37 = .ok (.aload_n 2, 1) := by decide +kernel
theorem dX9_hasKeyThatNextLacks_38 : decode cX9_hasKeyThatNextLacks 38 = .ok (.invokevirtual 99, 3) := by decide +kernel
theorem dX9_hasKeyThatNextLacks_41 : decode cX9_hasKeyThatNextLacks 41 = .ok (.if_icmp .ge 24, 3) := by decide +kernel
theorem dX9_hasKeyThatNextLacks_44 : decode cX9_hasKeyThatNextLacks 44 = .ok (.aload_n 3, 1) := by decide +kernel
theorem dX9_hasKeyThatNextLacks_45 : decode cX9_hasKeyThatNextLacks 45 = .ok (.aload_n 2, 1) := by decide +kernel
theorem dX9_hasKeyThatNextLacks_46 : decode cX9_hasKeyThatNextLacks 46 = .ok (.iload 4, 2) := by decide +kernel
theorem dX9_hasKeyThatNextLacks_48 : decode cX9_hasKeyThatNextLacks 48 = .ok (.invokevirtual 108, 3) := by decide +kernel
theorem dX9_hasKeyThatNextLacks_51 : decode cX9_hasKeyThatNextLacks 51 = .ok (.invokevirtual 186, 3) := by decide +kernel
theorem dX9_hasKeyThatNextLacks_54 : decode cX9_hasKeyThatNextLacks 54 = .ok (.ifCond .ne 5, 3) := by decide +kernel
theorem dX9_hasKeyThatNextLacks_57 : decode cX9_hasKeyThatNextLacks 57 = .ok (.iconst 1, 1) := by decide +kernel
theorem dX9_hasKeyThatNextLacks_58 : decode cX9_hasKeyThatNextLacks 58 = .ok (.ireturn, 1) := by decide +kernel
theorem dX9_hasKeyThatNextLacks_59 : decode cX9_hasKeyThatNextLacks 59 = .ok (.iinc 4 1, 3) := by decide +kernel
theorem dX9_hasKeyThatNextLacks_62 : decode cX9_hasKeyThatNextLacks 62 = .ok (.goto (-27), 3) := by decide +kernel
theorem dX9_hasKeyThatNextLacks_65 : decode cX9_hasKeyThatNextLacks 65 = .ok (.iconst 0, 1) := by decide +kernel
theorem dX9_hasKeyThatNextLacks_66 : decode cX9_hasKeyThatNextLacks 66 = .ok (.ireturn, 1) := by decide +kernel
end
section
theorem dX10_thrown_0 : decode cX10_thrown 0 = .ok (.aload_n 0, 1) := by decide +kernel
theorem dX10_thrown_1 : decode cX10_thrown 1 = .ok (.getfield 1, 3) := by decide +kernel
theorem dX10_thrown_4 : decode cX10_thrown 4 = .ok (.ireturn, 1) := by decide +kernel
theorem dX10_in_0 : decode cX10_in 0 = .ok (.iload_n 0, 1) := by decide +kernel
theorem dX10_in_1 : decode cX10_in 1 = .ok (.iload_n 1, 1) := by decide +kernel
theorem dX10_in_2 : decode cX10_in 2 = .ok (.if_icmp .lt 12, 3) := by decide +kernel
theorem dX10_in_5 : decode cX10_in 5 = .ok (.iload_n 0, 1) := by decide +kernel
theorem dX10_in_6 : decode cX10_in 6 = .ok (.iload_n 2, 1) := by decide +kernel
theorem dX10_in_7 : decode cX10_in 7 = .ok (.if_icmp .gt 7, 3) := by decide +kernel
theorem dX10_in_10 : decode cX10_in 10 = .ok (.iconst 1, 1) := by decide +kernel
theorem dX10_in_11 : decode cX10_in 11 = .ok (.goto 4, 3) := by decide +kernel
theorem dX10_in_14 : decode cX10_in 14 = .ok (.iconst 0, 1) := by decide +kernel
theorem dX10_in_15 : decode cX10_in 15 = .ok (.ireturn, 1) := by decide +kernel
theorem dX10_fails_0 : decode cX10_fails 0 = .ok (.iload_n 1, 1) := by decide +kernel
theorem dX10_fails_1 : decode cX10_fails 1 = .ok (.ifCond .ne 15, 3) := by decide +kernel
theorem dX10_fails_4 : decode cX10_fails 4 = .ok (.aload_n 0, 1) := by decide +kernel
theorem dX10_fails_5 : decode cX10_fails 5 = .ok (.getfield 1, 3) := by decide +kernel
theorem dX10_fails_8 : decode cX10_fails 8 = .ok (.ifCond .ne 8, 3) := by decide +kernel
theorem dX10_fails_11 : decode cX10_fails 11 = .ok (.aload_n 0, 1) := by decide +kernel
theorem dX10_fails_12 : decode cX10_fails 12 = .ok (.iload_n 2, 1) := by decide +kernel
theorem dX10_fails_13 : decode cX10_fails 13 = .ok (.putfield 1, 3) := by decide +kernel
theorem dX10_fails_16 : decode cX10_fails 16 = .ok (.aload_n 0, 1) := by decide +kernel
theorem dX10_fails_17 : decode cX10_fails 17 = .ok (.getfield 1, 3) := by decide +kernel
theorem dX10_fails_20 : decode cX10_fails 20 = .ok (.ifCond .eq 7, 3) := by decide +kernel
theorem dX10_fails_23 : decode cX10_fails 23 = .ok (.iconst 1, 1) := by decide +kernel
theorem dX10_fails_24 : decode cX10_fails 24 = .ok (.goto 4, 3) := by decide +kernel
theorem dX10_fails_27 : decode cX10_fails 27 = .ok (.iconst 0, 1) := by decide +kernel
theorem dX10_fails_28 : decode cX10_fails 28 = .ok (.ireturn, 1) := by decide +kernel
theorem dX10_init_0 : decode cX10_init 0 = .ok (.aload_n 0, 1) := by decide +kernel
theorem dX10_init_1 : decode cX10_init 1 = .ok (.invokespecial 7, 3) := by decide +kernel
theorem dX10_init_4 : decode cX10_init 4 = .ok (.aload_n 0, 1) := by decide +kernel
theorem dX10_init_5 : decode cX10_init 5 = .ok (.sipush 202, 3) := by decide +kernel
theorem dX10_init_8 : decode cX10_init 8 = .ok (.newarray .int, 2) := by decide +kernel
theorem dX10_init_10 : decode cX10_init 10 = .ok (.putfield 13, 3) := by decide +kernel
theorem dX10_init_13 : decode cX10_init 13 = .ok (.aload_n 0, 1) := by decide +kernel
theorem dX10_init_14 : decode cX10_init 14 = .ok (.sipush 202, 3) := by decide +kernel
theorem dX10_init_17 : decode cX10_init 17 = .ok (.newarray .int, 2) := by decide +kernel
theorem dX10_init_19 : decode cX10_init 19 = .ok (.putfield 17, 3) := by decide +kernel
theorem dX10_init_22 : decode cX10_init 22 = .ok (.aload_n 0, 1) := by decide +kernel
theorem dX10_init_23 : decode cX10_init 23 = .ok (.iconst 2, 1) := by decide +kernel
theorem dX10_init_24 : decode cX10_init 24 = .ok (.newarray .int, 2) := by decide +kernel
theorem dX10_init_26 : decode cX10_init 26 = .ok (.putfield 20, 3) := by decide +kernel
theorem dX10_init_29 : decode cX10_init 29 = .ok (.aload_n 0, 1) := by decide +kernel
theorem dX10_init_30 : decode cX10_init 30 = .ok (.iconst 4, 1) := by decide +kernel
theorem dX10_init_31 : decode cX10_init 31 = .ok (.putfield 23, 3) := by decide +kernel
theorem dX10_init_34 : decode cX10_init 34 = .ok (.aload_n 0, 1) := by decide +kernel
theorem dX10_init_35 : decode cX10_init 35 = .ok (.iconst (-1), 1) := by decide +kernel
theorem dX10_init_36 : decode cX10_init 36 = .ok (.putfield 26, 3) := by decide +kernel
theorem dX10_init_39 : decode cX10_init 39 = .ok (.aload_n 0, 1) := by decide +kernel
theorem dX10_init_40 : decode cX10_init 40 = .ok (.iconst 2, 1) := by decide +kernel
theorem dX10_init_41 : decode cX10_init 41 = .ok (.newarray .int, 2) := by decide +kernel
theorem dX10_init_43 : decode cX10_init 43 = .ok (.dup, 1) := by decide +kernel
theorem dX10_init_44 : decode cX10_init 44 = .ok (.iconst 0, 1) := by decide +kernel
theorem dX10_init_45 : decode cX10_init 45 = .ok (.iconst (-1), 1) := by decide +kernel
theorem dX10_init_46 : decode cX10_init 46 = .ok (.iastore, 1) := by decide +kernel
theorem dX10_init_47 : decode cX10_init 47 = .ok (.dup, 1) := by decide +kernel
theorem dX10_init_48 : decode cX10_init 48 = .ok (.iconst 1, 1) := by decide +kernel
theorem dX10_init_49 : decode cX10_init 49 = .ok (.iconst (-1), 1) := by decide +kernel
theorem dX10_init_50 : decode cX10_init 50 = .ok (.iastore, 1) := by decide +kernel
theorem dX10_init_51 : decode cX10_init 51 = .ok (.putfield 29, 3) := by decide +kernel
theorem dX10_init_54 : decode cX10_init 54 = .ok (.aload_n 0, 1) := by decide +kernel
theorem dX10_init_55 : decode cX10_init 55 = .ok (.iconst 2, 1) := by decide +kernel
theorem dX10_init_56 : decode cX10_init 56 = .ok (.newarray .boolean, 2) := by decide +kernel
theorem dX10_init_58 : decode cX10_init 58 = .ok (.putfield 32, 3) := by decide +kernel
theorem dX10_init_61 : decode cX10_init 61 = .ok (.aload_n 0, 1) := by decide +kernel
theorem dX10_init_62 : decode cX10_init 62 = .ok (.bipush 90, 2) := by decide +kernel
theorem dX10_init_64 : decode cX10_init 64 = .ok (.newarray .int, 2) := by decide +kernel
theorem dX10_init_66 : decode cX10_init 66 = .ok (.putfield 36, 3) := by decide +kernel
theorem dX10_init_69 : decode cX10_init 69 = .ok (.aload_n 0, 1) := by decide +kernel
theorem dX10_init_70 : decode cX10_init 70 = .ok (.bipush 9, 2) := by decide +kernel
theorem dX10_init_72 : decode cX10_init 72 = .ok (.newarray .int, 2) := by decide +kernel
theorem dX10_init_74 : decode cX10_init 74 = .ok (.putfield 39, 3) := by decide +kernel
theorem dX10_init_77 : decode cX10_init 77 = .ok (.aload_n 0, 1) := by decide +kernel
theorem dX10_init_78 : decode cX10_init 78 = .ok (.bipush 9, 2) := by decide +kernel
theorem dX10_init_80 : decode cX10_init 80 = .ok (.newarray .int, 2) := by decide +kernel
theorem dX10_init_82 : decode cX10_init 82 = .ok (.putfield 42, 3) := by decide +kernel
theorem dX10_init_85 : decode cX10_init 85 = .ok (.aload_n 0, 1) := by decide +kernel
theorem dX10_init_86 : decode cX10_init 86 = .ok (.sipush 1000, 3) := by decide +kernel
theorem dX10_init_89 : decode cX10_init 89 = .ok (.newarray .int, 2) := by decide +kernel
theorem dX10_init_91 : decode cX10_init 91 = .ok (.putfield 45, 3) := by decide +kernel
theorem dX10_init_94 : decode cX10_init 94 = .ok (.aload_n 0, 1) := by decide +kernel
theorem dX10_init_95 : decode cX10_init 95 = .ok (.bipush 100, 2) := by decide +kernel
theorem dX10_init_97 : decode cX10_init 97 = .ok (.newarray .boolean, 2) := by decide +kernel
theorem dX10_init_99 : decode cX10_init 99 = .ok (.putfield 48, 3) := by decide +kernel
theorem dX10_init_102 : decode cX10_init 102 = .ok (.aload_n 0, 1) := by decide +kernel
theorem dX10_init_103 : decode cX10_init 103 = .ok (.sipush 300, 3) := by decide +kernel
theorem dX10_init_106 : decode cX10_init 106 = .ok (.newarray .int, 2) := by decide +kernel
theorem dX10_init_108 : decode cX10_init 108 = .ok (.putfield 51, 3) := by decide +kernel
theorem dX10_init_111 : decode cX10_init 111 = .ok (.aload_n 0, 1) := by decide +kernel
theorem dX10_init_112 : decode cX10_init 112 = .ok (.sipush 300, 3) := by decide +kernel
theorem dX10_init_115 : decode cX10_init 115 = .ok (.newarray .int, 2) := by decide +kernel
theorem dX10_init_117 : decode cX10_init 117 = .ok (.putfield 54, 3) := by decide +kernel
theorem dX10_init_120 : decode cX10_init 120 = .ok (.aload_n 0, 1) := by decide +kernel
theorem dX10_init_121 : decode cX10_init 121 = .ok (.sipush 300, 3) := by decide +kernel
theorem dX10_init_124 : decode cX10_init 124 = .ok (.newarray .int, 2) := by decide +kernel
theorem dX10_init_126 : decode cX10_init 126 = .ok (.putfield 57, 3) := by decide +kernel
theorem dX10_init_129 : decode cX10_init 129 = .ok (.aload_n 0, 1) := by decide +kernel
theorem dX10_init_130 : decode cX10_init 130 = .ok (.iconst (-1), 1) := by decide +kernel
theorem dX10_init_131 : decode cX10_init 131 = .ok (.putfield 60, 3) := by decide +kernel
theorem dX10_init_134 : decode cX10_init 134 = .ok (.aload_n 0, 1) := by decide +kernel
theorem dX10_init_135 : decode cX10_init 135 = .ok (.iconst 4, 1) := by decide +kernel
theorem dX10_init_136 : decode cX10_init 136 = .ok (.newarray .int, 2) := by decide +kernel
theorem dX10_init_138 : decode cX10_init 138 = .ok (.putfield 63, 3) := by decide +kernel
theorem dX10_init_141 : decode cX10_init 141 = .ok (.aload_n 0, 1) := by decide +kernel
theorem dX10_init_142 : decode cX10_init 142 = .ok (.iconst 4, 1) := by decide +kernel
theorem dX10_init_143 : decode cX10_init 143 = .ok (.newarray .int, 2) := by decide +kernel
theorem dX10_init_145 : decode cX10_init 145 = .ok (.putfield 66, 3) := by decide +kernel
theorem dX10_init_148 : decode cX10_init 148 = .ok (.aload_n 0, 1) := by decide +kernel
theorem dX10_init_149 : decode cX10_init 149 = .ok (.bipush 64, 2) := by decide +kernel
theorem dX10_init_151 : decode cX10_init 151 = .ok (.newarray .int, 2) := by decide +kernel
theorem dX10_init_153 : decode cX10_init 153 = .ok (.putfield 69, 3) := by decide +kernel
theorem dX10_init_156 : decode cX10_init 156 = .ok (.aload_n 0, 1) := by decide +kernel
theorem dX10_init_157 : decode cX10_init 157 = .ok (.bipush 64, 2) := by decide +kernel
theorem dX10_init_159 : decode cX10_init 159 = .ok (.newarray .int, 2) := by decide +kernel
theorem dX10_init_161 : decode cX10_init 161 = .ok (.putfield 72, 3) := by decide +kernel
theorem dX10_init_164 : decode cX10_init 164 = .ok (.aload_n 0, 1) := by decide +kernel
theorem dX10_init_165 : decode cX10_init 165 = .ok (.bipush 9, 2) := by decide +kernel
theorem dX10_init_167 : decode cX10_init 167 = .ok (.newarray .int, 2) := by decide +kernel
theorem dX10_init_169 : decode cX10_init 169 = .ok (.putfield 75, 3) := by decide +kernel
theorem dX10_init_172 : decode cX10_init 172 = .ok (.aload_n 0, 1) := by decide +kernel
theorem dX10_init_173 : decode cX10_init 173 = .ok (.bipush 16, 2) := by decide +kernel
theorem dX10_init_175 : decode cX10_init 175 = .ok (.newarray .boolean, 2) := by decide +kernel
theorem dX10_init_177 : decode cX10_init 177 = .ok (.putfield 78, 3) := by decide +kernel
theorem dX10_init_180 : decode cX10_init 180 = .ok (.aload_n 0, 1) := by decide +kernel
theorem dX10_init_181 : decode cX10_init 181 = .ok (.iconst 2, 1) := by decide +kernel
theorem dX10_init_182 : decode cX10_init 182 = .ok (.putfield 81, 3) := by decide +kernel
theorem dX10_init_185 : decode cX10_init 185 = .ok (.iconst 0, 1) := by decide +kernel
theorem dX10_init_186 : decode cX10_init 186 = .ok (.istore_n 1, 1) := by decide +kernel
theorem dX10_init_187 : decode cX10_init 187 = .ok (.iload_n 1, 1) := by decide +kernel
theorem dX10_init_188 : decode cX10_init 188 = .ok (.bipush 64, 2) := by decide +kernel
theorem dX10_init_190 : decode cX10_init 190 = .ok (.if_icmp .ge 16, 3) := by decide +kernel
theorem dX10_init_193 : decode cX10_init 193 = .ok (.aload_n 0, 1) := by decide +kernel
theorem dX10_init_194 : decode cX10_init 194 = .ok (.getfield 69, 3) := by decide +kernel
theorem dX10_init_197 : decode cX10_init 197 = .ok (.iload_n 1, 1) := by decide +kernel
theorem dX10_init_198 : decode cX10_init 198 = .ok (.iload_n 1, 1) := by decide +kernel
theorem dX10_init_199 : decode cX10_init 199 = .ok (.iastore, 1) := by decide +kernel
theorem dX10_init_200 : decode cX10_init 200 = .ok (.iinc 1 1, 3) := by decide +kernel
theorem dX10_init_203 : decode cX10_init 203 = .ok (.goto (-16), 3) := by decide +kernel
theorem dX10_init_206 : decode cX10_init 206 = .ok (.return_, 1) := by decide +kernel
theorem dX10_noMap_0 : decode cX10_noMap 0 = .ok (.aload_n 0, 1) := by decide +kernel
theorem dX10_noMap_1 : decode cX10_noMap 1 = .ok (.iload_n 1, 1) := by decide +kernel
theorem dX10_noMap_2 : decode cX10_noMap 2 = .ok (.iconst 0, 1) := by decide +kernel
theorem dX10_noMap_3 : decode cX10_noMap 3 = .ok (.iconst 1, 1) := by decide +kernel
theorem dX10_noMap_4 : decode cX10_noMap 4 = .ok (.invokestatic 84, 3) := by decide +kernel
theorem dX10_noMap_7 : decode cX10_noMap 7 = .ok (.iconst 1, 1) := by decide +kernel
theorem dX10_noMap_8 : decode cX10_noMap 8 = .ok (.invokevirtual 88, 3) := by decide +kernel
theorem dX10_noMap_11 : decode cX10_noMap 11 = .ok (.ireturn, 1) := by decide +kernel
theorem dX10_noKey_0 : decode cX10_noKey 0 = .ok (.aload_n 0, 1) := by decide +kernel
theorem dX10_noKey_1 : decode cX10_noKey 1 = .ok (.iload_n 1, 1) := by decide +kernel
theorem dX10_noKey_2 : decode cX10_noKey 2 = .ok (.invokevirtual 92, 3) := by decide +kernel
theorem dX10_noKey_5 : decode cX10_noKey 5 = .ok (.ifCond .ne 18, 3) := by decide +kernel
theorem dX10_noKey_8 : decode cX10_noKey 8 = .ok (.aload_n 0, 1) := by decide +kernel
theorem dX10_noKey_9 : decode cX10_noKey 9 = .ok (.iload_n 2, 1) := by decide +kernel
theorem dX10_noKey_10 : decode cX10_noKey 10 = .ok (.iconst 0, 1) := by decide +kernel
theorem dX10_noKey_11 : decode cX10_noKey 11 = .ok (.bipush 99, 2) := by decide +kernel
theorem dX10_noKey_13 : decode cX10_noKey 13 = .ok (.invokestatic 84, 3) := by decide +kernel
theorem dX10_noKey_16 : decode cX10_noKey 16 = .ok (.iconst 1, 1) := by decide +kernel
theorem dX10_noKey_17 : decode cX10_noKey 17 = .ok (.invokevirtual 88, 3) := by decide +kernel
theorem dX10_noKey_20 : decode cX10_noKey 20 = .ok (.ifCond .eq 7, 3) := by decide +kernel
theorem dX10_noKey_23 : decode cX10_noKey 23 = .ok (.iconst 1, 1) := by decide +kernel
theorem dX10_noKey_24 : decode cX10_noKey 24 = .ok (.goto 4, 3) := by decide +kernel
theorem dX10_noKey_27 : decode cX10_noKey 27 = .ok (.iconst 0, 1) := by decide +kernel
theorem dX10_noKey_28 : decode cX10_noKey 28 = .ok (.ireturn, 1) := by decide +kernel
theorem dX10_placeIn_0 : decode cX10_placeIn 0 = .ok (.iconst 0, 1) := by decide +kernel
theorem dX10_placeIn_1 : decode cX10_placeIn 1 = .ok (.istore_n 3, 1) := by decide +kernel
theorem dX10_placeIn_2 : decode cX10_placeIn 2 = .ok (.iload_n 3, 1) := by decide +kernel
theorem dX10_placeIn_3 : decode cX10_placeIn 3 = .ok (.aload_n 0, 1) := by decide +kernel
theorem dX10_placeIn_4 : decode cX10_placeIn 4 = .ok (.getfield 20, 3) := by decide +kernel
theorem dX10_placeIn_7 : decode cX10_placeIn 7 = .ok (.iload_n 1, 1) := by decide +kernel
theorem dX10_placeIn_8 : decode cX10_placeIn 8 = .ok (.iaload, 1) := by decide +kernel
theorem dX10_placeIn_9 : decode cX10_placeIn 9 = .ok (.if_icmp .ge 26, 3) := by decide +kernel
theorem dX10_placeIn_12 : decode cX10_placeIn 12 = .ok (.aload_n 0, 1) := by decide +kernel
theorem dX10_placeIn_13 : decode cX10_placeIn 13 = .ok (.getfield 13, 3) := by decide +kernel
theorem dX10_placeIn_16 : decode cX10_placeIn 16 = .ok (.bipush 101, 2) := by decide +kernel
theorem dX10_placeIn_18 : decode cX10_placeIn 18 = .ok (.iload_n 1, 1) := by decide +kernel
theorem dX10_placeIn_19 : decode cX10_placeIn 19 = .ok (.imul, 1) := by decide +kernel
theorem dX10_placeIn_20 : decode cX10_placeIn 20 = .ok (.iload_n 3, 1) := by decide +kernel
theorem dX10_placeIn_21 : decode cX10_placeIn 21 = .ok (.iadd, 1) := by decide +kernel
theorem dX10_placeIn_22 : decode cX10_placeIn 22 = .ok (.iaload, 1) := by decide +kernel
theorem dX10_placeIn_23 : decode cX10_placeIn 23 = .ok (.iload_n 2, 1) := by decide +kernel
theorem dX10_placeIn_24 : decode cX10_placeIn 24 = .ok (.if_icmp .ne 5, 3) := by decide +kernel
theorem dX10_placeIn_27 : decode cX10_placeIn 27 = .ok (.iload_n 3, 1) := by decide +kernel
theorem dX10_placeIn_28 : decode cX10_placeIn 28 = .ok (.ireturn, 1) := by decide +kernel
theorem dX10_placeIn_29 : decode cX10_placeIn 29 = .ok (.iinc 3 1, 3) := by decide +kernel
theorem dX10_placeIn_32 : decode cX10_placeIn 32 = .ok (.goto (-30), 3) := by decide +kernel
theorem dX10_placeIn_35 : decode cX10_placeIn 35 = .ok (.iconst (-1), 1) := by decide +kernel
theorem dX10_placeIn_36 : decode cX10_placeIn 36 = .ok (.ireturn, 1) := by decide +kernel
theorem dX10_takes_0 : decode cX10_takes 0 = .ok (.aload_n 0, 1) := by decide +kernel
theorem dX10_takes_1 : decode cX10_takes 1 = .ok (.getfield 17, 3) := by decide +kernel
theorem dX10_takes_4 : decode cX10_takes 4 = .ok (.bipush 101, 2) := by decide +kernel
theorem dX10_takes_6 : decode cX10_takes 6 = .ok (.iload_n 1, 1) := by decide +kernel
theorem dX10_takes_7 : decode cX10_takes 7 = .ok (.imul, 1) := by decide +kernel
theorem dX10_takes_8 : decode cX10_takes 8 = .ok (.iload_n 2, 1) := by decide +kernel
theorem dX10_takes_9 : decode cX10_takes 9 = .ok (.iadd, 1) := by decide +kernel
theorem dX10_takes_10 : decode cX10_takes 10 = .ok (.iaload, 1) := by decide +kernel
theorem dX10_takes_11 : decode cX10_takes 11 = .ok (.istore_n 3, 1) := by decide +kernel
theorem dX10_takes_12 : decode cX10_takes 12 = .ok (.aload_n 0, 1) := by decide +kernel
theorem dX10_takes_13 : decode cX10_takes 13 = .ok (.getfield 20, 3) := by decide +kernel
theorem dX10_takes_16 : decode cX10_takes 16 = .ok (.iload_n 1, 1) := by decide +kernel
theorem dX10_takes_17 : decode cX10_takes 17 = .ok (.dup2, 1) := by decide +kernel
theorem dX10_takes_18 : decode cX10_takes 18 = .ok (.iaload, 1) := by decide +kernel
theorem dX10_takes_19 : decode cX10_takes 19 = .ok (.iconst 1, 1) := by decide +kernel
theorem dX10_takes_20 : decode cX10_takes 20 = .ok (.isub, 1) := by decide +kernel
theorem dX10_takes_21 : decode cX10_takes 21 = .ok (.iastore, 1) := by decide +kernel
theorem dX10_takes_22 : decode cX10_takes 22 = .ok (.iload_n 2, 1) := by decide +kernel
theorem dX10_takes_23 : decode cX10_takes 23 = .ok (.istore 4, 2) := by decide +kernel
theorem dX10_takes_25 : decode cX10_takes 25 = .ok (.iload 4, 2) := by decide +kernel
theorem dX10_takes_27 : decode cX10_takes 27 = .ok (.aload_n 0, 1) := by decide +kernel
theorem dX10_takes_28 : decode cX10_takes 28 = .ok (.getfield 20, 3) := by decide +kernel
theorem dX10_takes_31 : decode cX10_takes 31 = .ok (.iload_n 1, 1) := by decide +kernel
theorem dX10_takes_32 : decode cX10_takes 32 = .ok (.iaload, 1) := by decide +kernel
theorem dX10_takes_33 : decode cX10_takes 33 = .ok (.if_icmp .ge 61, 3) := by decide +kernel
theorem dX10_takes_36 : decode cX10_takes 36 = .ok (.aload_n 0, 1) := by decide +kernel
theorem dX10_takes_37 : decode cX10_takes 37 = .ok (.getfield 13, 3) := by decide +kernel
theorem dX10_takes_40 : decode cX10_takes 40 = .ok (.bipush 101, 2) := by decide +kernel
theorem dX10_takes_42 : decode cX10_takes 42 = .ok (.iload_n 1, 1) := by decide +kernel
theorem dX10_takes_43 : decode cX10_takes 43 = .ok (.imul, 1) := by decide +kernel
theorem dX10_takes_44 : decode cX10_takes 44 = .ok (.iload 4, 2) := by decide +kernel
theorem dX10_takes_46 : decode cX10_takes 46 = .ok (.iadd, 1) := by decide +kernel
theorem dX10_takes_47 : decode cX10_takes 47 = .ok (.aload_n 0, 1) := by decide +kernel
theorem dX10_takes_48 : decode cX10_takes 48 = .ok (.getfield 13, 3) := by decide +kernel
theorem dX10_takes_51 : decode cX10_takes 51 = .ok (.bipush 101, 2) := by decide +kernel
theorem dX10_takes_53 : decode cX10_takes 53 = .ok (.iload_n 1, 1) := by decide +kernel
theorem dX10_takes_54 : decode cX10_takes 54 = .ok (.imul, 1) := by decide +kernel
theorem dX10_takes_55 : decode cX10_takes 55 = .ok (.iload 4, 2) := by decide +kernel
theorem dX10_takes_57 : decode cX10_takes 57 = .ok (.iadd, 1) := by decide +kernel
theorem dX10_takes_58 : decode cX10_takes 58 = .ok (.iconst 1, 1) := by decide +kernel
theorem dX10_takes_59 : decode cX10_takes 59 = .ok (.iadd, 1) := by decide +kernel
theorem dX10_takes_60 : decode cX10_takes 60 = .ok (.iaload, 1) := by decide +kernel
theorem dX10_takes_61 : decode cX10_takes 61 = .ok (.iastore, 1) := by decide +kernel
theorem dX10_takes_62 : decode cX10_takes 62 = .ok (.aload_n 0, 1) := by decide +kernel
theorem dX10_takes_63 : decode cX10_takes 63 = .ok (.getfield 17, 3) := by decide +kernel
theorem dX10_takes_66 : decode cX10_takes 66 = .ok (.bipush 101, 2) := by decide +kernel
theorem dX10_takes_68 : decode cX10_takes 68 = .ok (.iload_n 1, 1) := by decide +kernel
theorem dX10_takes_69 : decode cX10_takes 69 = .ok (.imul, 1) := by decide +kernel
theorem dX10_takes_70 : decode cX10_takes 70 = .ok (.iload 4, 2) := by decide +kernel
theorem dX10_takes_72 : decode cX10_takes 72 = .ok (.iadd, 1) := by decide +kernel
theorem dX10_takes_73 : decode cX10_takes 73 = .ok (.aload_n 0, 1) := by decide +kernel
theorem dX10_takes_74 : decode cX10_takes 74 = .ok (.getfield 17, 3) := by decide +kernel
theorem dX10_takes_77 : decode cX10_takes 77 = .ok (.bipush 101, 2) := by decide +kernel
theorem dX10_takes_79 : decode cX10_takes 79 = .ok (.iload_n 1, 1) := by decide +kernel
theorem dX10_takes_80 : decode cX10_takes 80 = .ok (.imul, 1) := by decide +kernel
theorem dX10_takes_81 : decode cX10_takes 81 = .ok (.iload 4, 2) := by decide +kernel
theorem dX10_takes_83 : decode cX10_takes 83 = .ok (.iadd, 1) := by decide +kernel
theorem dX10_takes_84 : decode cX10_takes 84 = .ok (.iconst 1, 1) := by decide +kernel
theorem dX10_takes_85 : decode cX10_takes 85 = .ok (.iadd, 1) := by decide +kernel
theorem dX10_takes_86 : decode cX10_takes 86 = .ok (.iaload, 1) := by decide +kernel
theorem dX10_takes_87 : decode cX10_takes 87 = .ok (.iastore, 1) := by decide +kernel
theorem dX10_takes_88 : decode cX10_takes 88 = .ok (.iinc 4 1, 3) := by decide +kernel
theorem dX10_takes_91 : decode cX10_takes 91 = .ok (.goto (-66), 3) := by decide +kernel
theorem dX10_takes_94 : decode cX10_takes 94 = .ok (.iload_n 3, 1) := by decide +kernel
theorem dX10_takes_95 : decode cX10_takes 95 = .ok (.ireturn, 1) := by decide +kernel
theorem dX10_comes_0 : decode cX10_comes 0 = .ok (.aload_n 0, 1) := by decide +kernel
theorem dX10_comes_1 : decode cX10_comes 1 = .ok (.getfield 13, 3) := by decide +kernel
theorem dX10_comes_4 : decode cX10_comes 4 = .ok (.bipush 101, 2) := by decide +kernel
theorem dX10_comes_6 : decode cX10_comes 6 = .ok (.iload_n 1, 1) := by decide +kernel
theorem dX10_comes_7 : decode cX10_comes 7 = .ok (.imul, 1) := by decide +kernel
theorem dX10_comes_8 : decode cX10_comes 8 = .ok (.aload_n 0, 1) := by decide +kernel
theorem dX10_comes_9 : decode cX10_comes 9 = .ok (.getfield 20, 3) := by decide +kernel
theorem dX10_comes_12 : decode cX10_comes 12 = .ok (.iload_n 1, 1) := by decide +kernel
theorem dX10_comes_13 : decode cX10_comes 13 = .ok (.iaload, 1) := by decide +kernel
theorem dX10_comes_14 : decode cX10_comes 14 = .ok (.iadd, 1) := by decide +kernel
theorem dX10_comes_15 : decode cX10_comes 15 = .ok (.iload_n 2, 1) := by decide +kernel
theorem dX10_comes_16 : decode cX10_comes 16 = .ok (.iastore, 1) := by decide +kernel
theorem dX10_comes_17 : decode cX10_comes 17 = .ok (.aload_n 0, 1) := by decide +kernel
theorem dX10_comes_18 : decode cX10_comes 18 = .ok (.getfield 17, 3) := by decide +kernel
theorem dX10_comes_21 : decode cX10_comes 21 = .ok (.bipush 101, 2) := by decide +kernel
theorem dX10_comes_23 : decode cX10_comes 23 = .ok (.iload_n 1, 1) := by decide +kernel
theorem dX10_comes_24 : decode cX10_comes 24 = .ok (.imul, 1) := by decide +kernel
theorem dX10_comes_25 : decode cX10_comes 25 = .ok (.aload_n 0, 1) := by decide +kernel
theorem dX10_comes_26 : decode cX10_comes 26 = .ok (.getfield 20, 3) := by decide +kernel
theorem dX10_comes_29 : decode cX10_comes 29 = .ok (.iload_n 1, 1) := by decide +kernel
theorem dX10_comes_30 : decode cX10_comes 30 = .ok (.iaload, 1) := by decide +kernel
theorem dX10_comes_31 : decode cX10_comes 31 = .ok (.iadd, 1) := by decide +kernel
theorem dX10_comes_32 : decode cX10_comes 32 = .ok (.iload_n 3, 1) := by decide +kernel
theorem dX10_comes_33 : decode cX10_comes 33 = .ok (.iastore, 1) := by decide +kernel
theorem dX10_comes_34 : decode cX10_comes 34 = .ok (.aload_n 0, 1) := by decide +kernel
theorem dX10_comes_35 : decode cX10_comes 35 = .ok (.getfield 20, 3) := by decide +kernel
theorem dX10_comes_38 : decode cX10_comes 38 = .ok (.iload_n 1, 1) := by decide +kernel
theorem dX10_comes_39 : decode cX10_comes 39 = .ok (.dup2, 1) := by decide +kernel
theorem dX10_comes_40 : decode cX10_comes 40 = .ok (.iaload, 1) := by decide +kernel
theorem dX10_comes_41 : decode cX10_comes 41 = .ok (.iconst 1, 1) := by decide +kernel
theorem dX10_comes_42 : decode cX10_comes 42 = .ok (.iadd, 1) := by decide +kernel
theorem dX10_comes_43 : decode cX10_comes 43 = .ok (.iastore, 1) := by decide +kernel
theorem dX10_comes_44 : decode cX10_comes 44 = .ok (.iload_n 1, 1) := by decide +kernel
theorem dX10_comes_45 : decode cX10_comes 45 = .ok (.ifCond .eq 16, 3) := by decide +kernel
theorem dX10_comes_48 : decode cX10_comes 48 = .ok (.aload_n 0, 1) := by decide +kernel
theorem dX10_comes_49 : decode cX10_comes 49 = .ok (.getfield 20, 3) := by decide +kernel
theorem dX10_comes_52 : decode cX10_comes 52 = .ok (.iconst 1, 1) := by decide +kernel
theorem dX10_comes_53 : decode cX10_comes 53 = .ok (.iaload, 1) := by decide +kernel
theorem dX10_comes_54 : decode cX10_comes 54 = .ok (.aload_n 0, 1) := by decide +kernel
theorem dX10_comes_55 : decode cX10_comes 55 = .ok (.getfield 23, 3) := by decide +kernel
theorem dX10_comes_58 : decode cX10_comes 58 = .ok (.if_icmp .gt 4, 3) := by decide +kernel
theorem dX10_comes_61 : decode cX10_comes 61 = .ok (.return_, 1) := by decide +kernel
theorem dX10_comes_62 : decode cX10_comes 62 = .ok (.aload_n 0, 1) := by decide +kernel
theorem dX10_comes_63 : decode cX10_comes 63 = .ok (.dup, 1) := by decide +kernel
theorem dX10_comes_64 : decode cX10_comes 64 = .ok (.getfield 96, 3) := by decide +kernel
theorem dX10_comes_67 : decode cX10_comes 67 = .ok (.iconst 1, 1) := by decide +kernel
theorem dX10_comes_68 : decode cX10_comes 68 = .ok (.iadd, 1) := by decide +kernel
theorem dX10_comes_69 : decode cX10_comes 69 = .ok (.putfield 96, 3) := by decide +kernel
theorem dX10_comes_72 : decode cX10_comes 72 = .ok (.aload_n 0, 1) := by decide +kernel
theorem dX10_comes_73 : decode cX10_comes 73 = .ok (.aload_n 0, 1) := by decide +kernel
theorem dX10_comes_74 : decode cX10_comes 74 = .ok (.getfield 13, 3) := by decide +kernel
theorem dX10_comes_77 : decode cX10_comes 77 = .ok (.bipush 101, 2) := by decide +kernel
theorem dX10_comes_79 : decode cX10_comes 79 = .ok (.iaload, 1) := by decide +kernel
theorem dX10_comes_80 : decode cX10_comes 80 = .ok (.putfield 26, 3) := by decide +kernel
theorem dX10_comes_83 : decode cX10_comes 83 = .ok (.aload_n 0, 1) := by decide +kernel
theorem dX10_comes_84 : decode cX10_comes 84 = .ok (.iconst 1, 1) := by decide +kernel
theorem dX10_comes_85 : decode cX10_comes 85 = .ok (.iconst 0, 1) := by decide +kernel
theorem dX10_comes_86 : decode cX10_comes 86 = .ok (.invokevirtual 99, 3) := by decide +kernel
theorem dX10_comes_89 : decode cX10_comes 89 = .ok (.pop, 1) := by decide +kernel
theorem dX10_comes_90 : decode cX10_comes 90 = .ok (.return_, 1) := by decide +kernel
theorem dX10_ends_0 : decode cX10_ends 0 = .ok (.aload_n 0, 1) := by decide +kernel
theorem dX10_ends_1 : decode cX10_ends 1 = .ok (.getfield 29, 3) := by decide +kernel
theorem dX10_ends_4 : decode cX10_ends 4 = .ok (.iload_n 1, 1) := by decide +kernel
theorem dX10_ends_5 : decode cX10_ends 5 = .ok (.iconst (-1), 1) := by decide +kernel
theorem dX10_ends_6 : decode cX10_ends 6 = .ok (.iastore, 1) := by decide +kernel
theorem dX10_ends_7 : decode cX10_ends 7 = .ok (.aload_n 0, 1) := by decide +kernel
theorem dX10_ends_8 : decode cX10_ends 8 = .ok (.getfield 32, 3) := by decide +kernel
theorem dX10_ends_11 : decode cX10_ends 11 = .ok (.iload_n 1, 1) := by decide +kernel
theorem dX10_ends_12 : decode cX10_ends 12 = .ok (.iconst 0, 1) := by decide +kernel
theorem dX10_ends_13 : decode cX10_ends 13 = .ok (.bastore, 1) := by decide +kernel
theorem dX10_ends_14 : decode cX10_ends 14 = .ok (.return_, 1) := by decide +kernel
theorem dX10_noPair_0 : decode cX10_noPair 0 = .ok (.aload_n 0, 1) := by decide +kernel
theorem dX10_noPair_1 : decode cX10_noPair 1 = .ok (.iload_n 1, 1) := by decide +kernel
theorem dX10_noPair_2 : decode cX10_noPair 2 = .ok (.iload_n 2, 1) := by decide +kernel
theorem dX10_noPair_3 : decode cX10_noPair 3 = .ok (.invokevirtual 103, 3) := by decide +kernel
theorem dX10_noPair_6 : decode cX10_noPair 6 = .ok (.ifCond .ne 19, 3) := by decide +kernel
theorem dX10_noPair_9 : decode cX10_noPair 9 = .ok (.aload_n 0, 1) := by decide +kernel
theorem dX10_noPair_10 : decode cX10_noPair 10 = .ok (.iload_n 3, 1) := by decide +kernel
theorem dX10_noPair_11 : decode cX10_noPair 11 = .ok (.iconst 0, 1) := by decide +kernel
theorem dX10_noPair_12 : decode cX10_noPair 12 = .ok (.sipush 999, 3) := by decide +kernel
theorem dX10_noPair_15 : decode cX10_noPair 15 = .ok (.invokestatic 84, 3) := by decide +kernel
theorem dX10_noPair_18 : decode cX10_noPair 18 = .ok (.iconst 1, 1) := by decide +kernel
theorem dX10_noPair_19 : decode cX10_noPair 19 = .ok (.invokevirtual 88, 3) := by decide +kernel
theorem dX10_noPair_22 : decode cX10_noPair 22 = .ok (.ifCond .eq 7, 3) := by decide +kernel
theorem dX10_noPair_25 : decode cX10_noPair 25 = .ok (.iconst 1, 1) := by decide +kernel
theorem dX10_noPair_26 : decode cX10_noPair 26 = .ok (.goto 4, 3) := by decide +kernel
theorem dX10_noPair_29 : decode cX10_noPair 29 = .ok (.iconst 0, 1) := by decide +kernel
theorem dX10_noPair_30 : decode cX10_noPair 30 = .ok (.ireturn, 1) := by decide +kernel
theorem dX10_put_0 : decode cX10_put 0 = .ok (.aload_n 0, 1) := by decide +kernel
theorem dX10_put_1 : decode cX10_put 1 = .ok (.iconst 0, 1) := by decide +kernel
theorem dX10_put_2 : decode cX10_put 2 = .ok (.putfield 1, 3) := by decide +kernel
theorem dX10_put_5 : decode cX10_put 5 = .ok (.aload_n 0, 1) := by decide +kernel
theorem dX10_put_6 : decode cX10_put 6 = .ok (.iload_n 1, 1) := by decide +kernel
theorem dX10_put_7 : decode cX10_put 7 = .ok (.iload_n 2, 1) := by decide +kernel
theorem dX10_put_8 : decode cX10_put 8 = .ok (.iload_n 3, 1) := by decide +kernel
theorem dX10_put_9 : decode cX10_put 9 = .ok (.invokevirtual 107, 3) := by decide +kernel
theorem dX10_put_12 : decode cX10_put 12 = .ok (.ifCond .eq 5, 3) := by decide +kernel
theorem dX10_put_15 : decode cX10_put 15 = .ok (.iconst 0, 1) := by decide +kernel
theorem dX10_put_16 : decode cX10_put 16 = .ok (.ireturn, 1) := by decide +kernel
theorem dX10_put_17 : decode cX10_put 17 = .ok (.aload_n 0, 1) := by decide +kernel
theorem dX10_put_18 : decode cX10_put 18 = .ok (.iload_n 1, 1) := by decide +kernel
theorem dX10_put_19 : decode cX10_put 19 = .ok (.invokevirtual 110, 3) := by decide +kernel
theorem dX10_put_22 : decode cX10_put 22 = .ok (.aload_n 0, 1) := by decide +kernel
theorem dX10_put_23 : decode cX10_put 23 = .ok (.iload_n 1, 1) := by decide +kernel
theorem dX10_put_24 : decode cX10_put 24 = .ok (.iload_n 2, 1) := by decide +kernel
theorem dX10_put_25 : decode cX10_put 25 = .ok (.invokevirtual 114, 3) := by decide +kernel
theorem dX10_put_28 : decode cX10_put 28 = .ok (.istore 4, 2) := by decide +kernel
theorem dX10_put_30 : decode cX10_put 30 = .ok (.iload 4, 2) := by decide +kernel
theorem dX10_put_32 : decode cX10_put 32 = .ok (.iconst (-1), 1) := by decide +kernel
theorem dX10_put_33 : decode cX10_put 33 = .ok (.if_icmp .ne 7, 3) := by decide +kernel
theorem dX10_put_36 : decode cX10_put 36 = .ok (.iconst (-1), 1) := by decide +kernel
theorem dX10_put_37 : decode cX10_put 37 = .ok (.goto 10, 3) := by decide +kernel
theorem dX10_put_40 : decode cX10_put 40 = .ok (.aload_n 0, 1) := by decide +kernel
theorem dX10_put_41 : decode cX10_put 41 = .ok (.iload_n 1, 1) := by decide +kernel
theorem dX10_put_42 : decode cX10_put 42 = .ok (.iload 4, 2) := by decide +kernel
theorem dX10_put_44 : decode cX10_put 44 = .ok (.invokevirtual 99, 3) := by decide +kernel
theorem dX10_put_47 : decode cX10_put 47 = .ok (.istore 5, 2) := by decide +kernel
theorem dX10_put_49 : decode cX10_put 49 = .ok (.aload_n 0, 1) := by decide +kernel
theorem dX10_put_50 : decode cX10_put 50 = .ok (.iload_n 1, 1) := by decide +kernel
theorem dX10_put_51 : decode cX10_put 51 = .ok (.iload_n 2, 1) := by decide +kernel
theorem dX10_put_52 : decode cX10_put 52 = .ok (.iload_n 3, 1) := by decide +kernel
theorem dX10_put_53 : decode cX10_put 53 = .ok (.invokevirtual 117, 3) := by decide +kernel
theorem dX10_put_56 : decode cX10_put 56 = .ok (.iload 5, 2) := by decide +kernel
theorem dX10_put_58 : decode cX10_put 58 = .ok (.ireturn, 1) := by decide +kernel
theorem dX10_uses_0 : decode cX10_uses 0 = .ok (.aload_n 0, 1) := by decide +kernel
theorem dX10_uses_1 : decode cX10_uses 1 = .ok (.iload_n 1, 1) := by decide +kernel
theorem dX10_uses_2 : decode cX10_uses 2 = .ok (.iload_n 2, 1) := by decide +kernel
theorem dX10_uses_3 : decode cX10_uses 3 = .ok (.invokevirtual 114, 3) := by decide +kernel
theorem dX10_uses_6 : decode cX10_uses 6 = .ok (.istore_n 3, 1) := by decide +kernel
theorem dX10_uses_7 : decode cX10_uses 7 = .ok (.iload_n 3, 1) := by decide +kernel
theorem dX10_uses_8 : decode cX10_uses 8 = .ok (.iconst (-1), 1) := by decide +kernel
theorem dX10_uses_9 : decode cX10_uses 9 = .ok (.if_icmp .ne 5, 3) := by decide +kernel
theorem dX10_uses_12 : decode cX10_uses 12 = .ok (.iconst (-1), 1) := by decide +kernel
theorem dX10_uses_13 : decode cX10_uses 13 = .ok (.ireturn, 1) := by decide +kernel
theorem dX10_uses_14 : decode cX10_uses 14 = .ok (.aload_n 0, 1) := by decide +kernel
theorem dX10_uses_15 : decode cX10_uses 15 = .ok (.iload_n 1, 1) := by decide +kernel
theorem dX10_uses_16 : decode cX10_uses 16 = .ok (.iload_n 3, 1) := by decide +kernel
theorem dX10_uses_17 : decode cX10_uses 17 = .ok (.invokevirtual 99, 3) := by decide +kernel
theorem dX10_uses_20 : decode cX10_uses 20 = .ok (.istore 4, 2) := by decide +kernel
theorem dX10_uses_22 : decode cX10_uses 22 = .ok (.aload_n 0, 1) := by decide +kernel
theorem dX10_uses_23 : decode cX10_uses 23 = .ok (.iload_n 1, 1) := by decide +kernel
theorem dX10_uses_24 : decode cX10_uses 24 = .ok (.iload_n 2, 1) := by decide +kernel
theorem dX10_uses_25 : decode cX10_uses 25 = .ok (.iload 4, 2) := by decide +kernel
theorem dX10_uses_27 : decode cX10_uses 27 = .ok (.invokevirtual 117, 3) := by decide +kernel
theorem dX10_uses_30 : decode cX10_uses 30 = .ok (.iload 4, 2) := by decide +kernel
theorem dX10_uses_32 : decode cX10_uses 32 = .ok (.ireturn, 1) := by decide +kernel
theorem dX10_putIfAbsent_0 : decode cX10_putIfAbsent 0 = .ok (.aload_n 0, 1) := by decide +kernel
theorem dX10_putIfAbsent_1 : decode cX10_putIfAbsent 1 = .ok (.iconst 0, 1) := by decide +kernel
theorem dX10_putIfAbsent_2 : decode cX10_putIfAbsent 2 = .ok (.putfield 1, 3) := by decide +kernel
theorem dX10_putIfAbsent_5 : decode cX10_putIfAbsent 5 = .ok (.aload_n 0, 1) := by decide +kernel
theorem dX10_putIfAbsent_6 : decode cX10_putIfAbsent 6 = .ok (.iload_n 1, 1) := by decide +kernel
theorem dX10_putIfAbsent_7 : decode cX10_putIfAbsent 7 = .ok (.iload_n 2, 1) := by decide +kernel
theorem dX10_putIfAbsent_8 : decode cX10_putIfAbsent 8 = .ok (.iload_n 3, 1) := by decide +kernel
theorem dX10_putIfAbsent_9 : decode cX10_putIfAbsent 9 = .ok (.invokevirtual 107, 3) := by decide +kernel
theorem dX10_putIfAbsent_12 : decode cX10_putIfAbsent 12 = .ok (.ifCond .eq 5, 3) := by decide +kernel
theorem dX10_putIfAbsent_15 : decode cX10_putIfAbsent 15 = .ok (.iconst 0, 1) := by decide +kernel
theorem dX10_putIfAbsent_16 : decode cX10_putIfAbsent 16 = .ok (.ireturn, 1) := by decide +kernel
theorem dX10_putIfAbsent_17 : decode cX10_putIfAbsent 17 = .ok (.aload_n 0, 1) := by decide +kernel
theorem dX10_putIfAbsent_18 : decode cX10_putIfAbsent 18 = .ok (.iload_n 1, 1) := by decide +kernel
theorem dX10_putIfAbsent_19 : decode cX10_putIfAbsent 19 = .ok (.invokevirtual 110, 3) := by decide +kernel
theorem dX10_putIfAbsent_22 : decode cX10_putIfAbsent 22 = .ok (.aload_n 0, 1) := by decide +kernel
theorem dX10_putIfAbsent_23 : decode cX10_putIfAbsent 23 = .ok (.iload_n 1, 1) := by decide +kernel
theorem dX10_putIfAbsent_24 : decode cX10_putIfAbsent 24 = .ok (.iload_n 2, 1) := by decide +kernel
theorem dX10_putIfAbsent_25 : decode cX10_putIfAbsent 25 = .ok (.invokevirtual 121, 3) := by decide +kernel
theorem dX10_putIfAbsent_28 : decode cX10_putIfAbsent 28 = .ok (.istore 4, 2) := by decide +kernel
theorem dX10_putIfAbsent_30 : decode cX10_putIfAbsent 30 = .ok (.iload 4, 2) := by decide +kernel
theorem dX10_putIfAbsent_32 : decode cX10_putIfAbsent 32 = .ok (.iconst (-1), 1) := by decide +kernel
theorem dX10_putIfAbsent_33 : decode cX10_putIfAbsent 33 = .ok (.if_icmp .ne 10, 3) := by decide +kernel
theorem dX10_putIfAbsent_36 : decode cX10_putIfAbsent 36 = .ok (.aload_n 0, 1) := by decide +kernel
theorem dX10_putIfAbsent_37 : decode cX10_putIfAbsent 37 = .ok (.iload_n 1, 1) := by decide +kernel
theorem dX10_putIfAbsent_38 : decode cX10_putIfAbsent 38 = .ok (.iload_n 2, 1) := by decide +kernel
theorem dX10_putIfAbsent_39 : decode cX10_putIfAbsent 39 = .ok (.iload_n 3, 1) := by decide +kernel
theorem dX10_putIfAbsent_40 : decode cX10_putIfAbsent 40 = .ok (.invokevirtual 117, 3) := by decide +kernel
theorem dX10_putIfAbsent_43 : decode cX10_putIfAbsent 43 = .ok (.iload 4, 2) := by decide +kernel
theorem dX10_putIfAbsent_45 : decode cX10_putIfAbsent 45 = .ok (.ireturn, 1) := by decide +kernel
theorem dX10_get_0 : decode cX10_get 0 = .ok (.aload_n 0, 1) := by decide +kernel
theorem dX10_get_1 : decode cX10_get 1 = .ok (.iconst 0, 1) := by decide +kernel
theorem dX10_get_2 : decode cX10_get 2 = .ok (.putfield 1, 3) := by decide +kernel
theorem dX10_get_5 : decode cX10_get 5 = .ok (.aload_n 0, 1) := by decide +kernel
theorem dX10_get_6 : decode cX10_get 6 = .ok (.iload_n 1, 1) := by decide +kernel
theorem dX10_get_7 : decode cX10_get 7 = .ok (.iload_n 2, 1) := by decide +kernel
theorem dX10_get_8 : decode cX10_get 8 = .ok (.invokevirtual 103, 3) := by decide +kernel
theorem dX10_get_11 : decode cX10_get 11 = .ok (.ifCond .eq 5, 3) := by decide +kernel
theorem dX10_get_14 : decode cX10_get 14 = .ok (.iconst 0, 1) := by decide +kernel
theorem dX10_get_15 : decode cX10_get 15 = .ok (.ireturn, 1) := by decide +kernel
theorem dX10_get_16 : decode cX10_get 16 = .ok (.aload_n 0, 1) := by decide +kernel
theorem dX10_get_17 : decode cX10_get 17 = .ok (.iload_n 1, 1) := by decide +kernel
theorem dX10_get_18 : decode cX10_get 18 = .ok (.invokevirtual 110, 3) := by decide +kernel
theorem dX10_get_21 : decode cX10_get 21 = .ok (.aload_n 0, 1) := by decide +kernel
theorem dX10_get_22 : decode cX10_get 22 = .ok (.iload_n 1, 1) := by decide +kernel
theorem dX10_get_23 : decode cX10_get 23 = .ok (.iload_n 2, 1) := by decide +kernel
theorem dX10_get_24 : decode cX10_get 24 = .ok (.invokevirtual 121, 3) := by decide +kernel
theorem dX10_get_27 : decode cX10_get 27 = .ok (.ireturn, 1) := by decide +kernel
theorem dX10_getOrDefault_0 : decode cX10_getOrDefault 0 = .ok (.aload_n 0, 1) := by decide +kernel
theorem dX10_getOrDefault_1 : decode cX10_getOrDefault 1 = .ok (.iconst 0, 1) := by decide +kernel
theorem dX10_getOrDefault_2 : decode cX10_getOrDefault 2 = .ok (.putfield 1, 3) := by decide +kernel
theorem dX10_getOrDefault_5 : decode cX10_getOrDefault 5 = .ok (.aload_n 0, 1) := by decide +kernel
theorem dX10_getOrDefault_6 : decode cX10_getOrDefault 6 = .ok (.iload_n 1, 1) := by decide +kernel
theorem dX10_getOrDefault_7 : decode cX10_getOrDefault 7 = .ok (.iload_n 2, 1) := by decide +kernel
theorem dX10_getOrDefault_8 : decode cX10_getOrDefault 8 = .ok (.invokevirtual 103, 3) := by decide +kernel
theorem dX10_getOrDefault_11 : decode cX10_getOrDefault 11 = .ok (.ifCond .eq 5, 3) := by decide +kernel
theorem dX10_getOrDefault_14 : decode cX10_getOrDefault 14 = .ok (.iconst 0, 1) := by decide +kernel
theorem dX10_getOrDefault_15 : decode cX10_getOrDefault 15 = .ok (.ireturn, 1) := by decide +kernel
theorem dX10_getOrDefault_16 : decode cX10_getOrDefault 16 = .ok (.aload_n 0, 1) := by decide +kernel
theorem dX10_getOrDefault_17 : decode cX10_getOrDefault 17 = .ok (.iload_n 1, 1) := by decide +kernel
theorem dX10_getOrDefault_18 : decode cX10_getOrDefault 18 = .ok (.invokevirtual 110, 3) := by decide +kernel
theorem dX10_getOrDefault_21 : decode cX10_getOrDefault 21 = .ok (.aload_n 0, 1) := by decide +kernel
theorem dX10_getOrDefault_22 : decode cX10_getOrDefault 22 = .ok (.iload_n 1, 1) := by decide +kernel
theorem dX10_getOrDefault_23 : decode cX10_getOrDefault 23 = .ok (.iload_n 2, 1) := by decide +kernel
theorem dX10_getOrDefault_24 : decode cX10_getOrDefault 24 = .ok (.invokevirtual 121, 3) := by decide +kernel
theorem dX10_getOrDefault_27 : decode cX10_getOrDefault 27 = .ok (.istore 4, 2) := by decide +kernel
theorem dX10_getOrDefault_29 : decode cX10_getOrDefault 29 = .ok (.iload 4, 2) := by decide +kernel
theorem dX10_getOrDefault_31 : decode cX10_getOrDefault 31 = .ok (.iconst (-1), 1) := by decide +kernel
theorem dX10_getOrDefault_32 : decode cX10_getOrDefault 32 = .ok (.if_icmp .ne 7, 3) := by decide +kernel
theorem dX10_getOrDefault_35 : decode cX10_getOrDefault 35 = .ok (.iload_n 3, 1) := by decide +kernel
theorem dX10_getOrDefault_36 : decode cX10_getOrDefault 36 = .ok (.goto 5, 3) := by decide +kernel
theorem dX10_getOrDefault_39 : decode cX10_getOrDefault 39 = .ok (.iload 4, 2) := by decide +kernel
theorem dX10_getOrDefault_41 : decode cX10_getOrDefault 41 = .ok (.ireturn, 1) := by decide +kernel
theorem dX10_remove_0 : decode cX10_remove 0 = .ok (.aload_n 0, 1) := by decide +kernel
theorem dX10_remove_1 : decode cX10_remove 1 = .ok (.iconst 0, 1) := by decide +kernel
theorem dX10_remove_2 : decode cX10_remove 2 = .ok (.putfield 1, 3) := by decide +kernel
theorem dX10_remove_5 : decode cX10_remove 5 = .ok (.aload_n 0, 1) := by decide +kernel
theorem dX10_remove_6 : decode cX10_remove 6 = .ok (.iload_n 1, 1) := by decide +kernel
theorem dX10_remove_7 : decode cX10_remove 7 = .ok (.iload_n 2, 1) := by decide +kernel
theorem dX10_remove_8 : decode cX10_remove 8 = .ok (.invokevirtual 103, 3) := by decide +kernel
theorem dX10_remove_11 : decode cX10_remove 11 = .ok (.ifCond .eq 5, 3) := by decide +kernel
theorem dX10_remove_14 : decode cX10_remove 14 = .ok (.iconst 0, 1) := by decide +kernel
theorem dX10_remove_15 : decode cX10_remove 15 = .ok (.ireturn, 1) := by decide +kernel
theorem dX10_remove_16 : decode cX10_remove 16 = .ok (.aload_n 0, 1) := by decide +kernel
theorem dX10_remove_17 : decode cX10_remove 17 = .ok (.iload_n 1, 1) := by decide +kernel
theorem dX10_remove_18 : decode cX10_remove 18 = .ok (.invokevirtual 110, 3) := by decide +kernel
theorem dX10_remove_21 : decode cX10_remove 21 = .ok (.aload_n 0, 1) := by decide +kernel
theorem dX10_remove_22 : decode cX10_remove 22 = .ok (.iload_n 1, 1) := by decide +kernel
theorem dX10_remove_23 : decode cX10_remove 23 = .ok (.iload_n 2, 1) := by decide +kernel
theorem dX10_remove_24 : decode cX10_remove 24 = .ok (.invokevirtual 114, 3) := by decide +kernel
theorem dX10_remove_27 : decode cX10_remove 27 = .ok (.istore_n 3, 1) := by decide +kernel
theorem dX10_remove_28 : decode cX10_remove 28 = .ok (.iload_n 3, 1) := by decide +kernel
theorem dX10_remove_29 : decode cX10_remove 29 = .ok (.iconst (-1), 1) := by decide +kernel
theorem dX10_remove_30 : decode cX10_remove 30 = .ok (.if_icmp .ne 7, 3) := by decide +kernel
theorem dX10_remove_33 : decode cX10_remove 33 = .ok (.iconst (-1), 1) := by decide +kernel
theorem dX10_remove_34 : decode cX10_remove 34 = .ok (.goto 9, 3) := by decide +kernel
theorem dX10_remove_37 : decode cX10_remove 37 = .ok (.aload_n 0, 1) := by decide +kernel
theorem dX10_remove_38 : decode cX10_remove 38 = .ok (.iload_n 1, 1) := by decide +kernel
theorem dX10_remove_39 : decode cX10_remove 39 = .ok (.iload_n 3, 1) := by decide +kernel
theorem dX10_remove_40 : decode cX10_remove 40 = .ok (.invokevirtual 99, 3) := by decide +kernel
theorem dX10_remove_43 : decode cX10_remove 43 = .ok (.ireturn, 1) := by decide +kernel
theorem dX10_clear_0 : decode cX10_clear 0 = .ok (.aload_n 0, 1) := by decide +kernel
theorem dX10_clear_1 : decode cX10_clear 1 = .ok (.iconst 0, 1) := by decide +kernel
theorem dX10_clear_2 : decode cX10_clear 2 = .ok (.putfield 1, 3) := by decide +kernel
theorem dX10_clear_5 : decode cX10_clear 5 = .ok (.aload_n 0, 1) := by decide +kernel
theorem dX10_clear_6 : decode cX10_clear 6 = .ok (.iload_n 1, 1) := by decide +kernel
theorem dX10_clear_7 : decode cX10_clear 7 = .ok (.invokevirtual 92, 3) := by decide +kernel
theorem dX10_clear_10 : decode cX10_clear 10 = .ok (.ifCond .eq 5, 3) := by decide +kernel
theorem dX10_clear_13 : decode cX10_clear 13 = .ok (.iconst 0, 1) := by decide +kernel
theorem dX10_clear_14 : decode cX10_clear 14 = .ok (.ireturn, 1) := by decide +kernel
theorem dX10_clear_15 : decode cX10_clear 15 = .ok (.aload_n 0, 1) := by decide +kernel
theorem dX10_clear_16 : decode cX10_clear 16 = .ok (.iload_n 1, 1) := by decide +kernel
theorem dX10_clear_17 : decode cX10_clear 17 = .ok (.invokevirtual 110, 3) := by decide +kernel
theorem dX10_clear_20 : decode cX10_clear 20 = .ok (.aload_n 0, 1) := by decide +kernel
theorem dX10_clear_21 : decode cX10_clear 21 = .ok (.getfield 20, 3) := by decide +kernel
theorem dX10_clear_24 : decode cX10_clear 24 = .ok (.iload_n 1, 1) := by decide +kernel
theorem dX10_clear_25 : decode cX10_clear 25 = .ok (.iaload, 1) := by decide +kernel
theorem dX10_clear_26 : decode cX10_clear 26 = .ok (.istore_n 2, 1) := by decide +kernel
theorem dX10_clear_27 : decode cX10_clear 27 = .ok (.aload_n 0, 1) := by decide +kernel
theorem dX10_clear_28 : decode cX10_clear 28 = .ok (.getfield 20, 3) := by decide +kernel
theorem dX10_clear_31 : decode cX10_clear 31 = .ok (.iload_n 1, 1) := by decide +kernel
theorem dX10_clear_32 : decode cX10_clear 32 = .ok (.iconst 0, 1) := by decide +kernel
theorem dX10_clear_33 : decode cX10_clear 33 = .ok (.iastore, 1) := by decide +kernel
theorem dX10_clear_34 : decode cX10_clear 34 = .ok (.iload_n 2, 1) := by decide +kernel
theorem dX10_clear_35 : decode cX10_clear 35 = .ok (.ireturn, 1) := by decide +kernel
theorem dX10_setBound_0 : decode cX10_setBound 0 = .ok (.aload_n 0, 1) := by decide +kernel
theorem dX10_setBound_1 : decode cX10_setBound 1 = .ok (.iconst 0, 1) := by decide +kernel
theorem dX10_setBound_2 : decode cX10_setBound 2 = .ok (.putfield 1, 3) := by decide +kernel
theorem dX10_setBound_5 : decode cX10_setBound 5 = .ok (.aload_n 0, 1) := by decide +kernel
theorem dX10_setBound_6 : decode cX10_setBound 6 = .ok (.iload_n 1, 1) := by decide +kernel
theorem dX10_setBound_7 : decode cX10_setBound 7 = .ok (.iconst 1, 1) := by decide +kernel
theorem dX10_setBound_8 : decode cX10_setBound 8 = .ok (.bipush 20, 2) := by decide +kernel
theorem dX10_setBound_10 : decode cX10_setBound 10 = .ok (.invokestatic 84, 3) := by decide +kernel
theorem dX10_setBound_13 : decode cX10_setBound 13 = .ok (.iconst 1, 1) := by decide +kernel
theorem dX10_setBound_14 : decode cX10_setBound 14 = .ok (.invokevirtual 88, 3) := by decide +kernel
theorem dX10_setBound_17 : decode cX10_setBound 17 = .ok (.ifCond .eq 5, 3) := by decide +kernel
theorem dX10_setBound_20 : decode cX10_setBound 20 = .ok (.iconst 0, 1) := by decide +kernel
theorem dX10_setBound_21 : decode cX10_setBound 21 = .ok (.ireturn, 1) := by decide +kernel
theorem dX10_setBound_22 : decode cX10_setBound 22 = .ok (.aload_n 0, 1) := by decide +kernel
theorem dX10_setBound_23 : decode cX10_setBound 23 = .ok (.iconst 1, 1) := by decide +kernel
theorem dX10_setBound_24 : decode cX10_setBound 24 = .ok (.invokevirtual 110, 3) := by decide +kernel
theorem dX10_setBound_27 : decode cX10_setBound 27 = .ok (.aload_n 0, 1) := by decide +kernel
theorem dX10_setBound_28 : decode cX10_setBound 28 = .ok (.getfield 20, 3) := by decide +kernel
theorem dX10_setBound_31 : decode cX10_setBound 31 = .ok (.iconst 1, 1) := by decide +kernel
theorem dX10_setBound_32 : decode cX10_setBound 32 = .ok (.iconst 0, 1) := by decide +kernel
theorem dX10_setBound_33 : decode cX10_setBound 33 = .ok (.iastore, 1) := by decide +kernel
theorem dX10_setBound_34 : decode cX10_setBound 34 = .ok (.aload_n 0, 1) := by decide +kernel
theorem dX10_setBound_35 : decode cX10_setBound 35 = .ok (.getfield 23, 3) := by decide +kernel
theorem dX10_setBound_38 : decode cX10_setBound 38 = .ok (.istore_n 2, 1) := by decide +kernel
theorem dX10_setBound_39 : decode cX10_setBound 39 = .ok (.aload_n 0, 1) := by decide +kernel
theorem dX10_setBound_40 : decode cX10_setBound 40 = .ok (.iload_n 1, 1) := by decide +kernel
theorem dX10_setBound_41 : decode cX10_setBound 41 = .ok (.putfield 23, 3) := by decide +kernel
theorem dX10_setBound_44 : decode cX10_setBound 44 = .ok (.iload_n 2, 1) := by decide +kernel
theorem dX10_setBound_45 : decode cX10_setBound 45 = .ok (.ireturn, 1) := by decide +kernel
theorem dX10_hasKey_0 : decode cX10_hasKey 0 = .ok (.aload_n 0, 1) := by decide +kernel
theorem dX10_hasKey_1 : decode cX10_hasKey 1 = .ok (.iconst 0, 1) := by decide +kernel
theorem dX10_hasKey_2 : decode cX10_hasKey 2 = .ok (.putfield 1, 3) := by decide +kernel
theorem dX10_hasKey_5 : decode cX10_hasKey 5 = .ok (.aload_n 0, 1) := by decide +kernel
theorem dX10_hasKey_6 : decode cX10_hasKey 6 = .ok (.iload_n 1, 1) := by decide +kernel
theorem dX10_hasKey_7 : decode cX10_hasKey 7 = .ok (.iload_n 2, 1) := by decide +kernel
theorem dX10_hasKey_8 : decode cX10_hasKey 8 = .ok (.invokevirtual 103, 3) := by decide +kernel
theorem dX10_hasKey_11 : decode cX10_hasKey 11 = .ok (.ifCond .ne 17, 3) := by decide +kernel
theorem dX10_hasKey_14 : decode cX10_hasKey 14 = .ok (.aload_n 0, 1) := by decide +kernel
theorem dX10_hasKey_15 : decode cX10_hasKey 15 = .ok (.iload_n 1, 1) := by decide +kernel
theorem dX10_hasKey_16 : decode cX10_hasKey 16 = .ok (.iload_n 2, 1) := by decide +kernel
theorem dX10_hasKey_17 : decode cX10_hasKey 17 = .ok (.invokevirtual 114, 3) := by decide +kernel
theorem dX10_hasKey_20 : decode cX10_hasKey 20 = .ok (.iconst (-1), 1) := by decide +kernel
theorem dX10_hasKey_21 : decode cX10_hasKey 21 = .ok (.if_icmp .eq 7, 3) := by decide +kernel
theorem dX10_hasKey_24 : decode cX10_hasKey 24 = .ok (.iconst 1, 1) := by decide +kernel
theorem dX10_hasKey_25 : decode cX10_hasKey 25 = .ok (.goto 4, 3) := by decide +kernel
theorem dX10_hasKey_28 : decode cX10_hasKey 28 = .ok (.iconst 0, 1) := by decide +kernel
theorem dX10_hasKey_29 : decode cX10_hasKey 29 = .ok (.ireturn, 1) := by decide +kernel
theorem dX10_hasValue_0 : decode cX10_hasValue 0 = .ok (.aload_n 0, 1) := by decide +kernel
theorem dX10_hasValue_1 : decode cX10_hasValue 1 = .ok (.iconst 0, 1) := by decide +kernel
theorem dX10_hasValue_2 : decode cX10_hasValue 2 = .ok (.putfield 1, 3) := by decide +kernel
theorem dX10_hasValue_5 : decode cX10_hasValue 5 = .ok (.aload_n 0, 1) := by decide +kernel
theorem dX10_hasValue_6 : decode cX10_hasValue 6 = .ok (.iload_n 1, 1) := by decide +kernel
theorem dX10_hasValue_7 : decode cX10_hasValue 7 = .ok (.invokevirtual 92, 3) := by decide +kernel
theorem dX10_hasValue_10 : decode cX10_hasValue 10 = .ok (.ifCond .ne 19, 3) := by decide +kernel
theorem dX10_hasValue_13 : decode cX10_hasValue 13 = .ok (.aload_n 0, 1) := by decide +kernel
theorem dX10_hasValue_14 : decode cX10_hasValue 14 = .ok (.iload_n 2, 1) := by decide +kernel
theorem dX10_hasValue_15 : decode cX10_hasValue 15 = .ok (.iconst 0, 1) := by decide +kernel
theorem dX10_hasValue_16 : decode cX10_hasValue 16 = .ok (.sipush 999, 3) := by decide +kernel
theorem dX10_hasValue_19 : decode cX10_hasValue 19 = .ok (.invokestatic 84, 3) := by decide +kernel
theorem dX10_hasValue_22 : decode cX10_hasValue 22 = .ok (.iconst 1, 1) := by decide +kernel
theorem dX10_hasValue_23 : decode cX10_hasValue 23 = .ok (.invokevirtual 88, 3) := by decide +kernel
theorem dX10_hasValue_26 : decode cX10_hasValue 26 = .ok (.ifCond .eq 5, 3) := by decide +kernel
theorem dX10_hasValue_29 : decode cX10_hasValue 29 = .ok (.iconst 0, 1) := by decide +kernel
theorem dX10_hasValue_30 : decode cX10_hasValue 30 = .ok (.ireturn, 1) := by decide +kernel
theorem dX10_hasValue_31 : decode cX10_hasValue 31 = .ok (.iconst 0, 1) := by decide +kernel
theorem dX10_hasValue_32 : decode cX10_hasValue 32 = .ok (.istore_n 3, 1) := by decide +kernel
theorem dX10_hasValue_33 : decode cX10_hasValue 33 = .ok (.iload_n 3, 1) := by decide +kernel
theorem dX10_hasValue_34 : decode cX10_hasValue 34 = .ok (.aload_n 0, 1) := by decide +kernel
theorem dX10_hasValue_35 : decode cX10_hasValue 35 = .ok (.getfield 20, 3) := by decide +kernel
theorem dX10_hasValue_38 : decode cX10_hasValue 38 = .ok (.iload_n 1, 1) := by decide +kernel
theorem dX10_hasValue_39 : decode cX10_hasValue 39 = .ok (.iaload, 1) := by decide +kernel
theorem dX10_hasValue_40 : decode cX10_hasValue 40 = .ok (.if_icmp .ge 26, 3) := by decide +kernel
theorem dX10_hasValue_43 : decode cX10_hasValue 43 = .ok (.aload_n 0, 1) := by decide +kernel
theorem dX10_hasValue_44 : decode cX10_hasValue 44 = .ok (.getfield 17, 3) := by decide +kernel
theorem dX10_hasValue_47 : decode cX10_hasValue 47 = .ok (.bipush 101, 2) := by decide +kernel
theorem dX10_hasValue_49 : decode cX10_hasValue 49 = .ok (.iload_n 1, 1) := by decide +kernel
theorem dX10_hasValue_50 : decode cX10_hasValue 50 = .ok (.imul, 1) := by decide +kernel
theorem dX10_hasValue_51 : decode cX10_hasValue 51 = .ok (.iload_n 3, 1) := by decide +kernel
theorem dX10_hasValue_52 : decode cX10_hasValue 52 = .ok (.iadd, 1) := by decide +kernel
theorem dX10_hasValue_53 : decode cX10_hasValue 53 = .ok (.iaload, 1) := by decide +kernel
theorem dX10_hasValue_54 : decode cX10_hasValue 54 = .ok (.iload_n 2, 1) := by decide +kernel
theorem dX10_hasValue_55 : decode cX10_hasValue 55 = .ok (.if_icmp .ne 5, 3) := by decide +kernel
theorem dX10_hasValue_58 : decode cX10_hasValue 58 = .ok (.iconst 1, 1) := by decide +kernel
theorem dX10_hasValue_59 : decode cX10_hasValue 59 = .ok (.ireturn, 1) := by decide +kernel
theorem dX10_hasValue_60 : decode cX10_hasValue 60 = .ok (.iinc 3 1, 3) := by decide +kernel
theorem dX10_hasValue_63 : decode cX10_hasValue 63 = .ok (.goto (-30), 3) := by decide +kernel
theorem dX10_hasValue_66 : decode cX10_hasValue 66 = .ok (.iconst 0, 1) := by decide +kernel
theorem dX10_hasValue_67 : decode cX10_hasValue 67 = .ok (.ireturn, 1) := by decide +kernel
theorem dX10_size_0 : decode cX10_size 0 = .ok (.aload_n 0, 1) := by decide +kernel
theorem dX10_size_1 : decode cX10_size 1 = .ok (.iconst 0, 1) := by decide +kernel
theorem dX10_size_2 : decode cX10_size 2 = .ok (.putfield 1, 3) := by decide +kernel
theorem dX10_size_5 : decode cX10_size 5 = .ok (.aload_n 0, 1) := by decide +kernel
theorem dX10_size_6 : decode cX10_size 6 = .ok (.iload_n 1, 1) := by decide +kernel
theorem dX10_size_7 : decode cX10_size 7 = .ok (.invokevirtual 92, 3) := by decide +kernel
theorem dX10_size_10 : decode cX10_size 10 = .ok (.ifCond .eq 7, 3) := by decide +kernel
theorem dX10_size_13 : decode cX10_size 13 = .ok (.iconst 0, 1) := by decide +kernel
theorem dX10_size_14 : decode cX10_size 14 = .ok (.goto 9, 3) := by decide +kernel
theorem dX10_size_17 : decode cX10_size 17 = .ok (.aload_n 0, 1) := by decide +kernel
theorem dX10_size_18 : decode cX10_size 18 = .ok (.getfield 20, 3) := by decide +kernel
theorem dX10_size_21 : decode cX10_size 21 = .ok (.iload_n 1, 1) := by decide +kernel
theorem dX10_size_22 : decode cX10_size 22 = .ok (.iaload, 1) := by decide +kernel
theorem dX10_size_23 : decode cX10_size 23 = .ok (.ireturn, 1) := by decide +kernel
theorem dX10_noPlace_0 : decode cX10_noPlace 0 = .ok (.aload_n 0, 1) := by decide +kernel
theorem dX10_noPlace_1 : decode cX10_noPlace 1 = .ok (.iload_n 1, 1) := by decide +kernel
theorem dX10_noPlace_2 : decode cX10_noPlace 2 = .ok (.invokevirtual 92, 3) := by decide +kernel
theorem dX10_noPlace_5 : decode cX10_noPlace 5 = .ok (.ifCond .ne 24, 3) := by decide +kernel
theorem dX10_noPlace_8 : decode cX10_noPlace 8 = .ok (.aload_n 0, 1) := by decide +kernel
theorem dX10_noPlace_9 : decode cX10_noPlace 9 = .ok (.iload_n 2, 1) := by decide +kernel
theorem dX10_noPlace_10 : decode cX10_noPlace 10 = .ok (.iconst 0, 1) := by decide +kernel
theorem dX10_noPlace_11 : decode cX10_noPlace 11 = .ok (.aload_n 0, 1) := by decide +kernel
theorem dX10_noPlace_12 : decode cX10_noPlace 12 = .ok (.getfield 20, 3) := by decide +kernel
theorem dX10_noPlace_15 : decode cX10_noPlace 15 = .ok (.iload_n 1, 1) := by decide +kernel
theorem dX10_noPlace_16 : decode cX10_noPlace 16 = .ok (.iaload, 1) := by decide +kernel
theorem dX10_noPlace_17 : decode cX10_noPlace 17 = .ok (.iconst 1, 1) := by decide +kernel
theorem dX10_noPlace_18 : decode cX10_noPlace 18 = .ok (.isub, 1) := by decide +kernel
theorem dX10_noPlace_19 : decode cX10_noPlace 19 = .ok (.invokestatic 84, 3) := by decide +kernel
theorem dX10_noPlace_22 : decode cX10_noPlace 22 = .ok (.iconst 2, 1) := by decide +kernel
theorem dX10_noPlace_23 : decode cX10_noPlace 23 = .ok (.invokevirtual 88, 3) := by decide +kernel
theorem dX10_noPlace_26 : decode cX10_noPlace 26 = .ok (.ifCond .eq 7, 3) := by decide +kernel
theorem dX10_noPlace_29 : decode cX10_noPlace 29 = .ok (.iconst 1, 1) := by decide +kernel
theorem dX10_noPlace_30 : decode cX10_noPlace 30 = .ok (.goto 4, 3) := by decide +kernel
theorem dX10_noPlace_33 : decode cX10_noPlace 33 = .ok (.iconst 0, 1) := by decide +kernel
theorem dX10_noPlace_34 : decode cX10_noPlace 34 = .ok (.ireturn, 1) := by decide +kernel
theorem dX10_keyAt_0 : decode cX10_keyAt 0 = .ok (.aload_n 0, 1) := by decide +kernel
theorem dX10_keyAt_1 : decode cX10_keyAt 1 = .ok (.iconst 0, 1) := by decide +kernel
theorem dX10_keyAt_2 : decode cX10_keyAt 2 = .ok (.putfield 1, 3) := by decide +kernel
theorem dX10_keyAt_5 : decode cX10_keyAt 5 = .ok (.aload_n 0, 1) := by decide +kernel
theorem dX10_keyAt_6 : decode cX10_keyAt 6 = .ok (.iload_n 1, 1) := by decide +kernel
theorem dX10_keyAt_7 : decode cX10_keyAt 7 = .ok (.iload_n 2, 1) := by decide +kernel
theorem dX10_keyAt_8 : decode cX10_keyAt 8 = .ok (.invokevirtual 124, 3) := by decide +kernel
theorem dX10_keyAt_11 : decode cX10_keyAt 11 = .ok (.ifCond .eq 7, 3) := by decide +kernel
theorem dX10_keyAt_14 : decode cX10_keyAt 14 = .ok (.iconst 0, 1) := by decide +kernel
theorem dX10_keyAt_15 : decode cX10_keyAt 15 = .ok (.goto 14, 3) := by decide +kernel
theorem dX10_keyAt_18 : decode cX10_keyAt 18 = .ok (.aload_n 0, 1) := by decide +kernel
theorem dX10_keyAt_19 : decode cX10_keyAt 19 = .ok (.getfield 13, 3) := by decide +kernel
theorem dX10_keyAt_22 : decode cX10_keyAt 22 = .ok (.bipush 101, 2) := by decide +kernel
theorem dX10_keyAt_24 : decode cX10_keyAt 24 = .ok (.iload_n 1, 1) := by decide +kernel
theorem dX10_keyAt_25 : decode cX10_keyAt 25 = .ok (.imul, 1) := by decide +kernel
theorem dX10_keyAt_26 : decode cX10_keyAt 26 = .ok (.iload_n 2, 1) := by decide +kernel
theorem dX10_keyAt_27 : decode cX10_keyAt 27 = .ok (.iadd, 1) := by decide +kernel
theorem dX10_keyAt_28 : decode cX10_keyAt 28 = .ok (.iaload, 1) := by decide +kernel
theorem dX10_keyAt_29 : decode cX10_keyAt 29 = .ok (.ireturn, 1) := by decide +kernel
theorem dX10_valueAt_0 : decode cX10_valueAt 0 = .ok (.aload_n 0, 1) := by decide +kernel
theorem dX10_valueAt_1 : decode cX10_valueAt 1 = .ok (.iconst 0, 1) := by decide +kernel
theorem dX10_valueAt_2 : decode cX10_valueAt 2 = .ok (.putfield 1, 3) := by decide +kernel
theorem dX10_valueAt_5 : decode cX10_valueAt 5 = .ok (.aload_n 0, 1) := by decide +kernel
theorem dX10_valueAt_6 : decode cX10_valueAt 6 = .ok (.iload_n 1, 1) := by decide +kernel
theorem dX10_valueAt_7 : decode cX10_valueAt 7 = .ok (.iload_n 2, 1) := by decide +kernel
theorem dX10_valueAt_8 : decode cX10_valueAt 8 = .ok (.invokevirtual 124, 3) := by decide +kernel
theorem dX10_valueAt_11 : decode cX10_valueAt 11 = .ok (.ifCond .eq 7, 3) := by decide +kernel
theorem dX10_valueAt_14 : decode cX10_valueAt 14 = .ok (.iconst 0, 1) := by decide +kernel
theorem dX10_valueAt_15 : decode cX10_valueAt 15 = .ok (.goto 14, 3) := by decide +kernel
theorem dX10_valueAt_18 : decode cX10_valueAt 18 = .ok (.aload_n 0, 1) := by decide +kernel
theorem dX10_valueAt_19 : decode cX10_valueAt 19 = .ok (.getfield 17, 3) := by decide +kernel
theorem dX10_valueAt_22 : decode cX10_valueAt 22 = .ok (.bipush 101, 2) := by decide +kernel
theorem dX10_valueAt_24 : decode cX10_valueAt 24 = .ok (.iload_n 1, 1) := by decide +kernel
theorem dX10_valueAt_25 : decode cX10_valueAt 25 = .ok (.imul, 1) := by decide +kernel
theorem dX10_valueAt_26 : decode cX10_valueAt 26 = .ok (.iload_n 2, 1) := by decide +kernel
theorem dX10_valueAt_27 : decode cX10_valueAt 27 = .ok (.iadd, 1) := by decide +kernel
theorem dX10_valueAt_28 : decode cX10_valueAt 28 = .ok (.iaload, 1) := by decide +kernel
theorem dX10_valueAt_29 : decode cX10_valueAt 29 = .ok (.ireturn, 1) := by decide +kernel
theorem dX10_placeOf_0 : decode cX10_placeOf 0 = .ok (.aload_n 0, 1) := by decide +kernel
theorem dX10_placeOf_1 : decode cX10_placeOf 1 = .ok (.iconst 0, 1) := by decide +kernel
theorem dX10_placeOf_2 : decode cX10_placeOf 2 = .ok (.putfield 1, 3) := by decide +kernel
theorem dX10_placeOf_5 : decode cX10_placeOf 5 = .ok (.aload_n 0, 1) := by decide +kernel
theorem dX10_placeOf_6 : decode cX10_placeOf 6 = .ok (.iload_n 1, 1) := by decide +kernel
theorem dX10_placeOf_7 : decode cX10_placeOf 7 = .ok (.iload_n 2, 1) := by decide +kernel
theorem dX10_placeOf_8 : decode cX10_placeOf 8 = .ok (.invokevirtual 103, 3) := by decide +kernel
theorem dX10_placeOf_11 : decode cX10_placeOf 11 = .ok (.ifCond .eq 7, 3) := by decide +kernel
theorem dX10_placeOf_14 : decode cX10_placeOf 14 = .ok (.iconst 0, 1) := by decide +kernel
theorem dX10_placeOf_15 : decode cX10_placeOf 15 = .ok (.goto 9, 3) := by decide +kernel
theorem dX10_placeOf_18 : decode cX10_placeOf 18 = .ok (.aload_n 0, 1) := by decide +kernel
theorem dX10_placeOf_19 : decode cX10_placeOf 19 = .ok (.iload_n 1, 1) := by decide +kernel
theorem dX10_placeOf_20 : decode cX10_placeOf 20 = .ok (.iload_n 2, 1) := by decide +kernel
theorem dX10_placeOf_21 : decode cX10_placeOf 21 = .ok (.invokevirtual 114, 3) := by decide +kernel
theorem dX10_placeOf_24 : decode cX10_placeOf 24 = .ok (.ireturn, 1) := by decide +kernel
theorem dX10_sum_0 : decode cX10_sum 0 = .ok (.aload_n 0, 1) := by decide +kernel
theorem dX10_sum_1 : decode cX10_sum 1 = .ok (.iconst 0, 1) := by decide +kernel
theorem dX10_sum_2 : decode cX10_sum 2 = .ok (.putfield 1, 3) := by decide +kernel
theorem dX10_sum_5 : decode cX10_sum 5 = .ok (.aload_n 0, 1) := by decide +kernel
theorem dX10_sum_6 : decode cX10_sum 6 = .ok (.iload_n 1, 1) := by decide +kernel
theorem dX10_sum_7 : decode cX10_sum 7 = .ok (.invokevirtual 92, 3) := by decide +kernel
theorem dX10_sum_10 : decode cX10_sum 10 = .ok (.ifCond .eq 5, 3) := by decide +kernel
theorem dX10_sum_13 : decode cX10_sum 13 = .ok (.iconst 0, 1) := by decide +kernel
theorem dX10_sum_14 : decode cX10_sum 14 = .ok (.ireturn, 1) := by decide +kernel
theorem dX10_sum_15 : decode cX10_sum 15 = .ok (.iconst 0, 1) := by decide +kernel
theorem dX10_sum_16 : decode cX10_sum 16 = .ok (.istore_n 2, 1) := by decide +kernel
theorem dX10_sum_17 : decode cX10_sum 17 = .ok (.iconst 0, 1) := by decide +kernel
theorem dX10_sum_18 : decode cX10_sum 18 = .ok (.istore_n 3, 1) := by decide +kernel
theorem dX10_sum_19 : decode cX10_sum 19 = .ok (.iload_n 3, 1) := by decide +kernel
theorem dX10_sum_20 : decode cX10_sum 20 = .ok (.aload_n 0, 1) := by decide +kernel
theorem dX10_sum_21 : decode cX10_sum 21 = .ok (.getfield 20, 3) := by decide +kernel
theorem dX10_sum_24 : decode cX10_sum 24 = .ok (.iload_n 1, 1) := by decide +kernel
theorem dX10_sum_25 : decode cX10_sum 25 = .ok (.iaload, 1) := by decide +kernel
theorem dX10_sum_26 : decode cX10_sum 26 = .ok (.if_icmp .ge 23, 3) := by decide +kernel
theorem dX10_sum_29 : decode cX10_sum 29 = .ok (.iload_n 2, 1) := by decide +kernel
theorem dX10_sum_30 : decode cX10_sum 30 = .ok (.aload_n 0, 1) := by decide +kernel
theorem dX10_sum_31 : decode cX10_sum 31 = .ok (.getfield 17, 3) := by decide +kernel
theorem dX10_sum_34 : decode cX10_sum 34 = .ok (.bipush 101, 2) := by decide +kernel
theorem dX10_sum_36 : decode cX10_sum 36 = .ok (.iload_n 1, 1) := by decide +kernel
theorem dX10_sum_37 : decode cX10_sum 37 = .ok (.imul, 1) := by decide +kernel
theorem dX10_sum_38 : decode cX10_sum 38 = .ok (.iload_n 3, 1) := by decide +kernel
theorem dX10_sum_39 : decode cX10_sum 39 = .ok (.iadd, 1) := by decide +kernel
theorem dX10_sum_40 : decode cX10_sum 40 = .ok (.iaload, 1) := by decide +kernel
theorem dX10_sum_41 : decode cX10_sum 41 = .ok (.iadd, 1) := by decide +kernel
theorem dX10_sum_42 : decode cX10_sum 42 = .ok (.istore_n 2, 1) := by decide +kernel
theorem dX10_sum_43 : decode cX10_sum 43 = .ok (.iinc 3 1, 3) := by decide +kernel
theorem dX10_sum_46 : decode cX10_sum 46 = .ok (.goto (-27), 3) := by decide +kernel
theorem dX10_sum_49 : decode cX10_sum 49 = .ok (.iload_n 2, 1) := by decide +kernel
theorem dX10_sum_50 : decode cX10_sum 50 = .ok (.ireturn, 1) := by decide +kernel
theorem dX10_putOut_0 : decode cX10_putOut 0 = .ok (.aload_n 0, 1) := by decide +kernel
theorem dX10_putOut_1 : decode cX10_putOut 1 = .ok (.iconst 0, 1) := by decide +kernel
theorem dX10_putOut_2 : decode cX10_putOut 2 = .ok (.putfield 1, 3) := by decide +kernel
theorem dX10_putOut_5 : decode cX10_putOut 5 = .ok (.aload_n 0, 1) := by decide +kernel
theorem dX10_putOut_6 : decode cX10_putOut 6 = .ok (.getfield 96, 3) := by decide +kernel
theorem dX10_putOut_9 : decode cX10_putOut 9 = .ok (.ireturn, 1) := by decide +kernel
theorem dX10_lastPutOut_0 : decode cX10_lastPutOut 0 = .ok (.aload_n 0, 1) := by decide +kernel
theorem dX10_lastPutOut_1 : decode cX10_lastPutOut 1 = .ok (.iconst 0, 1) := by decide +kernel
theorem dX10_lastPutOut_2 : decode cX10_lastPutOut 2 = .ok (.putfield 1, 3) := by decide +kernel
theorem dX10_lastPutOut_5 : decode cX10_lastPutOut 5 = .ok (.aload_n 0, 1) := by decide +kernel
theorem dX10_lastPutOut_6 : decode cX10_lastPutOut 6 = .ok (.getfield 26, 3) := by decide +kernel
theorem dX10_lastPutOut_9 : decode cX10_lastPutOut 9 = .ok (.ireturn, 1) := by decide +kernel
theorem dX10_beginCursor_0 : decode cX10_beginCursor 0 = .ok (.aload_n 0, 1) := by decide +kernel
theorem dX10_beginCursor_1 : decode cX10_beginCursor 1 = .ok (.iconst 0, 1) := by decide +kernel
theorem dX10_beginCursor_2 : decode cX10_beginCursor 2 = .ok (.putfield 1, 3) := by decide +kernel
theorem dX10_beginCursor_5 : decode cX10_beginCursor 5 = .ok (.aload_n 0, 1) := by decide +kernel
theorem dX10_beginCursor_6 : decode cX10_beginCursor 6 = .ok (.iload_n 1, 1) := by decide +kernel
theorem dX10_beginCursor_7 : decode cX10_beginCursor 7 = .ok (.invokevirtual 92, 3) := by decide +kernel
theorem dX10_beginCursor_10 : decode cX10_beginCursor 10 = .ok (.ifCond .eq 5, 3) := by decide +kernel
theorem dX10_beginCursor_13 : decode cX10_beginCursor 13 = .ok (.iconst 0, 1) := by decide +kernel
theorem dX10_beginCursor_14 : decode cX10_beginCursor 14 = .ok (.ireturn, 1) := by decide +kernel
theorem dX10_beginCursor_15 : decode cX10_beginCursor 15 = .ok (.aload_n 0, 1) := by decide +kernel
theorem dX10_beginCursor_16 : decode cX10_beginCursor 16 = .ok (.getfield 29, 3) := by decide +kernel
theorem dX10_beginCursor_19 : decode cX10_beginCursor 19 = .ok (.iload_n 1, 1) := by decide +kernel
theorem dX10_beginCursor_20 : decode cX10_beginCursor 20 = .ok (.iconst 0, 1) := by decide +kernel
theorem dX10_beginCursor_21 : decode cX10_beginCursor 21 = .ok (.iastore, 1) := by decide +kernel
theorem dX10_beginCursor_22 : decode cX10_beginCursor 22 = .ok (.aload_n 0, 1) := by decide +kernel
theorem dX10_beginCursor_23 : decode cX10_beginCursor 23 = .ok (.getfield 32, 3) := by decide +kernel
theorem dX10_beginCursor_26 : decode cX10_beginCursor 26 = .ok (.iload_n 1, 1) := by decide +kernel
theorem dX10_beginCursor_27 : decode cX10_beginCursor 27 = .ok (.iconst 0, 1) := by decide +kernel
theorem dX10_beginCursor_28 : decode cX10_beginCursor 28 = .ok (.bastore, 1) := by decide +kernel
theorem dX10_beginCursor_29 : decode cX10_beginCursor 29 = .ok (.aload_n 0, 1) := by decide +kernel
theorem dX10_beginCursor_30 : decode cX10_beginCursor 30 = .ok (.getfield 20, 3) := by decide +kernel
theorem dX10_beginCursor_33 : decode cX10_beginCursor 33 = .ok (.iload_n 1, 1) := by decide +kernel
theorem dX10_beginCursor_34 : decode cX10_beginCursor 34 = .ok (.iaload, 1) := by decide +kernel
theorem dX10_beginCursor_35 : decode cX10_beginCursor 35 = .ok (.ireturn, 1) := by decide +kernel
theorem dX10_hasNext_0 : decode cX10_hasNext 0 = .ok (.aload_n 0, 1) := by decide +kernel
theorem dX10_hasNext_1 : decode cX10_hasNext 1 = .ok (.iconst 0, 1) := by decide +kernel
theorem dX10_hasNext_2 : decode cX10_hasNext 2 = .ok (.putfield 1, 3) := by decide +kernel
theorem dX10_hasNext_5 : decode cX10_hasNext 5 = .ok (.aload_n 0, 1) := by decide +kernel
theorem dX10_hasNext_6 : decode cX10_hasNext 6 = .ok (.iload_n 1, 1) := by decide +kernel
theorem dX10_hasNext_7 : decode cX10_hasNext 7 = .ok (.invokevirtual 92, 3) := by decide +kernel
theorem dX10_hasNext_10 : decode cX10_hasNext 10 = .ok (.ifCond .ne 32, 3) := by decide +kernel
theorem dX10_hasNext_13 : decode cX10_hasNext 13 = .ok (.aload_n 0, 1) := by decide +kernel
theorem dX10_hasNext_14 : decode cX10_hasNext 14 = .ok (.getfield 29, 3) := by decide +kernel
theorem dX10_hasNext_17 : decode cX10_hasNext 17 = .ok (.iload_n 1, 1) := by decide +kernel
theorem dX10_hasNext_18 : decode cX10_hasNext 18 = .ok (.iaload, 1) := by decide +kernel
theorem dX10_hasNext_19 : decode cX10_hasNext 19 = .ok (.iconst (-1), 1) := by decide +kernel
theorem dX10_hasNext_20 : decode cX10_hasNext 20 = .ok (.if_icmp .eq 22, 3) := by decide +kernel
theorem dX10_hasNext_23 : decode cX10_hasNext 23 = .ok (.aload_n 0, 1) := by decide +kernel
theorem dX10_hasNext_24 : decode cX10_hasNext 24 = .ok (.getfield 29, 3) := by decide +kernel
theorem dX10_hasNext_27 : decode cX10_hasNext 27 = .ok (.iload_n 1, 1) := by decide +kernel
theorem dX10_hasNext_28 : decode cX10_hasNext 28 = .ok (.iaload, 1) := by decide +kernel
theorem dX10_hasNext_29 : decode cX10_hasNext 29 = .ok (.aload_n 0, 1) := by decide +kernel
theorem dX10_hasNext_30 : decode cX10_hasNext 30 = .ok (.getfield 20, 3) := by decide +kernel
theorem dX10_hasNext_33 : decode cX10_hasNext 33 = .ok (.iload_n 1, 1) := by decide +kernel
theorem dX10_hasNext_34 : decode cX10_hasNext 34 = .ok (.iaload, 1) := by decide +kernel
theorem dX10_hasNext_35 : decode cX10_hasNext 35 = .ok (.if_icmp .ge 7, 3) := by decide +kernel
theorem dX10_hasNext_38 : decode cX10_hasNext 38 = .ok (.iconst 1, 1) := by decide +kernel
theorem dX10_hasNext_39 : decode cX10_hasNext 39 = .ok (.goto 4, 3) := by decide +kernel
theorem dX10_hasNext_42 : decode cX10_hasNext 42 = .ok (.iconst 0, 1) := by decide +kernel
theorem dX10_hasNext_43 : decode cX10_hasNext 43 = .ok (.ireturn, 1) := by decide +kernel
theorem dX10_next_0 : decode cX10_next 0 = .ok (.aload_n 0, 1) := by decide +kernel
theorem dX10_next_1 : decode cX10_next 1 = .ok (.iconst 0, 1) := by decide +kernel
theorem dX10_next_2 : decode cX10_next 2 = .ok (.putfield 1, 3) := by decide +kernel
theorem dX10_next_5 : decode cX10_next 5 = .ok (.aload_n 0, 1) := by decide +kernel
theorem dX10_next_6 : decode cX10_next 6 = .ok (.iload_n 1, 1) := by decide +kernel
theorem dX10_next_7 : decode cX10_next 7 = .ok (.invokevirtual 92, 3) := by decide +kernel
theorem dX10_next_10 : decode cX10_next 10 = .ok (.ifCond .ne 54, 3) := by decide +kernel
theorem dX10_next_13 : decode cX10_next 13 = .ok (.aload_n 0, 1) := by decide +kernel
theorem dX10_next_14 : decode cX10_next 14 = .ok (.aload_n 0, 1) := by decide +kernel
theorem dX10_next_15 : decode cX10_next 15 = .ok (.getfield 29, 3) := by decide +kernel
theorem dX10_next_18 : decode cX10_next 18 = .ok (.iload_n 1, 1) := by decide +kernel
theorem dX10_next_19 : decode cX10_next 19 = .ok (.iaload, 1) := by decide +kernel
theorem dX10_next_20 : decode cX10_next 20 = .ok (.iconst (-1), 1) := by decide +kernel
theorem dX10_next_21 : decode cX10_next 21 = .ok (.if_icmp .eq 7, 3) := by decide +kernel
theorem dX10_next_24 : decode cX10_next 24 = .ok (.iconst 1, 1) := by decide +kernel
theorem dX10_next_25 : decode cX10_next 25 = .ok (.goto 4, 3) := by decide +kernel
theorem dX10_next_28 : decode cX10_next 28 = .ok (.iconst 0, 1) := by decide +kernel
theorem dX10_next_29 : decode cX10_next 29 = .ok (.iconst 2, 1) := by decide +kernel
theorem dX10_next_30 : decode cX10_next 30 = .ok (.invokevirtual 88, 3) := by decide +kernel
theorem dX10_next_33 : decode cX10_next 33 = .ok (.ifCond .ne 31, 3) := by decide +kernel
theorem dX10_next_36 : decode cX10_next 36 = .ok (.aload_n 0, 1) := by decide +kernel
theorem dX10_next_37 : decode cX10_next 37 = .ok (.aload_n 0, 1) := by decide +kernel
theorem dX10_next_38 : decode cX10_next 38 = .ok (.getfield 29, 3) := by decide +kernel
theorem dX10_next_41 : decode cX10_next 41 = .ok (.iload_n 1, 1) := by decide +kernel
theorem dX10_next_42 : decode cX10_next 42 = .ok (.iaload, 1) := by decide +kernel
theorem dX10_next_43 : decode cX10_next 43 = .ok (.aload_n 0, 1) := by decide +kernel
theorem dX10_next_44 : decode cX10_next 44 = .ok (.getfield 20, 3) := by decide +kernel
theorem dX10_next_47 : decode cX10_next 47 = .ok (.iload_n 1, 1) := by decide +kernel
theorem dX10_next_48 : decode cX10_next 48 = .ok (.iaload, 1) := by decide +kernel
theorem dX10_next_49 : decode cX10_next 49 = .ok (.if_icmp .ge 7, 3) := by decide +kernel
theorem dX10_next_52 : decode cX10_next 52 = .ok (.iconst 1, 1) := by decide +kernel
theorem dX10_next_53 : decode cX10_next 53 = .ok (.goto 4, 3) := by decide +kernel
theorem dX10_next_56 : decode cX10_next 56 = .ok (.iconst 0, 1) := by decide +kernel
theorem dX10_next_57 : decode cX10_next 57 = .ok (.iconst 3, 1) := by decide +kernel
theorem dX10_next_58 : decode cX10_next 58 = .ok (.invokevirtual 88, 3) := by decide +kernel
theorem dX10_next_61 : decode cX10_next 61 = .ok (.ifCond .eq 5, 3) := by decide +kernel
theorem dX10_next_64 : decode cX10_next 64 = .ok (.iconst 0, 1) := by decide +kernel
theorem dX10_next_65 : decode cX10_next 65 = .ok (.ireturn, 1) := by decide +kernel
theorem dX10_next_66 : decode cX10_next 66 = .ok (.bipush 101, 2) := by decide +kernel
theorem dX10_next_68 : decode cX10_next 68 = .ok (.iload_n 1, 1) := by decide +kernel
theorem dX10_next_69 : decode cX10_next 69 = .ok (.imul, 1) := by decide +kernel
theorem dX10_next_70 : decode cX10_next 70 = .ok (.aload_n 0, 1) := by decide +kernel
theorem dX10_next_71 : decode cX10_next 71 = .ok (.getfield 29, 3) := by decide +kernel
theorem dX10_next_74 : decode cX10_next 74 = .ok (.iload_n 1, 1) := by decide +kernel
theorem dX10_next_75 : decode cX10_next 75 = .ok (.iaload, 1) := by decide +kernel
theorem dX10_next_76 : decode cX10_next 76 = .ok (.iadd, 1) := by decide +kernel
theorem dX10_next_77 : decode cX10_next 77 = .ok (.istore_n 2, 1) := by decide +kernel
theorem dX10_next_78 : decode cX10_next 78 = .ok (.aload_n 0, 1) := by decide +kernel
theorem dX10_next_79 : decode cX10_next 79 = .ok (.getfield 29, 3) := by decide +kernel
theorem dX10_next_82 : decode cX10_next 82 = .ok (.iload_n 1, 1) := by decide +kernel
theorem dX10_next_83 : decode cX10_next 83 = .ok (.dup2, 1) := by decide +kernel
theorem dX10_next_84 : decode cX10_next 84 = .ok (.iaload, 1) := by decide +kernel
theorem dX10_next_85 : decode cX10_next 85 = .ok (.iconst 1, 1) := by decide +kernel
theorem dX10_next_86 : decode cX10_next 86 = .ok (.iadd, 1) := by decide +kernel
theorem dX10_next_87 : decode cX10_next 87 = .ok (.iastore, 1) := by decide +kernel
theorem dX10_next_88 : decode cX10_next 88 = .ok (.aload_n 0, 1) := by decide +kernel
theorem dX10_next_89 : decode cX10_next 89 = .ok (.getfield 32, 3) := by decide +kernel
theorem dX10_next_92 : decode cX10_next 92 = .ok (.iload_n 1, 1) := by decide +kernel
theorem dX10_next_93 : decode cX10_next 93 = .ok (.iconst 1, 1) := by decide +kernel
theorem dX10_next_94 : decode cX10_next 94 = .ok (.bastore, 1) := by decide +kernel
theorem dX10_next_95 : decode cX10_next 95 = .ok (.sipush 1000, 3) := by decide +kernel
theorem dX10_next_98 : decode cX10_next 98 = .ok (.aload_n 0, 1) := by decide +kernel
theorem dX10_next_99 : decode cX10_next 99 = .ok (.getfield 13, 3) := by decide +kernel
theorem dX10_next_102 : decode cX10_next 102 = .ok (.iload_n 2, 1) := by decide +kernel
theorem dX10_next_103 : decode cX10_next 103 = .ok (.iaload, 1) := by decide +kernel
theorem dX10_next_104 : decode cX10_next 104 = .ok (.imul, 1) := by decide +kernel
theorem dX10_next_105 : decode cX10_next 105 = .ok (.aload_n 0, 1) := by decide +kernel
theorem dX10_next_106 : decode cX10_next 106 = .ok (.getfield 17, 3) := by decide +kernel
theorem dX10_next_109 : decode cX10_next 109 = .ok (.iload_n 2, 1) := by decide +kernel
theorem dX10_next_110 : decode cX10_next 110 = .ok (.iaload, 1) := by decide +kernel
theorem dX10_next_111 : decode cX10_next 111 = .ok (.iadd, 1) := by decide +kernel
theorem dX10_next_112 : decode cX10_next 112 = .ok (.ireturn, 1) := by decide +kernel
theorem dX10_takeOut_0 : decode cX10_takeOut 0 = .ok (.aload_n 0, 1) := by decide +kernel
theorem dX10_takeOut_1 : decode cX10_takeOut 1 = .ok (.iconst 0, 1) := by decide +kernel
theorem dX10_takeOut_2 : decode cX10_takeOut 2 = .ok (.putfield 1, 3) := by decide +kernel
theorem dX10_takeOut_5 : decode cX10_takeOut 5 = .ok (.aload_n 0, 1) := by decide +kernel
theorem dX10_takeOut_6 : decode cX10_takeOut 6 = .ok (.iload_n 1, 1) := by decide +kernel
theorem dX10_takeOut_7 : decode cX10_takeOut 7 = .ok (.invokevirtual 92, 3) := by decide +kernel
theorem dX10_takeOut_10 : decode cX10_takeOut 10 = .ok (.ifCond .ne 17, 3) := by decide +kernel
theorem dX10_takeOut_13 : decode cX10_takeOut 13 = .ok (.aload_n 0, 1) := by decide +kernel
theorem dX10_takeOut_14 : decode cX10_takeOut 14 = .ok (.aload_n 0, 1) := by decide +kernel
theorem dX10_takeOut_15 : decode cX10_takeOut 15 = .ok (.getfield 32, 3) := by decide +kernel
theorem dX10_takeOut_18 : decode cX10_takeOut 18 = .ok (.iload_n 1, 1) := by decide +kernel
theorem dX10_takeOut_19 : decode cX10_takeOut 19 = .ok (.baload, 1) := by decide +kernel
theorem dX10_takeOut_20 : decode cX10_takeOut 20 = .ok (.iconst 2, 1) := by decide +kernel
theorem dX10_takeOut_21 : decode cX10_takeOut 21 = .ok (.invokevirtual 88, 3) := by decide +kernel
theorem dX10_takeOut_24 : decode cX10_takeOut 24 = .ok (.ifCond .eq 5, 3) := by decide +kernel
theorem dX10_takeOut_27 : decode cX10_takeOut 27 = .ok (.iconst 0, 1) := by decide +kernel
theorem dX10_takeOut_28 : decode cX10_takeOut 28 = .ok (.ireturn, 1) := by decide +kernel
theorem dX10_takeOut_29 : decode cX10_takeOut 29 = .ok (.aload_n 0, 1) := by decide +kernel
theorem dX10_takeOut_30 : decode cX10_takeOut 30 = .ok (.getfield 32, 3) := by decide +kernel
theorem dX10_takeOut_33 : decode cX10_takeOut 33 = .ok (.iload_n 1, 1) := by decide +kernel
theorem dX10_takeOut_34 : decode cX10_takeOut 34 = .ok (.iconst 0, 1) := by decide +kernel
theorem dX10_takeOut_35 : decode cX10_takeOut 35 = .ok (.bastore, 1) := by decide +kernel
theorem dX10_takeOut_36 : decode cX10_takeOut 36 = .ok (.aload_n 0, 1) := by decide +kernel
theorem dX10_takeOut_37 : decode cX10_takeOut 37 = .ok (.getfield 29, 3) := by decide +kernel
theorem dX10_takeOut_40 : decode cX10_takeOut 40 = .ok (.iload_n 1, 1) := by decide +kernel
theorem dX10_takeOut_41 : decode cX10_takeOut 41 = .ok (.dup2, 1) := by decide +kernel
theorem dX10_takeOut_42 : decode cX10_takeOut 42 = .ok (.iaload, 1) := by decide +kernel
theorem dX10_takeOut_43 : decode cX10_takeOut 43 = .ok (.iconst 1, 1) := by decide +kernel
theorem dX10_takeOut_44 : decode cX10_takeOut 44 = .ok (.isub, 1) := by decide +kernel
theorem dX10_takeOut_45 : decode cX10_takeOut 45 = .ok (.iastore, 1) := by decide +kernel
theorem dX10_takeOut_46 : decode cX10_takeOut 46 = .ok (.aload_n 0, 1) := by decide +kernel
theorem dX10_takeOut_47 : decode cX10_takeOut 47 = .ok (.iload_n 1, 1) := by decide +kernel
theorem dX10_takeOut_48 : decode cX10_takeOut 48 = .ok (.aload_n 0, 1) := by decide +kernel
theorem dX10_takeOut_49 : decode cX10_takeOut 49 = .ok (.getfield 29, 3) := by decide +kernel
theorem dX10_takeOut_52 : decode cX10_takeOut 52 = .ok (.iload_n 1, 1) := by decide +kernel
theorem dX10_takeOut_53 : decode cX10_takeOut 53 = .ok (.iaload, 1) := by decide +kernel
theorem dX10_takeOut_54 : decode cX10_takeOut 54 = .ok (.invokevirtual 99, 3) := by decide +kernel
theorem dX10_takeOut_57 : decode cX10_takeOut 57 = .ok (.pop, 1) := by decide +kernel
theorem dX10_takeOut_58 : decode cX10_takeOut 58 = .ok (.aload_n 0, 1) := by decide +kernel
theorem dX10_takeOut_59 : decode cX10_takeOut 59 = .ok (.getfield 20, 3) := by decide +kernel
theorem dX10_takeOut_62 : decode cX10_takeOut 62 = .ok (.iload_n 1, 1) := by decide +kernel
theorem dX10_takeOut_63 : decode cX10_takeOut 63 = .ok (.iaload, 1) := by decide +kernel
theorem dX10_takeOut_64 : decode cX10_takeOut 64 = .ok (.ireturn, 1) := by decide +kernel
theorem dX10_noCache_0 : decode cX10_noCache 0 = .ok (.aload_n 0, 1) := by decide +kernel
theorem dX10_noCache_1 : decode cX10_noCache 1 = .ok (.iload_n 1, 1) := by decide +kernel
theorem dX10_noCache_2 : decode cX10_noCache 2 = .ok (.iconst 1, 1) := by decide +kernel
theorem dX10_noCache_3 : decode cX10_noCache 3 = .ok (.bipush 8, 2) := by decide +kernel
theorem dX10_noCache_5 : decode cX10_noCache 5 = .ok (.invokestatic 84, 3) := by decide +kernel
theorem dX10_noCache_8 : decode cX10_noCache 8 = .ok (.iconst 1, 1) := by decide +kernel
theorem dX10_noCache_9 : decode cX10_noCache 9 = .ok (.invokevirtual 88, 3) := by decide +kernel
theorem dX10_noCache_12 : decode cX10_noCache 12 = .ok (.ireturn, 1) := by decide +kernel
theorem dX10_cachePlace_0 : decode cX10_cachePlace 0 = .ok (.iconst 0, 1) := by decide +kernel
theorem dX10_cachePlace_1 : decode cX10_cachePlace 1 = .ok (.istore_n 3, 1) := by decide +kernel
theorem dX10_cachePlace_2 : decode cX10_cachePlace 2 = .ok (.iload_n 3, 1) := by decide +kernel
theorem dX10_cachePlace_3 : decode cX10_cachePlace 3 = .ok (.aload_n 0, 1) := by decide +kernel
theorem dX10_cachePlace_4 : decode cX10_cachePlace 4 = .ok (.getfield 39, 3) := by decide +kernel
theorem dX10_cachePlace_7 : decode cX10_cachePlace 7 = .ok (.iload_n 1, 1) := by decide +kernel
theorem dX10_cachePlace_8 : decode cX10_cachePlace 8 = .ok (.iaload, 1) := by decide +kernel
theorem dX10_cachePlace_9 : decode cX10_cachePlace 9 = .ok (.if_icmp .ge 26, 3) := by decide +kernel
theorem dX10_cachePlace_12 : decode cX10_cachePlace 12 = .ok (.aload_n 0, 1) := by decide +kernel
theorem dX10_cachePlace_13 : decode cX10_cachePlace 13 = .ok (.getfield 36, 3) := by decide +kernel
theorem dX10_cachePlace_16 : decode cX10_cachePlace 16 = .ok (.bipush 9, 2) := by decide +kernel
theorem dX10_cachePlace_18 : decode cX10_cachePlace 18 = .ok (.iload_n 1, 1) := by decide +kernel
theorem dX10_cachePlace_19 : decode cX10_cachePlace 19 = .ok (.imul, 1) := by decide +kernel
theorem dX10_cachePlace_20 : decode cX10_cachePlace 20 = .ok (.iload_n 3, 1) := by decide +kernel
theorem dX10_cachePlace_21 : decode cX10_cachePlace 21 = .ok (.iadd, 1) := by decide +kernel
theorem dX10_cachePlace_22 : decode cX10_cachePlace 22 = .ok (.iaload, 1) := by decide +kernel
theorem dX10_cachePlace_23 : decode cX10_cachePlace 23 = .ok (.iload_n 2, 1) := by decide +kernel
theorem dX10_cachePlace_24 : decode cX10_cachePlace 24 = .ok (.if_icmp .ne 5, 3) := by decide +kernel
theorem dX10_cachePlace_27 : decode cX10_cachePlace 27 = .ok (.iload_n 3, 1) := by decide +kernel
theorem dX10_cachePlace_28 : decode cX10_cachePlace 28 = .ok (.ireturn, 1) := by decide +kernel
theorem dX10_cachePlace_29 : decode cX10_cachePlace 29 = .ok (.iinc 3 1, 3) := by decide +kernel
theorem dX10_cachePlace_32 : decode cX10_cachePlace 32 = .ok (.goto (-30), 3) := by decide +kernel
theorem dX10_cachePlace_35 : decode cX10_cachePlace 35 = .ok (.iconst (-1), 1) := by decide +kernel
theorem dX10_cachePlace_36 : decode cX10_cachePlace 36 = .ok (.ireturn, 1) := by decide +kernel
theorem dX10_leaves_0 : decode cX10_leaves 0 = .ok (.aload_n 0, 1) := by decide +kernel
theorem dX10_leaves_1 : decode cX10_leaves 1 = .ok (.getfield 39, 3) := by decide +kernel
theorem dX10_leaves_4 : decode cX10_leaves 4 = .ok (.iload_n 1, 1) := by decide +kernel
theorem dX10_leaves_5 : decode cX10_leaves 5 = .ok (.dup2, 1) := by decide +kernel
theorem dX10_leaves_6 : decode cX10_leaves 6 = .ok (.iaload, 1) := by decide +kernel
theorem dX10_leaves_7 : decode cX10_leaves 7 = .ok (.iconst 1, 1) := by decide +kernel
theorem dX10_leaves_8 : decode cX10_leaves 8 = .ok (.isub, 1) := by decide +kernel
theorem dX10_leaves_9 : decode cX10_leaves 9 = .ok (.iastore, 1) := by decide +kernel
theorem dX10_leaves_10 : decode cX10_leaves 10 = .ok (.iload_n 2, 1) := by decide +kernel
theorem dX10_leaves_11 : decode cX10_leaves 11 = .ok (.istore_n 3, 1) := by decide +kernel
theorem dX10_leaves_12 : decode cX10_leaves 12 = .ok (.iload_n 3, 1) := by decide +kernel
theorem dX10_leaves_13 : decode cX10_leaves 13 = .ok (.aload_n 0, 1) := by decide +kernel
theorem dX10_leaves_14 : decode cX10_leaves 14 = .ok (.getfield 39, 3) := by decide +kernel
theorem dX10_leaves_17 : decode cX10_leaves 17 = .ok (.iload_n 1, 1) := by decide +kernel
theorem dX10_leaves_18 : decode cX10_leaves 18 = .ok (.iaload, 1) := by decide +kernel
theorem dX10_leaves_19 : decode cX10_leaves 19 = .ok (.if_icmp .ge 33, 3) := by decide +kernel
theorem dX10_leaves_22 : decode cX10_leaves 22 = .ok (.aload_n 0, 1) := by decide +kernel
theorem dX10_leaves_23 : decode cX10_leaves 23 = .ok (.getfield 36, 3) := by decide +kernel
theorem dX10_leaves_26 : decode cX10_leaves 26 = .ok (.bipush 9, 2) := by decide +kernel
theorem dX10_leaves_28 : decode cX10_leaves 28 = .ok (.iload_n 1, 1) := by decide +kernel
theorem dX10_leaves_29 : decode cX10_leaves 29 = .ok (.imul, 1) := by decide +kernel
theorem dX10_leaves_30 : decode cX10_leaves 30 = .ok (.iload_n 3, 1) := by decide +kernel
theorem dX10_leaves_31 : decode cX10_leaves 31 = .ok (.iadd, 1) := by decide +kernel
theorem dX10_leaves_32 : decode cX10_leaves 32 = .ok (.aload_n 0, 1) := by decide +kernel
theorem dX10_leaves_33 : decode cX10_leaves 33 = .ok (.getfield 36, 3) := by decide +kernel
theorem dX10_leaves_36 : decode cX10_leaves 36 = .ok (.bipush 9, 2) := by decide +kernel
theorem dX10_leaves_38 : decode cX10_leaves 38 = .ok (.iload_n 1, 1) := by decide +kernel
theorem dX10_leaves_39 : decode cX10_leaves 39 = .ok (.imul, 1) := by decide +kernel
theorem dX10_leaves_40 : decode cX10_leaves 40 = .ok (.iload_n 3, 1) := by decide +kernel
theorem dX10_leaves_41 : decode cX10_leaves 41 = .ok (.iadd, 1) := by decide +kernel
theorem dX10_leaves_42 : decode cX10_leaves 42 = .ok (.iconst 1, 1) := by decide +kernel
theorem dX10_leaves_43 : decode cX10_leaves 43 = .ok (.iadd, 1) := by decide +kernel
theorem dX10_leaves_44 : decode cX10_leaves 44 = .ok (.iaload, 1) := by decide +kernel
theorem dX10_leaves_45 : decode cX10_leaves 45 = .ok (.iastore, 1) := by decide +kernel
theorem dX10_leaves_46 : decode cX10_leaves 46 = .ok (.iinc 3 1, 3) := by decide +kernel
theorem dX10_leaves_49 : decode cX10_leaves 49 = .ok (.goto (-37), 3) := by decide +kernel
theorem dX10_leaves_52 : decode cX10_leaves 52 = .ok (.return_, 1) := by decide +kernel
theorem dX10_asks_0 : decode cX10_asks 0 = .ok (.aload_n 0, 1) := by decide +kernel
theorem dX10_asks_1 : decode cX10_asks 1 = .ok (.getfield 45, 3) := by decide +kernel
theorem dX10_asks_4 : decode cX10_asks 4 = .ok (.aload_n 0, 1) := by decide +kernel
theorem dX10_asks_5 : decode cX10_asks 5 = .ok (.getfield 127, 3) := by decide +kernel
theorem dX10_asks_8 : decode cX10_asks 8 = .ok (.iload_n 1, 1) := by decide +kernel
theorem dX10_asks_9 : decode cX10_asks 9 = .ok (.iastore, 1) := by decide +kernel
theorem dX10_asks_10 : decode cX10_asks 10 = .ok (.aload_n 0, 1) := by decide +kernel
theorem dX10_asks_11 : decode cX10_asks 11 = .ok (.dup, 1) := by decide +kernel
theorem dX10_asks_12 : decode cX10_asks 12 = .ok (.getfield 127, 3) := by decide +kernel
theorem dX10_asks_15 : decode cX10_asks 15 = .ok (.iconst 1, 1) := by decide +kernel
theorem dX10_asks_16 : decode cX10_asks 16 = .ok (.iadd, 1) := by decide +kernel
theorem dX10_asks_17 : decode cX10_asks 17 = .ok (.putfield 127, 3) := by decide +kernel
theorem dX10_asks_20 : decode cX10_asks 20 = .ok (.iconst 0, 1) := by decide +kernel
theorem dX10_asks_21 : decode cX10_asks 21 = .ok (.istore_n 2, 1) := by decide +kernel
theorem dX10_asks_22 : decode cX10_asks 22 = .ok (.iconst 1, 1) := by decide +kernel
theorem dX10_asks_23 : decode cX10_asks 23 = .ok (.istore_n 3, 1) := by decide +kernel
theorem dX10_asks_24 : decode cX10_asks 24 = .ok (.iload_n 3, 1) := by decide +kernel
theorem dX10_asks_25 : decode cX10_asks 25 = .ok (.bipush 8, 2) := by decide +kernel
theorem dX10_asks_27 : decode cX10_asks 27 = .ok (.if_icmp .gt 91, 3) := by decide +kernel
theorem dX10_asks_30 : decode cX10_asks 30 = .ok (.aload_n 0, 1) := by decide +kernel
theorem dX10_asks_31 : decode cX10_asks 31 = .ok (.iload_n 3, 1) := by decide +kernel
theorem dX10_asks_32 : decode cX10_asks 32 = .ok (.iload_n 1, 1) := by decide +kernel
theorem dX10_asks_33 : decode cX10_asks 33 = .ok (.invokevirtual 130, 3) := by decide +kernel
theorem dX10_asks_36 : decode cX10_asks 36 = .ok (.istore 4, 2) := by decide +kernel
theorem dX10_asks_38 : decode cX10_asks 38 = .ok (.iload 4, 2) := by decide +kernel
theorem dX10_asks_40 : decode cX10_asks 40 = .ok (.iconst (-1), 1) := by decide +kernel
theorem dX10_asks_41 : decode cX10_asks 41 = .ok (.if_icmp .eq 28, 3) := by decide +kernel
theorem dX10_asks_44 : decode cX10_asks 44 = .ok (.aload_n 0, 1) := by decide +kernel
theorem dX10_asks_45 : decode cX10_asks 45 = .ok (.getfield 42, 3) := by decide +kernel
theorem dX10_asks_48 : decode cX10_asks 48 = .ok (.iload_n 3, 1) := by decide +kernel
theorem dX10_asks_49 : decode cX10_asks 49 = .ok (.dup2, 1) := by decide +kernel
theorem dX10_asks_50 : decode cX10_asks 50 = .ok (.iaload, 1) := by decide +kernel
theorem dX10_asks_51 : decode cX10_asks 51 = .ok (.iconst 1, 1) := by decide +kernel
theorem dX10_asks_52 : decode cX10_asks 52 = .ok (.iadd, 1) := by decide +kernel
theorem dX10_asks_53 : decode cX10_asks 53 = .ok (.iastore, 1) := by decide +kernel
theorem dX10_asks_54 : decode cX10_asks 54 = .ok (.iload_n 2, 1) := by decide +kernel
theorem dX10_asks_55 : decode cX10_asks 55 = .ok (.iconst 1, 1) := by decide +kernel
theorem dX10_asks_56 : decode cX10_asks 56 = .ok (.iload_n 3, 1) := by decide +kernel
theorem dX10_asks_57 : decode cX10_asks 57 = .ok (.iconst 1, 1) := by decide +kernel
theorem dX10_asks_58 : decode cX10_asks 58 = .ok (.isub, 1) := by decide +kernel
theorem dX10_asks_59 : decode cX10_asks 59 = .ok (.ishl, 1) := by decide +kernel
theorem dX10_asks_60 : decode cX10_asks 60 = .ok (.ior, 1) := by decide +kernel
theorem dX10_asks_61 : decode cX10_asks 61 = .ok (.istore_n 2, 1) := by decide +kernel
theorem dX10_asks_62 : decode cX10_asks 62 = .ok (.aload_n 0, 1) := by decide +kernel
theorem dX10_asks_63 : decode cX10_asks 63 = .ok (.iload_n 3, 1) := by decide +kernel
theorem dX10_asks_64 : decode cX10_asks 64 = .ok (.iload 4, 2) := by decide +kernel
theorem dX10_asks_66 : decode cX10_asks 66 = .ok (.invokevirtual 133, 3) := by decide +kernel
theorem dX10_asks_69 : decode cX10_asks 69 = .ok (.aload_n 0, 1) := by decide +kernel
theorem dX10_asks_70 : decode cX10_asks 70 = .ok (.getfield 36, 3) := by decide +kernel
theorem dX10_asks_73 : decode cX10_asks 73 = .ok (.bipush 9, 2) := by decide +kernel
theorem dX10_asks_75 : decode cX10_asks 75 = .ok (.iload_n 3, 1) := by decide +kernel
theorem dX10_asks_76 : decode cX10_asks 76 = .ok (.imul, 1) := by decide +kernel
theorem dX10_asks_77 : decode cX10_asks 77 = .ok (.aload_n 0, 1) := by decide +kernel
theorem dX10_asks_78 : decode cX10_asks 78 = .ok (.getfield 39, 3) := by decide +kernel
theorem dX10_asks_81 : decode cX10_asks 81 = .ok (.iload_n 3, 1) := by decide +kernel
theorem dX10_asks_82 : decode cX10_asks 82 = .ok (.iaload, 1) := by decide +kernel
theorem dX10_asks_83 : decode cX10_asks 83 = .ok (.iadd, 1) := by decide +kernel
theorem dX10_asks_84 : decode cX10_asks 84 = .ok (.iload_n 1, 1) := by decide +kernel
theorem dX10_asks_85 : decode cX10_asks 85 = .ok (.iastore, 1) := by decide +kernel
theorem dX10_asks_86 : decode cX10_asks 86 = .ok (.aload_n 0, 1) := by decide +kernel
theorem dX10_asks_87 : decode cX10_asks 87 = .ok (.getfield 39, 3) := by decide +kernel
theorem dX10_asks_90 : decode cX10_asks 90 = .ok (.iload_n 3, 1) := by decide +kernel
theorem dX10_asks_91 : decode cX10_asks 91 = .ok (.dup2, 1) := by decide +kernel
theorem dX10_asks_92 : decode cX10_asks 92 = .ok (.iaload, 1) := by decide +kernel
theorem dX10_asks_93 : decode cX10_asks 93 = .ok (.iconst 1, 1) := by decide +kernel
theorem dX10_asks_94 : decode cX10_asks 94 = .ok (.iadd, 1) := by decide +kernel
theorem dX10_asks_95 : decode cX10_asks 95 = .ok (.iastore, 1) := by decide +kernel
theorem dX10_asks_96 : decode cX10_asks 96 = .ok (.aload_n 0, 1) := by decide +kernel
theorem dX10_asks_97 : decode cX10_asks 97 = .ok (.getfield 39, 3) := by decide +kernel
theorem dX10_asks_100 : decode cX10_asks 100 = .ok (.iload_n 3, 1) := by decide +kernel
theorem dX10_asks_101 : decode cX10_asks 101 = .ok (.iaload, 1) := by decide +kernel
theorem dX10_asks_102 : decode cX10_asks 102 = .ok (.iload_n 3, 1) := by decide +kernel
theorem dX10_asks_103 : decode cX10_asks 103 = .ok (.if_icmp .le 9, 3) := by decide +kernel
theorem dX10_asks_106 : decode cX10_asks 106 = .ok (.aload_n 0, 1) := by decide +kernel
theorem dX10_asks_107 : decode cX10_asks 107 = .ok (.iload_n 3, 1) := by decide +kernel
theorem dX10_asks_108 : decode cX10_asks 108 = .ok (.iconst 0, 1) := by decide +kernel
theorem dX10_asks_109 : decode cX10_asks 109 = .ok (.invokevirtual 133, 3) := by decide +kernel
theorem dX10_asks_112 : decode cX10_asks 112 = .ok (.iinc 3 1, 3) := by decide +kernel
theorem dX10_asks_115 : decode cX10_asks 115 = .ok (.goto (-91), 3) := by decide +kernel
theorem dX10_asks_118 : decode cX10_asks 118 = .ok (.iload_n 2, 1) := by decide +kernel
theorem dX10_asks_119 : decode cX10_asks 119 = .ok (.ireturn, 1) := by decide +kernel
theorem dX10_request_0 : decode cX10_request 0 = .ok (.aload_n 0, 1) := by decide +kernel
theorem dX10_request_1 : decode cX10_request 1 = .ok (.iconst 0, 1) := by decide +kernel
theorem dX10_request_2 : decode cX10_request 2 = .ok (.putfield 1, 3) := by decide +kernel
theorem dX10_request_5 : decode cX10_request 5 = .ok (.aload_n 0, 1) := by decide +kernel
theorem dX10_request_6 : decode cX10_request 6 = .ok (.iload_n 1, 1) := by decide +kernel
theorem dX10_request_7 : decode cX10_request 7 = .ok (.iconst 0, 1) := by decide +kernel
theorem dX10_request_8 : decode cX10_request 8 = .ok (.bipush 99, 2) := by decide +kernel
theorem dX10_request_10 : decode cX10_request 10 = .ok (.invokestatic 84, 3) := by decide +kernel
theorem dX10_request_13 : decode cX10_request 13 = .ok (.iconst 1, 1) := by decide +kernel
theorem dX10_request_14 : decode cX10_request 14 = .ok (.invokevirtual 88, 3) := by decide +kernel
theorem dX10_request_17 : decode cX10_request 17 = .ok (.ifCond .ne 26, 3) := by decide +kernel
theorem dX10_request_20 : decode cX10_request 20 = .ok (.aload_n 0, 1) := by decide +kernel
theorem dX10_request_21 : decode cX10_request 21 = .ok (.aload_n 0, 1) := by decide +kernel
theorem dX10_request_22 : decode cX10_request 22 = .ok (.getfield 127, 3) := by decide +kernel
theorem dX10_request_25 : decode cX10_request 25 = .ok (.sipush 1000, 3) := by decide +kernel
theorem dX10_request_28 : decode cX10_request 28 = .ok (.if_icmp .ge 7, 3) := by decide +kernel
theorem dX10_request_31 : decode cX10_request 31 = .ok (.iconst 1, 1) := by decide +kernel
theorem dX10_request_32 : decode cX10_request 32 = .ok (.goto 4, 3) := by decide +kernel
theorem dX10_request_35 : decode cX10_request 35 = .ok (.iconst 0, 1) := by decide +kernel
theorem dX10_request_36 : decode cX10_request 36 = .ok (.iconst 2, 1) := by decide +kernel
theorem dX10_request_37 : decode cX10_request 37 = .ok (.invokevirtual 88, 3) := by decide +kernel
theorem dX10_request_40 : decode cX10_request 40 = .ok (.ifCond .eq 7, 3) := by decide +kernel
theorem dX10_request_43 : decode cX10_request 43 = .ok (.iconst 0, 1) := by decide +kernel
theorem dX10_request_44 : decode cX10_request 44 = .ok (.goto 8, 3) := by decide +kernel
theorem dX10_request_47 : decode cX10_request 47 = .ok (.aload_n 0, 1) := by decide +kernel
theorem dX10_request_48 : decode cX10_request 48 = .ok (.iload_n 1, 1) := by decide +kernel
theorem dX10_request_49 : decode cX10_request 49 = .ok (.invokevirtual 137, 3) := by decide +kernel
theorem dX10_request_52 : decode cX10_request 52 = .ok (.ireturn, 1) := by decide +kernel
theorem dX10_clearCaches_0 : decode cX10_clearCaches 0 = .ok (.aload_n 0, 1) := by decide +kernel
theorem dX10_clearCaches_1 : decode cX10_clearCaches 1 = .ok (.iconst 0, 1) := by decide +kernel
theorem dX10_clearCaches_2 : decode cX10_clearCaches 2 = .ok (.putfield 1, 3) := by decide +kernel
theorem dX10_clearCaches_5 : decode cX10_clearCaches 5 = .ok (.aload_n 0, 1) := by decide +kernel
theorem dX10_clearCaches_6 : decode cX10_clearCaches 6 = .ok (.getfield 127, 3) := by decide +kernel
theorem dX10_clearCaches_9 : decode cX10_clearCaches 9 = .ok (.istore_n 1, 1) := by decide +kernel
theorem dX10_clearCaches_10 : decode cX10_clearCaches 10 = .ok (.aload_n 0, 1) := by decide +kernel
theorem dX10_clearCaches_11 : decode cX10_clearCaches 11 = .ok (.iconst 0, 1) := by decide +kernel
theorem dX10_clearCaches_12 : decode cX10_clearCaches 12 = .ok (.putfield 127, 3) := by decide +kernel
theorem dX10_clearCaches_15 : decode cX10_clearCaches 15 = .ok (.iconst 1, 1) := by decide +kernel
theorem dX10_clearCaches_16 : decode cX10_clearCaches 16 = .ok (.istore_n 2, 1) := by decide +kernel
theorem dX10_clearCaches_17 : decode cX10_clearCaches 17 = .ok (.iload_n 2, 1) := by decide +kernel
theorem dX10_clearCaches_18 : decode cX10_clearCaches 18 = .ok (.bipush 8, 2) := by decide +kernel
theorem dX10_clearCaches_20 : decode cX10_clearCaches 20 = .ok (.if_icmp .gt 23, 3) := by decide +kernel
theorem dX10_clearCaches_23 : decode cX10_clearCaches 23 = .ok (.aload_n 0, 1) := by decide +kernel
theorem dX10_clearCaches_24 : decode cX10_clearCaches 24 = .ok (.getfield 39, 3) := by decide +kernel
theorem dX10_clearCaches_27 : decode cX10_clearCaches 27 = .ok (.iload_n 2, 1) := by decide +kernel
theorem dX10_clearCaches_28 : decode cX10_clearCaches 28 = .ok (.iconst 0, 1) := by decide +kernel
theorem dX10_clearCaches_29 : decode cX10_clearCaches 29 = .ok (.iastore, 1) := by decide +kernel
theorem dX10_clearCaches_30 : decode cX10_clearCaches 30 = .ok (.aload_n 0, 1) := by decide +kernel
theorem dX10_clearCaches_31 : decode cX10_clearCaches 31 = .ok (.getfield 42, 3) := by decide +kernel
theorem dX10_clearCaches_34 : decode cX10_clearCaches 34 = .ok (.iload_n 2, 1) := by decide +kernel
theorem dX10_clearCaches_35 : decode cX10_clearCaches 35 = .ok (.iconst 0, 1) := by decide +kernel
theorem dX10_clearCaches_36 : decode cX10_clearCaches 36 = .ok (.iastore, 1) := by decide +kernel
theorem dX10_clearCaches_37 : decode cX10_clearCaches 37 = .ok (.iinc 2 1, 3) := by decide +kernel
theorem dX10_clearCaches_40 : decode cX10_clearCaches 40 = .ok (.goto (-23), 3) := by decide +kernel
theorem dX10_clearCaches_43 : decode cX10_clearCaches 43 = .ok (.iload_n 1, 1) := by decide +kernel
theorem dX10_clearCaches_44 : decode cX10_clearCaches 44 = .ok (.ireturn, 1) := by decide +kernel
theorem dX10_hits_0 : decode cX10_hits 0 = .ok (.aload_n 0, 1) := by decide +kernel
theorem dX10_hits_1 : decode cX10_hits 1 = .ok (.iconst 0, 1) := by decide +kernel
theorem dX10_hits_2 : decode cX10_hits 2 = .ok (.putfield 1, 3) := by decide +kernel
theorem dX10_hits_5 : decode cX10_hits 5 = .ok (.aload_n 0, 1) := by decide +kernel
theorem dX10_hits_6 : decode cX10_hits 6 = .ok (.iload_n 1, 1) := by decide +kernel
theorem dX10_hits_7 : decode cX10_hits 7 = .ok (.invokevirtual 141, 3) := by decide +kernel
theorem dX10_hits_10 : decode cX10_hits 10 = .ok (.ifCond .eq 7, 3) := by decide +kernel
theorem dX10_hits_13 : decode cX10_hits 13 = .ok (.iconst 0, 1) := by decide +kernel
theorem dX10_hits_14 : decode cX10_hits 14 = .ok (.goto 9, 3) := by decide +kernel
theorem dX10_hits_17 : decode cX10_hits 17 = .ok (.aload_n 0, 1) := by decide +kernel
theorem dX10_hits_18 : decode cX10_hits 18 = .ok (.getfield 42, 3) := by decide +kernel
theorem dX10_hits_21 : decode cX10_hits 21 = .ok (.iload_n 1, 1) := by decide +kernel
theorem dX10_hits_22 : decode cX10_hits 22 = .ok (.iaload, 1) := by decide +kernel
theorem dX10_hits_23 : decode cX10_hits 23 = .ok (.ireturn, 1) := by decide +kernel
theorem dX10_cached_0 : decode cX10_cached 0 = .ok (.aload_n 0, 1) := by decide +kernel
theorem dX10_cached_1 : decode cX10_cached 1 = .ok (.iconst 0, 1) := by decide +kernel
theorem dX10_cached_2 : decode cX10_cached 2 = .ok (.putfield 1, 3) := by decide +kernel
theorem dX10_cached_5 : decode cX10_cached 5 = .ok (.aload_n 0, 1) := by decide +kernel
theorem dX10_cached_6 : decode cX10_cached 6 = .ok (.iload_n 1, 1) := by decide +kernel
theorem dX10_cached_7 : decode cX10_cached 7 = .ok (.invokevirtual 141, 3) := by decide +kernel
theorem dX10_cached_10 : decode cX10_cached 10 = .ok (.ifCond .eq 7, 3) := by decide +kernel
theorem dX10_cached_13 : decode cX10_cached 13 = .ok (.iconst 0, 1) := by decide +kernel
theorem dX10_cached_14 : decode cX10_cached 14 = .ok (.goto 9, 3) := by decide +kernel
theorem dX10_cached_17 : decode cX10_cached 17 = .ok (.aload_n 0, 1) := by decide +kernel
theorem dX10_cached_18 : decode cX10_cached 18 = .ok (.getfield 39, 3) := by decide +kernel
theorem dX10_cached_21 : decode cX10_cached 21 = .ok (.iload_n 1, 1) := by decide +kernel
theorem dX10_cached_22 : decode cX10_cached 22 = .ok (.iaload, 1) := by decide +kernel
theorem dX10_cached_23 : decode cX10_cached 23 = .ok (.ireturn, 1) := by decide +kernel
theorem dX10_isCached_0 : decode cX10_isCached 0 = .ok (.aload_n 0, 1) := by decide +kernel
theorem dX10_isCached_1 : decode cX10_isCached 1 = .ok (.iconst 0, 1) := by decide +kernel
theorem dX10_isCached_2 : decode cX10_isCached 2 = .ok (.putfield 1, 3) := by decide +kernel
theorem dX10_isCached_5 : decode cX10_isCached 5 = .ok (.aload_n 0, 1) := by decide +kernel
theorem dX10_isCached_6 : decode cX10_isCached 6 = .ok (.iload_n 1, 1) := by decide +kernel
theorem dX10_isCached_7 : decode cX10_isCached 7 = .ok (.invokevirtual 141, 3) := by decide +kernel
theorem dX10_isCached_10 : decode cX10_isCached 10 = .ok (.ifCond .ne 32, 3) := by decide +kernel
theorem dX10_isCached_13 : decode cX10_isCached 13 = .ok (.aload_n 0, 1) := by decide +kernel
theorem dX10_isCached_14 : decode cX10_isCached 14 = .ok (.iload_n 2, 1) := by decide +kernel
theorem dX10_isCached_15 : decode cX10_isCached 15 = .ok (.iconst 0, 1) := by decide +kernel
theorem dX10_isCached_16 : decode cX10_isCached 16 = .ok (.bipush 99, 2) := by decide +kernel
theorem dX10_isCached_18 : decode cX10_isCached 18 = .ok (.invokestatic 84, 3) := by decide +kernel
theorem dX10_isCached_21 : decode cX10_isCached 21 = .ok (.iconst 1, 1) := by decide +kernel
theorem dX10_isCached_22 : decode cX10_isCached 22 = .ok (.invokevirtual 88, 3) := by decide +kernel
theorem dX10_isCached_25 : decode cX10_isCached 25 = .ok (.ifCond .ne 17, 3) := by decide +kernel
theorem dX10_isCached_28 : decode cX10_isCached 28 = .ok (.aload_n 0, 1) := by decide +kernel
theorem dX10_isCached_29 : decode cX10_isCached 29 = .ok (.iload_n 1, 1) := by decide +kernel
theorem dX10_isCached_30 : decode cX10_isCached 30 = .ok (.iload_n 2, 1) := by decide +kernel
theorem dX10_isCached_31 : decode cX10_isCached 31 = .ok (.invokevirtual 130, 3) := by decide +kernel
theorem dX10_isCached_34 : decode cX10_isCached 34 = .ok (.iconst (-1), 1) := by decide +kernel
theorem dX10_isCached_35 : decode cX10_isCached 35 = .ok (.if_icmp .eq 7, 3) := by decide +kernel
theorem dX10_isCached_38 : decode cX10_isCached 38 = .ok (.iconst 1, 1) := by decide +kernel
theorem dX10_isCached_39 : decode cX10_isCached 39 = .ok (.goto 4, 3) := by decide +kernel
theorem dX10_isCached_42 : decode cX10_isCached 42 = .ok (.iconst 0, 1) := by decide +kernel
theorem dX10_isCached_43 : decode cX10_isCached 43 = .ok (.ireturn, 1) := by decide +kernel
theorem dX10_cachedAt_0 : decode cX10_cachedAt 0 = .ok (.aload_n 0, 1) := by decide +kernel
theorem dX10_cachedAt_1 : decode cX10_cachedAt 1 = .ok (.iconst 0, 1) := by decide +kernel
theorem dX10_cachedAt_2 : decode cX10_cachedAt 2 = .ok (.putfield 1, 3) := by decide +kernel
theorem dX10_cachedAt_5 : decode cX10_cachedAt 5 = .ok (.aload_n 0, 1) := by decide +kernel
theorem dX10_cachedAt_6 : decode cX10_cachedAt 6 = .ok (.iload_n 1, 1) := by decide +kernel
theorem dX10_cachedAt_7 : decode cX10_cachedAt 7 = .ok (.invokevirtual 141, 3) := by decide +kernel
theorem dX10_cachedAt_10 : decode cX10_cachedAt 10 = .ok (.ifCond .ne 24, 3) := by decide +kernel
theorem dX10_cachedAt_13 : decode cX10_cachedAt 13 = .ok (.aload_n 0, 1) := by decide +kernel
theorem dX10_cachedAt_14 : decode cX10_cachedAt 14 = .ok (.iload_n 2, 1) := by decide +kernel
theorem dX10_cachedAt_15 : decode cX10_cachedAt 15 = .ok (.iconst 0, 1) := by decide +kernel
theorem dX10_cachedAt_16 : decode cX10_cachedAt 16 = .ok (.aload_n 0, 1) := by decide +kernel
theorem dX10_cachedAt_17 : decode cX10_cachedAt 17 = .ok (.getfield 39, 3) := by decide +kernel
theorem dX10_cachedAt_20 : decode cX10_cachedAt 20 = .ok (.iload_n 1, 1) := by decide +kernel
theorem dX10_cachedAt_21 : decode cX10_cachedAt 21 = .ok (.iaload, 1) := by decide +kernel
theorem dX10_cachedAt_22 : decode cX10_cachedAt 22 = .ok (.iconst 1, 1) := by decide +kernel
theorem dX10_cachedAt_23 : decode cX10_cachedAt 23 = .ok (.isub, 1) := by decide +kernel
theorem dX10_cachedAt_24 : decode cX10_cachedAt 24 = .ok (.invokestatic 84, 3) := by decide +kernel
theorem dX10_cachedAt_27 : decode cX10_cachedAt 27 = .ok (.iconst 2, 1) := by decide +kernel
theorem dX10_cachedAt_28 : decode cX10_cachedAt 28 = .ok (.invokevirtual 88, 3) := by decide +kernel
theorem dX10_cachedAt_31 : decode cX10_cachedAt 31 = .ok (.ifCond .eq 7, 3) := by decide +kernel
theorem dX10_cachedAt_34 : decode cX10_cachedAt 34 = .ok (.iconst 0, 1) := by decide +kernel
theorem dX10_cachedAt_35 : decode cX10_cachedAt 35 = .ok (.goto 14, 3) := by decide +kernel
theorem dX10_cachedAt_38 : decode cX10_cachedAt 38 = .ok (.aload_n 0, 1) := by decide +kernel
theorem dX10_cachedAt_39 : decode cX10_cachedAt 39 = .ok (.getfield 36, 3) := by decide +kernel
theorem dX10_cachedAt_42 : decode cX10_cachedAt 42 = .ok (.bipush 9, 2) := by decide +kernel
theorem dX10_cachedAt_44 : decode cX10_cachedAt 44 = .ok (.iload_n 1, 1) := by decide +kernel
theorem dX10_cachedAt_45 : decode cX10_cachedAt 45 = .ok (.imul, 1) := by decide +kernel
theorem dX10_cachedAt_46 : decode cX10_cachedAt 46 = .ok (.iload_n 2, 1) := by decide +kernel
theorem dX10_cachedAt_47 : decode cX10_cachedAt 47 = .ok (.iadd, 1) := by decide +kernel
theorem dX10_cachedAt_48 : decode cX10_cachedAt 48 = .ok (.iaload, 1) := by decide +kernel
theorem dX10_cachedAt_49 : decode cX10_cachedAt 49 = .ok (.ireturn, 1) := by decide +kernel
theorem dX10_requests_0 : decode cX10_requests 0 = .ok (.aload_n 0, 1) := by decide +kernel
theorem dX10_requests_1 : decode cX10_requests 1 = .ok (.iconst 0, 1) := by decide +kernel
theorem dX10_requests_2 : decode cX10_requests 2 = .ok (.putfield 1, 3) := by decide +kernel
theorem dX10_requests_5 : decode cX10_requests 5 = .ok (.aload_n 0, 1) := by decide +kernel
theorem dX10_requests_6 : decode cX10_requests 6 = .ok (.getfield 127, 3) := by decide +kernel
theorem dX10_requests_9 : decode cX10_requests 9 = .ok (.ireturn, 1) := by decide +kernel
theorem dX10_noRequest_0 : decode cX10_noRequest 0 = .ok (.aload_n 0, 1) := by decide +kernel
theorem dX10_noRequest_1 : decode cX10_noRequest 1 = .ok (.iload_n 1, 1) := by decide +kernel
theorem dX10_noRequest_2 : decode cX10_noRequest 2 = .ok (.iconst 0, 1) := by decide +kernel
theorem dX10_noRequest_3 : decode cX10_noRequest 3 = .ok (.aload_n 0, 1) := by decide +kernel
theorem dX10_noRequest_4 : decode cX10_noRequest 4 = .ok (.getfield 127, 3) := by decide +kernel
theorem dX10_noRequest_7 : decode cX10_noRequest 7 = .ok (.iconst 1, 1) := by decide +kernel
theorem dX10_noRequest_8 : decode cX10_noRequest 8 = .ok (.isub, 1) := by decide +kernel
theorem dX10_noRequest_9 : decode cX10_noRequest 9 = .ok (.invokestatic 84, 3) := by decide +kernel
theorem dX10_noRequest_12 : decode cX10_noRequest 12 = .ok (.iconst 1, 1) := by decide +kernel
theorem dX10_noRequest_13 : decode cX10_noRequest 13 = .ok (.invokevirtual 88, 3) := by decide +kernel
theorem dX10_noRequest_16 : decode cX10_noRequest 16 = .ok (.ireturn, 1) := by decide +kernel
theorem dX10_requestAt_0 : decode cX10_requestAt 0 = .ok (.aload_n 0, 1) := by decide +kernel
theorem dX10_requestAt_1 : decode cX10_requestAt 1 = .ok (.iconst 0, 1) := by decide +kernel
theorem dX10_requestAt_2 : decode cX10_requestAt 2 = .ok (.putfield 1, 3) := by decide +kernel
theorem dX10_requestAt_5 : decode cX10_requestAt 5 = .ok (.aload_n 0, 1) := by decide +kernel
theorem dX10_requestAt_6 : decode cX10_requestAt 6 = .ok (.iload_n 1, 1) := by decide +kernel
theorem dX10_requestAt_7 : decode cX10_requestAt 7 = .ok (.invokevirtual 144, 3) := by decide +kernel
theorem dX10_requestAt_10 : decode cX10_requestAt 10 = .ok (.ifCond .eq 7, 3) := by decide +kernel
theorem dX10_requestAt_13 : decode cX10_requestAt 13 = .ok (.iconst 0, 1) := by decide +kernel
theorem dX10_requestAt_14 : decode cX10_requestAt 14 = .ok (.goto 9, 3) := by decide +kernel
theorem dX10_requestAt_17 : decode cX10_requestAt 17 = .ok (.aload_n 0, 1) := by decide +kernel
theorem dX10_requestAt_18 : decode cX10_requestAt 18 = .ok (.getfield 45, 3) := by decide +kernel
theorem dX10_requestAt_21 : decode cX10_requestAt 21 = .ok (.iload_n 1, 1) := by decide +kernel
theorem dX10_requestAt_22 : decode cX10_requestAt 22 = .ok (.iaload, 1) := by decide +kernel
theorem dX10_requestAt_23 : decode cX10_requestAt 23 = .ok (.ireturn, 1) := by decide +kernel
theorem dX10_distance_0 : decode cX10_distance 0 = .ok (.iconst 0, 1) := by decide +kernel
theorem dX10_distance_1 : decode cX10_distance 1 = .ok (.istore_n 2, 1) := by decide +kernel
theorem dX10_distance_2 : decode cX10_distance 2 = .ok (.iload_n 2, 1) := by decide +kernel
theorem dX10_distance_3 : decode cX10_distance 3 = .ok (.bipush 100, 2) := by decide +kernel
theorem dX10_distance_5 : decode cX10_distance 5 = .ok (.if_icmp .ge 16, 3) := by decide +kernel
theorem dX10_distance_8 : decode cX10_distance 8 = .ok (.aload_n 0, 1) := by decide +kernel
theorem dX10_distance_9 : decode cX10_distance 9 = .ok (.getfield 48, 3) := by decide +kernel
theorem dX10_distance_12 : decode cX10_distance 12 = .ok (.iload_n 2, 1) := by decide +kernel
theorem dX10_distance_13 : decode cX10_distance 13 = .ok (.iconst 0, 1) := by decide +kernel
theorem dX10_distance_14 : decode cX10_distance 14 = .ok (.bastore, 1) := by decide +kernel
theorem dX10_distance_15 : decode cX10_distance 15 = .ok (.iinc 2 1, 3) := by decide +kernel
theorem dX10_distance_18 : decode cX10_distance 18 = .ok (.goto (-16), 3) := by decide +kernel
theorem dX10_distance_21 : decode cX10_distance 21 = .ok (.iconst 0, 1) := by decide +kernel
theorem dX10_distance_22 : decode cX10_distance 22 = .ok (.istore_n 2, 1) := by decide +kernel
theorem dX10_distance_23 : decode cX10_distance 23 = .ok (.iload_n 1, 1) := by decide +kernel
theorem dX10_distance_24 : decode cX10_distance 24 = .ok (.iconst 1, 1) := by decide +kernel
theorem dX10_distance_25 : decode cX10_distance 25 = .ok (.isub, 1) := by decide +kernel
theorem dX10_distance_26 : decode cX10_distance 26 = .ok (.istore_n 3, 1) := by decide +kernel
theorem dX10_distance_27 : decode cX10_distance 27 = .ok (.iload_n 3, 1) := by decide +kernel
theorem dX10_distance_28 : decode cX10_distance 28 = .ok (.ifCond .lt 60, 3) := by decide +kernel
theorem dX10_distance_31 : decode cX10_distance 31 = .ok (.aload_n 0, 1) := by decide +kernel
theorem dX10_distance_32 : decode cX10_distance 32 = .ok (.getfield 45, 3) := by decide +kernel
theorem dX10_distance_35 : decode cX10_distance 35 = .ok (.iload_n 3, 1) := by decide +kernel
theorem dX10_distance_36 : decode cX10_distance 36 = .ok (.iaload, 1) := by decide +kernel
theorem dX10_distance_37 : decode cX10_distance 37 = .ok (.aload_n 0, 1) := by decide +kernel
theorem dX10_distance_38 : decode cX10_distance 38 = .ok (.getfield 45, 3) := by decide +kernel
theorem dX10_distance_41 : decode cX10_distance 41 = .ok (.iload_n 1, 1) := by decide +kernel
theorem dX10_distance_42 : decode cX10_distance 42 = .ok (.iaload, 1) := by decide +kernel
theorem dX10_distance_43 : decode cX10_distance 43 = .ok (.if_icmp .ne 5, 3) := by decide +kernel
theorem dX10_distance_46 : decode cX10_distance 46 = .ok (.iload_n 2, 1) := by decide +kernel
theorem dX10_distance_47 : decode cX10_distance 47 = .ok (.ireturn, 1) := by decide +kernel
theorem dX10_distance_48 : decode cX10_distance 48 = .ok (.iload_n 2, 1) := by decide +kernel
theorem dX10_distance_49 : decode cX10_distance 49 = .ok (.aload_n 0, 1) := by decide +kernel
theorem dX10_distance_50 : decode cX10_distance 50 = .ok (.getfield 48, 3) := by decide +kernel
theorem dX10_distance_53 : decode cX10_distance 53 = .ok (.aload_n 0, 1) := by decide +kernel
theorem dX10_distance_54 : decode cX10_distance 54 = .ok (.getfield 45, 3) := by decide +kernel
theorem dX10_distance_57 : decode cX10_distance 57 = .ok (.iload_n 3, 1) := by decide +kernel
theorem dX10_distance_58 : decode cX10_distance 58 = .ok (.iaload, 1) := by decide +kernel
theorem dX10_distance_59 : decode cX10_distance 59 = .ok (.baload, 1) := by decide +kernel
theorem dX10_distance_60 : decode cX10_distance 60 = .ok (.ifCond .eq 7, 3) := by decide +kernel
theorem dX10_distance_63 : decode cX10_distance 63 = .ok (.iconst 0, 1) := by decide +kernel
theorem dX10_distance_64 : decode cX10_distance 64 = .ok (.goto 4, 3) := by decide +kernel
theorem dX10_distance_67 : decode cX10_distance 67 = .ok (.iconst 1, 1) := by decide +kernel
theorem dX10_distance_68 : decode cX10_distance 68 = .ok (.iadd, 1) := by decide +kernel
theorem dX10_distance_69 : decode cX10_distance 69 = .ok (.istore_n 2, 1) := by decide +kernel
theorem dX10_distance_70 : decode cX10_distance 70 = .ok (.aload_n 0, 1) := by decide +kernel
theorem dX10_distance_71 : decode cX10_distance 71 = .ok (.getfield 48, 3) := by decide +kernel
theorem dX10_distance_74 : decode cX10_distance 74 = .ok (.aload_n 0, 1) := by decide +kernel
theorem dX10_distance_75 : decode cX10_distance 75 = .ok (.getfield 45, 3) := by decide +kernel
theorem dX10_distance_78 : decode cX10_distance 78 = .ok (.iload_n 3, 1) := by decide +kernel
theorem dX10_distance_79 : decode cX10_distance 79 = .ok (.iaload, 1) := by decide +kernel
theorem dX10_distance_80 : decode cX10_distance 80 = .ok (.iconst 1, 1) := by decide +kernel
theorem dX10_distance_81 : decode cX10_distance 81 = .ok (.bastore, 1) := by decide +kernel
theorem dX10_distance_82 : decode cX10_distance 82 = .ok (.iinc 3 (-1), 3) := by decide +kernel
theorem dX10_distance_85 : decode cX10_distance 85 = .ok (.goto (-58), 3) := by decide +kernel
theorem dX10_distance_88 : decode cX10_distance 88 = .ok (.iconst (-1), 1) := by decide +kernel
theorem dX10_distance_89 : decode cX10_distance 89 = .ok (.ireturn, 1) := by decide +kernel
theorem dX10_distanceOf_0 : decode cX10_distanceOf 0 = .ok (.aload_n 0, 1) := by decide +kernel
theorem dX10_distanceOf_1 : decode cX10_distanceOf 1 = .ok (.iconst 0, 1) := by decide +kernel
theorem dX10_distanceOf_2 : decode cX10_distanceOf 2 = .ok (.putfield 1, 3) := by decide +kernel
theorem dX10_distanceOf_5 : decode cX10_distanceOf 5 = .ok (.aload_n 0, 1) := by decide +kernel
theorem dX10_distanceOf_6 : decode cX10_distanceOf 6 = .ok (.iload_n 1, 1) := by decide +kernel
theorem dX10_distanceOf_7 : decode cX10_distanceOf 7 = .ok (.invokevirtual 144, 3) := by decide +kernel
theorem dX10_distanceOf_10 : decode cX10_distanceOf 10 = .ok (.ifCond .eq 7, 3) := by decide +kernel
theorem dX10_distanceOf_13 : decode cX10_distanceOf 13 = .ok (.iconst 0, 1) := by decide +kernel
theorem dX10_distanceOf_14 : decode cX10_distanceOf 14 = .ok (.goto 8, 3) := by decide +kernel
theorem dX10_distanceOf_17 : decode cX10_distanceOf 17 = .ok (.aload_n 0, 1) := by decide +kernel
theorem dX10_distanceOf_18 : decode cX10_distanceOf 18 = .ok (.iload_n 1, 1) := by decide +kernel
theorem dX10_distanceOf_19 : decode cX10_distanceOf 19 = .ok (.invokevirtual 147, 3) := by decide +kernel
theorem dX10_distanceOf_22 : decode cX10_distanceOf 22 = .ok (.ireturn, 1) := by decide +kernel
theorem dX10_nearerThan_0 : decode cX10_nearerThan 0 = .ok (.iconst 0, 1) := by decide +kernel
theorem dX10_nearerThan_1 : decode cX10_nearerThan 1 = .ok (.istore_n 2, 1) := by decide +kernel
theorem dX10_nearerThan_2 : decode cX10_nearerThan 2 = .ok (.iconst 0, 1) := by decide +kernel
theorem dX10_nearerThan_3 : decode cX10_nearerThan 3 = .ok (.istore_n 3, 1) := by decide +kernel
theorem dX10_nearerThan_4 : decode cX10_nearerThan 4 = .ok (.iload_n 3, 1) := by decide +kernel
theorem dX10_nearerThan_5 : decode cX10_nearerThan 5 = .ok (.aload_n 0, 1) := by decide +kernel
theorem dX10_nearerThan_6 : decode cX10_nearerThan 6 = .ok (.getfield 127, 3) := by decide +kernel
theorem dX10_nearerThan_9 : decode cX10_nearerThan 9 = .ok (.if_icmp .ge 36, 3) := by decide +kernel
theorem dX10_nearerThan_12 : decode cX10_nearerThan 12 = .ok (.aload_n 0, 1) := by decide +kernel
theorem dX10_nearerThan_13 : decode cX10_nearerThan 13 = .ok (.iload_n 3, 1) := by decide +kernel
theorem dX10_nearerThan_14 : decode cX10_nearerThan 14 = .ok (.invokevirtual 147, 3) := by decide +kernel
theorem dX10_nearerThan_17 : decode cX10_nearerThan 17 = .ok (.istore 4, 2) := by decide +kernel
theorem dX10_nearerThan_19 : decode cX10_nearerThan 19 = .ok (.iload_n 2, 1) := by decide +kernel
theorem dX10_nearerThan_20 : decode cX10_nearerThan 20 = .ok (.iload 4, 2) := by decide +kernel
theorem dX10_nearerThan_22 : decode cX10_nearerThan 22 = .ok (.iconst (-1), 1) := by decide +kernel
theorem dX10_nearerThan_23 : decode cX10_nearerThan 23 = .ok (.if_icmp .eq 13, 3) := by decide +kernel
theorem dX10_nearerThan_26 : decode cX10_nearerThan 26 = .ok (.iload 4, 2) := by decide +kernel
theorem dX10_nearerThan_28 : decode cX10_nearerThan 28 = .ok (.iload_n 1, 1) := by decide +kernel
theorem dX10_nearerThan_29 : decode cX10_nearerThan 29 = .ok (.if_icmp .ge 7, 3) := by decide +kernel
theorem dX10_nearerThan_32 : decode cX10_nearerThan 32 = .ok (.iconst 1, 1) := by decide +kernel
theorem dX10_nearerThan_33 : decode cX10_nearerThan 33 = .ok (.goto 4, 3) := by decide +kernel
theorem dX10_nearerThan_36 : decode cX10_nearerThan 36 = .ok (.iconst 0, 1) := by decide +kernel
theorem dX10_nearerThan_37 : decode cX10_nearerThan 37 = .ok (.iadd, 1) := by decide +kernel
theorem dX10_nearerThan_38 : decode cX10_nearerThan 38 = .ok (.istore_n 2, 1) := by decide +kernel
theorem dX10_nearerThan_39 : decode cX10_nearerThan 39 = .ok (.iinc 3 1, 3) := by decide +kernel
theorem dX10_nearerThan_42 : decode cX10_nearerThan 42 = .ok (.goto (-38), 3) := by decide +kernel
theorem dX10_nearerThan_45 : decode cX10_nearerThan 45 = .ok (.iload_n 2, 1) := by decide +kernel
theorem dX10_nearerThan_46 : decode cX10_nearerThan 46 = .ok (.ireturn, 1) := by decide +kernel
theorem dX10_nearer_0 : decode cX10_nearer 0 = .ok (.aload_n 0, 1) := by decide +kernel
theorem dX10_nearer_1 : decode cX10_nearer 1 = .ok (.iconst 0, 1) := by decide +kernel
theorem dX10_nearer_2 : decode cX10_nearer 2 = .ok (.putfield 1, 3) := by decide +kernel
theorem dX10_nearer_5 : decode cX10_nearer 5 = .ok (.aload_n 0, 1) := by decide +kernel
theorem dX10_nearer_6 : decode cX10_nearer 6 = .ok (.iload_n 1, 1) := by decide +kernel
theorem dX10_nearer_7 : decode cX10_nearer 7 = .ok (.iconst 0, 1) := by decide +kernel
theorem dX10_nearer_8 : decode cX10_nearer 8 = .ok (.bipush 100, 2) := by decide +kernel
theorem dX10_nearer_10 : decode cX10_nearer 10 = .ok (.invokestatic 84, 3) := by decide +kernel
theorem dX10_nearer_13 : decode cX10_nearer 13 = .ok (.iconst 1, 1) := by decide +kernel
theorem dX10_nearer_14 : decode cX10_nearer 14 = .ok (.invokevirtual 88, 3) := by decide +kernel
theorem dX10_nearer_17 : decode cX10_nearer 17 = .ok (.ifCond .eq 7, 3) := by decide +kernel
theorem dX10_nearer_20 : decode cX10_nearer 20 = .ok (.iconst 0, 1) := by decide +kernel
theorem dX10_nearer_21 : decode cX10_nearer 21 = .ok (.goto 8, 3) := by decide +kernel
theorem dX10_nearer_24 : decode cX10_nearer 24 = .ok (.aload_n 0, 1) := by decide +kernel
theorem dX10_nearer_25 : decode cX10_nearer 25 = .ok (.iload_n 1, 1) := by decide +kernel
theorem dX10_nearer_26 : decode cX10_nearer 26 = .ok (.invokevirtual 150, 3) := by decide +kernel
theorem dX10_nearer_29 : decode cX10_nearer 29 = .ok (.ireturn, 1) := by decide +kernel
theorem dX10_leastCache_0 : decode cX10_leastCache 0 = .ok (.aload_n 0, 1) := by decide +kernel
theorem dX10_leastCache_1 : decode cX10_leastCache 1 = .ok (.iconst 0, 1) := by decide +kernel
theorem dX10_leastCache_2 : decode cX10_leastCache 2 = .ok (.putfield 1, 3) := by decide +kernel
theorem dX10_leastCache_5 : decode cX10_leastCache 5 = .ok (.aload_n 0, 1) := by decide +kernel
theorem dX10_leastCache_6 : decode cX10_leastCache 6 = .ok (.iload_n 1, 1) := by decide +kernel
theorem dX10_leastCache_7 : decode cX10_leastCache 7 = .ok (.ifCond .lt 7, 3) := by decide +kernel
theorem dX10_leastCache_10 : decode cX10_leastCache 10 = .ok (.iconst 1, 1) := by decide +kernel
theorem dX10_leastCache_11 : decode cX10_leastCache 11 = .ok (.goto 4, 3) := by decide +kernel
theorem dX10_leastCache_14 : decode cX10_leastCache 14 = .ok (.iconst 0, 1) := by decide +kernel
theorem dX10_leastCache_15 : decode cX10_leastCache 15 = .ok (.iconst 1, 1) := by decide +kernel
theorem dX10_leastCache_16 : decode cX10_leastCache 16 = .ok (.invokevirtual 88, 3) := by decide +kernel
theorem dX10_leastCache_19 : decode cX10_leastCache 19 = .ok (.ifCond .eq 5, 3) := by decide +kernel
theorem dX10_leastCache_22 : decode cX10_leastCache 22 = .ok (.iconst 0, 1) := by decide +kernel
theorem dX10_leastCache_23 : decode cX10_leastCache 23 = .ok (.ireturn, 1) := by decide +kernel
theorem dX10_leastCache_24 : decode cX10_leastCache 24 = .ok (.iconst 1, 1) := by decide +kernel
theorem dX10_leastCache_25 : decode cX10_leastCache 25 = .ok (.istore_n 2, 1) := by decide +kernel
theorem dX10_leastCache_26 : decode cX10_leastCache 26 = .ok (.iload_n 2, 1) := by decide +kernel
theorem dX10_leastCache_27 : decode cX10_leastCache 27 = .ok (.bipush 8, 2) := by decide +kernel
theorem dX10_leastCache_29 : decode cX10_leastCache 29 = .ok (.if_icmp .gt 21, 3) := by decide +kernel
theorem dX10_leastCache_32 : decode cX10_leastCache 32 = .ok (.aload_n 0, 1) := by decide +kernel
theorem dX10_leastCache_33 : decode cX10_leastCache 33 = .ok (.getfield 42, 3) := by decide +kernel
theorem dX10_leastCache_36 : decode cX10_leastCache 36 = .ok (.iload_n 2, 1) := by decide +kernel
theorem dX10_leastCache_37 : decode cX10_leastCache 37 = .ok (.iaload, 1) := by decide +kernel
theorem dX10_leastCache_38 : decode cX10_leastCache 38 = .ok (.iload_n 1, 1) := by decide +kernel
theorem dX10_leastCache_39 : decode cX10_leastCache 39 = .ok (.if_icmp .lt 5, 3) := by decide +kernel
theorem dX10_leastCache_42 : decode cX10_leastCache 42 = .ok (.iload_n 2, 1) := by decide +kernel
theorem dX10_leastCache_43 : decode cX10_leastCache 43 = .ok (.ireturn, 1) := by decide +kernel
theorem dX10_leastCache_44 : decode cX10_leastCache 44 = .ok (.iinc 2 1, 3) := by decide +kernel
theorem dX10_leastCache_47 : decode cX10_leastCache 47 = .ok (.goto (-21), 3) := by decide +kernel
theorem dX10_leastCache_50 : decode cX10_leastCache 50 = .ok (.iconst (-1), 1) := by decide +kernel
theorem dX10_leastCache_51 : decode cX10_leastCache 51 = .ok (.ireturn, 1) := by decide +kernel
theorem dX10_bytesIn_0 : decode cX10_bytesIn 0 = .ok (.iconst 0, 1) := by decide +kernel
theorem dX10_bytesIn_1 : decode cX10_bytesIn 1 = .ok (.istore_n 1, 1) := by decide +kernel
theorem dX10_bytesIn_2 : decode cX10_bytesIn 2 = .ok (.iconst 0, 1) := by decide +kernel
theorem dX10_bytesIn_3 : decode cX10_bytesIn 3 = .ok (.istore_n 2, 1) := by decide +kernel
theorem dX10_bytesIn_4 : decode cX10_bytesIn 4 = .ok (.iload_n 2, 1) := by decide +kernel
theorem dX10_bytesIn_5 : decode cX10_bytesIn 5 = .ok (.bipush 32, 2) := by decide +kernel
theorem dX10_bytesIn_7 : decode cX10_bytesIn 7 = .ok (.if_icmp .ge 27, 3) := by decide +kernel
theorem dX10_bytesIn_10 : decode cX10_bytesIn 10 = .ok (.iload_n 1, 1) := by decide +kernel
theorem dX10_bytesIn_11 : decode cX10_bytesIn 11 = .ok (.iload_n 0, 1) := by decide +kernel
theorem dX10_bytesIn_12 : decode cX10_bytesIn 12 = .ok (.iload_n 2, 1) := by decide +kernel
theorem dX10_bytesIn_13 : decode cX10_bytesIn 13 = .ok (.ishr, 1) := by decide +kernel
theorem dX10_bytesIn_14 : decode cX10_bytesIn 14 = .ok (.sipush 255, 3) := by decide +kernel
theorem dX10_bytesIn_17 : decode cX10_bytesIn 17 = .ok (.iand, 1) := by decide +kernel
theorem dX10_bytesIn_18 : decode cX10_bytesIn 18 = .ok (.ifCond .ne 7, 3) := by decide +kernel
theorem dX10_bytesIn_21 : decode cX10_bytesIn 21 = .ok (.iconst 0, 1) := by decide +kernel
theorem dX10_bytesIn_22 : decode cX10_bytesIn 22 = .ok (.goto 4, 3) := by decide +kernel
theorem dX10_bytesIn_25 : decode cX10_bytesIn 25 = .ok (.iconst 1, 1) := by decide +kernel
theorem dX10_bytesIn_26 : decode cX10_bytesIn 26 = .ok (.iadd, 1) := by decide +kernel
theorem dX10_bytesIn_27 : decode cX10_bytesIn 27 = .ok (.istore_n 1, 1) := by decide +kernel
theorem dX10_bytesIn_28 : decode cX10_bytesIn 28 = .ok (.iinc 2 8, 3) := by decide +kernel
theorem dX10_bytesIn_31 : decode cX10_bytesIn 31 = .ok (.goto (-27), 3) := by decide +kernel
theorem dX10_bytesIn_34 : decode cX10_bytesIn 34 = .ok (.iload_n 1, 1) := by decide +kernel
theorem dX10_bytesIn_35 : decode cX10_bytesIn 35 = .ok (.ireturn, 1) := by decide +kernel
theorem dX10_takesBytes_0 : decode cX10_takesBytes 0 = .ok (.bipush 24, 2) := by decide +kernel
theorem dX10_takesBytes_2 : decode cX10_takesBytes 2 = .ok (.istore_n 2, 1) := by decide +kernel
theorem dX10_takesBytes_3 : decode cX10_takesBytes 3 = .ok (.iload_n 2, 1) := by decide +kernel
theorem dX10_takesBytes_4 : decode cX10_takesBytes 4 = .ok (.ifCond .lt 44, 3) := by decide +kernel
theorem dX10_takesBytes_7 : decode cX10_takesBytes 7 = .ok (.iload_n 1, 1) := by decide +kernel
theorem dX10_takesBytes_8 : decode cX10_takesBytes 8 = .ok (.iload_n 2, 1) := by decide +kernel
theorem dX10_takesBytes_9 : decode cX10_takesBytes 9 = .ok (.ishr, 1) := by decide +kernel
theorem dX10_takesBytes_10 : decode cX10_takesBytes 10 = .ok (.sipush 255, 3) := by decide +kernel
theorem dX10_takesBytes_13 : decode cX10_takesBytes 13 = .ok (.iand, 1) := by decide +kernel
theorem dX10_takesBytes_14 : decode cX10_takesBytes 14 = .ok (.istore_n 3, 1) := by decide +kernel
theorem dX10_takesBytes_15 : decode cX10_takesBytes 15 = .ok (.iload_n 3, 1) := by decide +kernel
theorem dX10_takesBytes_16 : decode cX10_takesBytes 16 = .ok (.ifCond .ne 6, 3) := by decide +kernel
theorem dX10_takesBytes_19 : decode cX10_takesBytes 19 = .ok (.goto 23, 3) := by decide +kernel
theorem dX10_takesBytes_22 : decode cX10_takesBytes 22 = .ok (.aload_n 0, 1) := by decide +kernel
theorem dX10_takesBytes_23 : decode cX10_takesBytes 23 = .ok (.getfield 51, 3) := by decide +kernel
theorem dX10_takesBytes_26 : decode cX10_takesBytes 26 = .ok (.aload_n 0, 1) := by decide +kernel
theorem dX10_takesBytes_27 : decode cX10_takesBytes 27 = .ok (.getfield 153, 3) := by decide +kernel
theorem dX10_takesBytes_30 : decode cX10_takesBytes 30 = .ok (.iload_n 3, 1) := by decide +kernel
theorem dX10_takesBytes_31 : decode cX10_takesBytes 31 = .ok (.iastore, 1) := by decide +kernel
theorem dX10_takesBytes_32 : decode cX10_takesBytes 32 = .ok (.aload_n 0, 1) := by decide +kernel
theorem dX10_takesBytes_33 : decode cX10_takesBytes 33 = .ok (.dup, 1) := by decide +kernel
theorem dX10_takesBytes_34 : decode cX10_takesBytes 34 = .ok (.getfield 153, 3) := by decide +kernel
theorem dX10_takesBytes_37 : decode cX10_takesBytes 37 = .ok (.iconst 1, 1) := by decide +kernel
theorem dX10_takesBytes_38 : decode cX10_takesBytes 38 = .ok (.iadd, 1) := by decide +kernel
theorem dX10_takesBytes_39 : decode cX10_takesBytes 39 = .ok (.putfield 153, 3) := by decide +kernel
theorem dX10_takesBytes_42 : decode cX10_takesBytes 42 = .ok (.iinc 2 (-8), 3) := by decide +kernel
theorem dX10_takesBytes_45 : decode cX10_takesBytes 45 = .ok (.goto (-42), 3) := by decide +kernel
theorem dX10_takesBytes_48 : decode cX10_takesBytes 48 = .ok (.return_, 1) := by decide +kernel
theorem dX10_append_0 : decode cX10_append 0 = .ok (.aload_n 0, 1) := by decide +kernel
theorem dX10_append_1 : decode cX10_append 1 = .ok (.iconst 0, 1) := by decide +kernel
theorem dX10_append_2 : decode cX10_append 2 = .ok (.putfield 1, 3) := by decide +kernel
theorem dX10_append_5 : decode cX10_append 5 = .ok (.iload_n 1, 1) := by decide +kernel
theorem dX10_append_6 : decode cX10_append 6 = .ok (.invokestatic 156, 3) := by decide +kernel
theorem dX10_append_9 : decode cX10_append 9 = .ok (.iload_n 2, 1) := by decide +kernel
theorem dX10_append_10 : decode cX10_append 10 = .ok (.invokestatic 156, 3) := by decide +kernel
theorem dX10_append_13 : decode cX10_append 13 = .ok (.iadd, 1) := by decide +kernel
theorem dX10_append_14 : decode cX10_append 14 = .ok (.iload_n 3, 1) := by decide +kernel
theorem dX10_append_15 : decode cX10_append 15 = .ok (.invokestatic 156, 3) := by decide +kernel
theorem dX10_append_18 : decode cX10_append 18 = .ok (.iadd, 1) := by decide +kernel
theorem dX10_append_19 : decode cX10_append 19 = .ok (.iload 4, 2) := by decide +kernel
theorem dX10_append_21 : decode cX10_append 21 = .ok (.invokestatic 156, 3) := by decide +kernel
theorem dX10_append_24 : decode cX10_append 24 = .ok (.iadd, 1) := by decide +kernel
theorem dX10_append_25 : decode cX10_append 25 = .ok (.iload 5, 2) := by decide +kernel
theorem dX10_append_27 : decode cX10_append 27 = .ok (.invokestatic 156, 3) := by decide +kernel
theorem dX10_append_30 : decode cX10_append 30 = .ok (.iadd, 1) := by decide +kernel
theorem dX10_append_31 : decode cX10_append 31 = .ok (.istore 6, 2) := by decide +kernel
theorem dX10_append_33 : decode cX10_append 33 = .ok (.aload_n 0, 1) := by decide +kernel
theorem dX10_append_34 : decode cX10_append 34 = .ok (.aload_n 0, 1) := by decide +kernel
theorem dX10_append_35 : decode cX10_append 35 = .ok (.getfield 153, 3) := by decide +kernel
theorem dX10_append_38 : decode cX10_append 38 = .ok (.iload 6, 2) := by decide +kernel
theorem dX10_append_40 : decode cX10_append 40 = .ok (.iadd, 1) := by decide +kernel
theorem dX10_append_41 : decode cX10_append 41 = .ok (.sipush 300, 3) := by decide +kernel
theorem dX10_append_44 : decode cX10_append 44 = .ok (.if_icmp .gt 7, 3) := by decide +kernel
theorem dX10_append_47 : decode cX10_append 47 = .ok (.iconst 1, 1) := by decide +kernel
theorem dX10_append_48 : decode cX10_append 48 = .ok (.goto 4, 3) := by decide +kernel
theorem dX10_append_51 : decode cX10_append 51 = .ok (.iconst 0, 1) := by decide +kernel
theorem dX10_append_52 : decode cX10_append 52 = .ok (.iconst 1, 1) := by decide +kernel
theorem dX10_append_53 : decode cX10_append 53 = .ok (.invokevirtual 88, 3) := by decide +kernel
theorem dX10_append_56 : decode cX10_append 56 = .ok (.ifCond .eq 5, 3) := by decide +kernel
theorem dX10_append_59 : decode cX10_append 59 = .ok (.iconst 0, 1) := by decide +kernel
theorem dX10_append_60 : decode cX10_append 60 = .ok (.ireturn, 1) := by decide +kernel
theorem dX10_append_61 : decode cX10_append 61 = .ok (.aload_n 0, 1) := by decide +kernel
theorem dX10_append_62 : decode cX10_append 62 = .ok (.iload_n 1, 1) := by decide +kernel
theorem dX10_append_63 : decode cX10_append 63 = .ok (.invokevirtual 159, 3) := by decide +kernel
theorem dX10_append_66 : decode cX10_append 66 = .ok (.aload_n 0, 1) := by decide +kernel
theorem dX10_append_67 : decode cX10_append 67 = .ok (.iload_n 2, 1) := by decide +kernel
theorem dX10_append_68 : decode cX10_append 68 = .ok (.invokevirtual 159, 3) := by decide +kernel
theorem dX10_append_71 : decode cX10_append 71 = .ok (.aload_n 0, 1) := by decide +kernel
theorem dX10_append_72 : decode cX10_append 72 = .ok (.iload_n 3, 1) := by decide +kernel
theorem dX10_append_73 : decode cX10_append 73 = .ok (.invokevirtual 159, 3) := by decide +kernel
theorem dX10_append_76 : decode cX10_append 76 = .ok (.aload_n 0, 1) := by decide +kernel
theorem dX10_append_77 : decode cX10_append 77 = .ok (.iload 4, 2) := by decide +kernel
theorem dX10_append_79 : decode cX10_append 79 = .ok (.invokevirtual 159, 3) := by decide +kernel
theorem dX10_append_82 : decode cX10_append 82 = .ok (.aload_n 0, 1) := by decide +kernel
theorem dX10_append_83 : decode cX10_append 83 = .ok (.iload 5, 2) := by decide +kernel
theorem dX10_append_85 : decode cX10_append 85 = .ok (.invokevirtual 159, 3) := by decide +kernel
theorem dX10_append_88 : decode cX10_append 88 = .ok (.aload_n 0, 1) := by decide +kernel
theorem dX10_append_89 : decode cX10_append 89 = .ok (.getfield 153, 3) := by decide +kernel
theorem dX10_append_92 : decode cX10_append 92 = .ok (.ireturn, 1) := by decide +kernel
theorem dX10_clearTape_0 : decode cX10_clearTape 0 = .ok (.aload_n 0, 1) := by decide +kernel
theorem dX10_clearTape_1 : decode cX10_clearTape 1 = .ok (.iconst 0, 1) := by decide +kernel
theorem dX10_clearTape_2 : decode cX10_clearTape 2 = .ok (.putfield 1, 3) := by decide +kernel
theorem dX10_clearTape_5 : decode cX10_clearTape 5 = .ok (.aload_n 0, 1) := by decide +kernel
theorem dX10_clearTape_6 : decode cX10_clearTape 6 = .ok (.getfield 153, 3) := by decide +kernel
theorem dX10_clearTape_9 : decode cX10_clearTape 9 = .ok (.istore_n 1, 1) := by decide +kernel
theorem dX10_clearTape_10 : decode cX10_clearTape 10 = .ok (.aload_n 0, 1) := by decide +kernel
theorem dX10_clearTape_11 : decode cX10_clearTape 11 = .ok (.iconst 0, 1) := by decide +kernel
theorem dX10_clearTape_12 : decode cX10_clearTape 12 = .ok (.putfield 153, 3) := by decide +kernel
theorem dX10_clearTape_15 : decode cX10_clearTape 15 = .ok (.iload_n 1, 1) := by decide +kernel
theorem dX10_clearTape_16 : decode cX10_clearTape 16 = .ok (.ireturn, 1) := by decide +kernel
theorem dX10_isSign_0 : decode cX10_isSign 0 = .ok (.iload_n 0, 1) := by decide +kernel
theorem dX10_isSign_1 : decode cX10_isSign 1 = .ok (.bipush 108, 2) := by decide +kernel
theorem dX10_isSign_3 : decode cX10_isSign 3 = .ok (.if_icmp .eq 45, 3) := by decide +kernel
theorem dX10_isSign_6 : decode cX10_isSign 6 = .ok (.iload_n 0, 1) := by decide +kernel
theorem dX10_isSign_7 : decode cX10_isSign 7 = .ok (.bipush 115, 2) := by decide +kernel
theorem dX10_isSign_9 : decode cX10_isSign 9 = .ok (.if_icmp .eq 39, 3) := by decide +kernel
theorem dX10_isSign_12 : decode cX10_isSign 12 = .ok (.iload_n 0, 1) := by decide +kernel
theorem dX10_isSign_13 : decode cX10_isSign 13 = .ok (.bipush 97, 2) := by decide +kernel
theorem dX10_isSign_15 : decode cX10_isSign 15 = .ok (.if_icmp .eq 33, 3) := by decide +kernel
theorem dX10_isSign_18 : decode cX10_isSign 18 = .ok (.iload_n 0, 1) := by decide +kernel
theorem dX10_isSign_19 : decode cX10_isSign 19 = .ok (.bipush 99, 2) := by decide +kernel
theorem dX10_isSign_21 : decode cX10_isSign 21 = .ok (.if_icmp .eq 27, 3) := by decide +kernel
theorem dX10_isSign_24 : decode cX10_isSign 24 = .ok (.iload_n 0, 1) := by decide +kernel
theorem dX10_isSign_25 : decode cX10_isSign 25 = .ok (.bipush 120, 2) := by decide +kernel
theorem dX10_isSign_27 : decode cX10_isSign 27 = .ok (.if_icmp .eq 21, 3) := by decide +kernel
theorem dX10_isSign_30 : decode cX10_isSign 30 = .ok (.iload_n 0, 1) := by decide +kernel
theorem dX10_isSign_31 : decode cX10_isSign 31 = .ok (.bipush 59, 2) := by decide +kernel
theorem dX10_isSign_33 : decode cX10_isSign 33 = .ok (.if_icmp .eq 15, 3) := by decide +kernel
theorem dX10_isSign_36 : decode cX10_isSign 36 = .ok (.iload_n 0, 1) := by decide +kernel
theorem dX10_isSign_37 : decode cX10_isSign 37 = .ok (.bipush 123, 2) := by decide +kernel
theorem dX10_isSign_39 : decode cX10_isSign 39 = .ok (.if_icmp .eq 9, 3) := by decide +kernel
theorem dX10_isSign_42 : decode cX10_isSign 42 = .ok (.iload_n 0, 1) := by decide +kernel
theorem dX10_isSign_43 : decode cX10_isSign 43 = .ok (.bipush 125, 2) := by decide +kernel
theorem dX10_isSign_45 : decode cX10_isSign 45 = .ok (.if_icmp .ne 7, 3) := by decide +kernel
theorem dX10_isSign_48 : decode cX10_isSign 48 = .ok (.iconst 1, 1) := by decide +kernel
theorem dX10_isSign_49 : decode cX10_isSign 49 = .ok (.goto 4, 3) := by decide +kernel
theorem dX10_isSign_52 : decode cX10_isSign 52 = .ok (.iconst 0, 1) := by decide +kernel
theorem dX10_isSign_53 : decode cX10_isSign 53 = .ok (.ireturn, 1) := by decide +kernel
theorem dX10_reads_0 : decode cX10_reads 0 = .ok (.aload_n 0, 1) := by decide +kernel
theorem dX10_reads_1 : decode cX10_reads 1 = .ok (.getfield 162, 3) := by decide +kernel
theorem dX10_reads_4 : decode cX10_reads 4 = .ok (.aload_n 0, 1) := by decide +kernel
theorem dX10_reads_5 : decode cX10_reads 5 = .ok (.getfield 153, 3) := by decide +kernel
theorem dX10_reads_8 : decode cX10_reads 8 = .ok (.if_icmp .ge 44, 3) := by decide +kernel
theorem dX10_reads_11 : decode cX10_reads 11 = .ok (.aload_n 0, 1) := by decide +kernel
theorem dX10_reads_12 : decode cX10_reads 12 = .ok (.getfield 51, 3) := by decide +kernel
theorem dX10_reads_15 : decode cX10_reads 15 = .ok (.aload_n 0, 1) := by decide +kernel
theorem dX10_reads_16 : decode cX10_reads 16 = .ok (.getfield 162, 3) := by decide +kernel
theorem dX10_reads_19 : decode cX10_reads 19 = .ok (.iaload, 1) := by decide +kernel
theorem dX10_reads_20 : decode cX10_reads 20 = .ok (.bipush 32, 2) := by decide +kernel
theorem dX10_reads_22 : decode cX10_reads 22 = .ok (.if_icmp .eq 17, 3) := by decide +kernel
theorem dX10_reads_25 : decode cX10_reads 25 = .ok (.aload_n 0, 1) := by decide +kernel
theorem dX10_reads_26 : decode cX10_reads 26 = .ok (.getfield 51, 3) := by decide +kernel
theorem dX10_reads_29 : decode cX10_reads 29 = .ok (.aload_n 0, 1) := by decide +kernel
theorem dX10_reads_30 : decode cX10_reads 30 = .ok (.getfield 162, 3) := by decide +kernel
theorem dX10_reads_33 : decode cX10_reads 33 = .ok (.iaload, 1) := by decide +kernel
theorem dX10_reads_34 : decode cX10_reads 34 = .ok (.bipush 10, 2) := by decide +kernel
theorem dX10_reads_36 : decode cX10_reads 36 = .ok (.if_icmp .ne 16, 3) := by decide +kernel
theorem dX10_reads_39 : decode cX10_reads 39 = .ok (.aload_n 0, 1) := by decide +kernel
theorem dX10_reads_40 : decode cX10_reads 40 = .ok (.dup, 1) := by decide +kernel
theorem dX10_reads_41 : decode cX10_reads 41 = .ok (.getfield 162, 3) := by decide +kernel
theorem dX10_reads_44 : decode cX10_reads 44 = .ok (.iconst 1, 1) := by decide +kernel
theorem dX10_reads_45 : decode cX10_reads 45 = .ok (.iadd, 1) := by decide +kernel
theorem dX10_reads_46 : decode cX10_reads 46 = .ok (.putfield 162, 3) := by decide +kernel
theorem dX10_reads_49 : decode cX10_reads 49 = .ok (.goto (-49), 3) := by decide +kernel
theorem dX10_reads_52 : decode cX10_reads 52 = .ok (.aload_n 0, 1) := by decide +kernel
theorem dX10_reads_53 : decode cX10_reads 53 = .ok (.aload_n 0, 1) := by decide +kernel
theorem dX10_reads_54 : decode cX10_reads 54 = .ok (.getfield 162, 3) := by decide +kernel
theorem dX10_reads_57 : decode cX10_reads 57 = .ok (.putfield 165, 3) := by decide +kernel
theorem dX10_reads_60 : decode cX10_reads 60 = .ok (.aload_n 0, 1) := by decide +kernel
theorem dX10_reads_61 : decode cX10_reads 61 = .ok (.iconst 0, 1) := by decide +kernel
theorem dX10_reads_62 : decode cX10_reads 62 = .ok (.putfield 168, 3) := by decide +kernel
theorem dX10_reads_65 : decode cX10_reads 65 = .ok (.aload_n 0, 1) := by decide +kernel
theorem dX10_reads_66 : decode cX10_reads 66 = .ok (.getfield 162, 3) := by decide +kernel
theorem dX10_reads_69 : decode cX10_reads 69 = .ok (.aload_n 0, 1) := by decide +kernel
theorem dX10_reads_70 : decode cX10_reads 70 = .ok (.getfield 153, 3) := by decide +kernel
theorem dX10_reads_73 : decode cX10_reads 73 = .ok (.if_icmp .ne 4, 3) := by decide +kernel
theorem dX10_reads_76 : decode cX10_reads 76 = .ok (.return_, 1) := by decide +kernel
theorem dX10_reads_77 : decode cX10_reads 77 = .ok (.aload_n 0, 1) := by decide +kernel
theorem dX10_reads_78 : decode cX10_reads 78 = .ok (.aload_n 0, 1) := by decide +kernel
theorem dX10_reads_79 : decode cX10_reads 79 = .ok (.getfield 51, 3) := by decide +kernel
theorem dX10_reads_82 : decode cX10_reads 82 = .ok (.aload_n 0, 1) := by decide +kernel
theorem dX10_reads_83 : decode cX10_reads 83 = .ok (.getfield 162, 3) := by decide +kernel
theorem dX10_reads_86 : decode cX10_reads 86 = .ok (.iaload, 1) := by decide +kernel
theorem dX10_reads_87 : decode cX10_reads 87 = .ok (.putfield 171, 3) := by decide +kernel
theorem dX10_reads_90 : decode cX10_reads 90 = .ok (.aload_n 0, 1) := by decide +kernel
theorem dX10_reads_91 : decode cX10_reads 91 = .ok (.aload_n 0, 1) := by decide +kernel
theorem dX10_reads_92 : decode cX10_reads 92 = .ok (.getfield 171, 3) := by decide +kernel
theorem dX10_reads_95 : decode cX10_reads 95 = .ok (.invokestatic 174, 3) := by decide +kernel
theorem dX10_reads_98 : decode cX10_reads 98 = .ok (.ifCond .eq 7, 3) := by decide +kernel
theorem dX10_reads_101 : decode cX10_reads 101 = .ok (.iconst 1, 1) := by decide +kernel
theorem dX10_reads_102 : decode cX10_reads 102 = .ok (.goto 4, 3) := by decide +kernel
theorem dX10_reads_105 : decode cX10_reads 105 = .ok (.iconst 3, 1) := by decide +kernel
theorem dX10_reads_106 : decode cX10_reads 106 = .ok (.putfield 168, 3) := by decide +kernel
theorem dX10_reads_109 : decode cX10_reads 109 = .ok (.aload_n 0, 1) := by decide +kernel
theorem dX10_reads_110 : decode cX10_reads 110 = .ok (.getfield 171, 3) := by decide +kernel
theorem dX10_reads_113 : decode cX10_reads 113 = .ok (.bipush 48, 2) := by decide +kernel
theorem dX10_reads_115 : decode cX10_reads 115 = .ok (.bipush 57, 2) := by decide +kernel
theorem dX10_reads_117 : decode cX10_reads 117 = .ok (.invokestatic 84, 3) := by decide +kernel
theorem dX10_reads_120 : decode cX10_reads 120 = .ok (.ifCond .ne 14, 3) := by decide +kernel
theorem dX10_reads_123 : decode cX10_reads 123 = .ok (.aload_n 0, 1) := by decide +kernel
theorem dX10_reads_124 : decode cX10_reads 124 = .ok (.dup, 1) := by decide +kernel
theorem dX10_reads_125 : decode cX10_reads 125 = .ok (.getfield 162, 3) := by decide +kernel
theorem dX10_reads_128 : decode cX10_reads 128 = .ok (.iconst 1, 1) := by decide +kernel
theorem dX10_reads_129 : decode cX10_reads 129 = .ok (.iadd, 1) := by decide +kernel
theorem dX10_reads_130 : decode cX10_reads 130 = .ok (.putfield 162, 3) := by decide +kernel
theorem dX10_reads_133 : decode cX10_reads 133 = .ok (.return_, 1) := by decide +kernel
theorem dX10_reads_134 : decode cX10_reads 134 = .ok (.iconst 0, 1) := by decide +kernel
theorem dX10_reads_135 : decode cX10_reads 135 = .ok (.istore_n 1, 1) := by decide +kernel
theorem dX10_reads_136 : decode cX10_reads 136 = .ok (.aload_n 0, 1) := by decide +kernel
theorem dX10_reads_137 : decode cX10_reads 137 = .ok (.iconst 0, 1) := by decide +kernel
theorem dX10_reads_138 : decode cX10_reads 138 = .ok (.putfield 171, 3) := by decide +kernel
theorem dX10_reads_141 : decode cX10_reads 141 = .ok (.aload_n 0, 1) := by decide +kernel
theorem dX10_reads_142 : decode cX10_reads 142 = .ok (.getfield 162, 3) := by decide +kernel
theorem dX10_reads_145 : decode cX10_reads 145 = .ok (.aload_n 0, 1) := by decide +kernel
theorem dX10_reads_146 : decode cX10_reads 146 = .ok (.getfield 153, 3) := by decide +kernel
theorem dX10_reads_149 : decode cX10_reads 149 = .ok (.if_icmp .ge 67, 3) := by decide +kernel
theorem dX10_reads_152 : decode cX10_reads 152 = .ok (.aload_n 0, 1) := by decide +kernel
theorem dX10_reads_153 : decode cX10_reads 153 = .ok (.getfield 51, 3) := by decide +kernel
theorem dX10_reads_156 : decode cX10_reads 156 = .ok (.aload_n 0, 1) := by decide +kernel
theorem dX10_reads_157 : decode cX10_reads 157 = .ok (.getfield 162, 3) := by decide +kernel
theorem dX10_reads_160 : decode cX10_reads 160 = .ok (.iaload, 1) := by decide +kernel
theorem dX10_reads_161 : decode cX10_reads 161 = .ok (.bipush 48, 2) := by decide +kernel
theorem dX10_reads_163 : decode cX10_reads 163 = .ok (.bipush 57, 2) := by decide +kernel
theorem dX10_reads_165 : decode cX10_reads 165 = .ok (.invokestatic 84, 3) := by decide +kernel
theorem dX10_reads_168 : decode cX10_reads 168 = .ok (.ifCond .eq 48, 3) := by decide +kernel
theorem dX10_reads_171 : decode cX10_reads 171 = .ok (.iload_n 1, 1) := by decide +kernel
theorem dX10_reads_172 : decode cX10_reads 172 = .ok (.iconst 3, 1) := by decide +kernel
theorem dX10_reads_173 : decode cX10_reads 173 = .ok (.if_icmp .ge 27, 3) := by decide +kernel
theorem dX10_reads_176 : decode cX10_reads 176 = .ok (.aload_n 0, 1) := by decide +kernel
theorem dX10_reads_177 : decode cX10_reads 177 = .ok (.bipush 10, 2) := by decide +kernel
theorem dX10_reads_179 : decode cX10_reads 179 = .ok (.aload_n 0, 1) := by decide +kernel
theorem dX10_reads_180 : decode cX10_reads 180 = .ok (.getfield 171, 3) := by decide +kernel
theorem dX10_reads_183 : decode cX10_reads 183 = .ok (.imul, 1) := by decide +kernel
theorem dX10_reads_184 : decode cX10_reads 184 = .ok (.aload_n 0, 1) := by decide +kernel
theorem dX10_reads_185 : decode cX10_reads 185 = .ok (.getfield 51, 3) := by decide +kernel
theorem dX10_reads_188 : decode cX10_reads 188 = .ok (.aload_n 0, 1) := by decide +kernel
theorem dX10_reads_189 : decode cX10_reads 189 = .ok (.getfield 162, 3) := by decide +kernel
theorem dX10_reads_192 : decode cX10_reads 192 = .ok (.iaload, 1) := by decide +kernel
theorem dX10_reads_193 : decode cX10_reads 193 = .ok (.iadd, 1) := by decide +kernel
theorem dX10_reads_194 : decode cX10_reads 194 = .ok (.bipush 48, 2) := by decide +kernel
theorem dX10_reads_196 : decode cX10_reads 196 = .ok (.isub, 1) := by decide +kernel
theorem dX10_reads_197 : decode cX10_reads 197 = .ok (.putfield 171, 3) := by decide +kernel
theorem dX10_reads_200 : decode cX10_reads 200 = .ok (.iinc 1 1, 3) := by decide +kernel
theorem dX10_reads_203 : decode cX10_reads 203 = .ok (.aload_n 0, 1) := by decide +kernel
theorem dX10_reads_204 : decode cX10_reads 204 = .ok (.dup, 1) := by decide +kernel
theorem dX10_reads_205 : decode cX10_reads 205 = .ok (.getfield 162, 3) := by decide +kernel
theorem dX10_reads_208 : decode cX10_reads 208 = .ok (.iconst 1, 1) := by decide +kernel
theorem dX10_reads_209 : decode cX10_reads 209 = .ok (.iadd, 1) := by decide +kernel
theorem dX10_reads_210 : decode cX10_reads 210 = .ok (.putfield 162, 3) := by decide +kernel
theorem dX10_reads_213 : decode cX10_reads 213 = .ok (.goto (-72), 3) := by decide +kernel
theorem dX10_reads_216 : decode cX10_reads 216 = .ok (.aload_n 0, 1) := by decide +kernel
theorem dX10_reads_217 : decode cX10_reads 217 = .ok (.iload_n 1, 1) := by decide +kernel
theorem dX10_reads_218 : decode cX10_reads 218 = .ok (.iconst 3, 1) := by decide +kernel
theorem dX10_reads_219 : decode cX10_reads 219 = .ok (.if_icmp .gt 7, 3) := by decide +kernel
theorem dX10_reads_222 : decode cX10_reads 222 = .ok (.iconst 2, 1) := by decide +kernel
theorem dX10_reads_223 : decode cX10_reads 223 = .ok (.goto 4, 3) := by decide +kernel
theorem dX10_reads_226 : decode cX10_reads 226 = .ok (.iconst 3, 1) := by decide +kernel
theorem dX10_reads_227 : decode cX10_reads 227 = .ok (.putfield 168, 3) := by decide +kernel
theorem dX10_reads_230 : decode cX10_reads 230 = .ok (.return_, 1) := by decide +kernel
theorem dX10_isSignNow_0 : decode cX10_isSignNow 0 = .ok (.aload_n 0, 1) := by decide +kernel
theorem dX10_isSignNow_1 : decode cX10_isSignNow 1 = .ok (.getfield 168, 3) := by decide +kernel
theorem dX10_isSignNow_4 : decode cX10_isSignNow 4 = .ok (.iconst 1, 1) := by decide +kernel
theorem dX10_isSignNow_5 : decode cX10_isSignNow 5 = .ok (.if_icmp .ne 15, 3) := by decide +kernel
theorem dX10_isSignNow_8 : decode cX10_isSignNow 8 = .ok (.aload_n 0, 1) := by decide +kernel
theorem dX10_isSignNow_9 : decode cX10_isSignNow 9 = .ok (.getfield 171, 3) := by decide +kernel
theorem dX10_isSignNow_12 : decode cX10_isSignNow 12 = .ok (.iload_n 1, 1) := by decide +kernel
theorem dX10_isSignNow_13 : decode cX10_isSignNow 13 = .ok (.if_icmp .ne 7, 3) := by decide +kernel
theorem dX10_isSignNow_16 : decode cX10_isSignNow 16 = .ok (.iconst 1, 1) := by decide +kernel
theorem dX10_isSignNow_17 : decode cX10_isSignNow 17 = .ok (.goto 4, 3) := by decide +kernel
theorem dX10_isSignNow_20 : decode cX10_isSignNow 20 = .ok (.iconst 0, 1) := by decide +kernel
theorem dX10_isSignNow_21 : decode cX10_isSignNow 21 = .ok (.ireturn, 1) := by decide +kernel
theorem dX10_takesNumber_0 : decode cX10_takesNumber 0 = .ok (.aload_n 0, 1) := by decide +kernel
theorem dX10_takesNumber_1 : decode cX10_takesNumber 1 = .ok (.getfield 168, 3) := by decide +kernel
theorem dX10_takesNumber_4 : decode cX10_takesNumber 4 = .ok (.iconst 2, 1) := by decide +kernel
theorem dX10_takesNumber_5 : decode cX10_takesNumber 5 = .ok (.if_icmp .ne 15, 3) := by decide +kernel
theorem dX10_takesNumber_8 : decode cX10_takesNumber 8 = .ok (.aload_n 0, 1) := by decide +kernel
theorem dX10_takesNumber_9 : decode cX10_takesNumber 9 = .ok (.getfield 171, 3) := by decide +kernel
theorem dX10_takesNumber_12 : decode cX10_takesNumber 12 = .ok (.iload_n 1, 1) := by decide +kernel
theorem dX10_takesNumber_13 : decode cX10_takesNumber 13 = .ok (.iload_n 2, 1) := by decide +kernel
theorem dX10_takesNumber_14 : decode cX10_takesNumber 14 = .ok (.invokestatic 84, 3) := by decide +kernel
theorem dX10_takesNumber_17 : decode cX10_takesNumber 17 = .ok (.ifCond .ne 5, 3) := by decide +kernel
theorem dX10_takesNumber_20 : decode cX10_takesNumber 20 = .ok (.iconst 0, 1) := by decide +kernel
theorem dX10_takesNumber_21 : decode cX10_takesNumber 21 = .ok (.ireturn, 1) := by decide +kernel
theorem dX10_takesNumber_22 : decode cX10_takesNumber 22 = .ok (.aload_n 0, 1) := by decide +kernel
theorem dX10_takesNumber_23 : decode cX10_takesNumber 23 = .ok (.getfield 57, 3) := by decide +kernel
theorem dX10_takesNumber_26 : decode cX10_takesNumber 26 = .ok (.aload_n 0, 1) := by decide +kernel
theorem dX10_takesNumber_27 : decode cX10_takesNumber 27 = .ok (.getfield 177, 3) := by decide +kernel
theorem dX10_takesNumber_30 : decode cX10_takesNumber 30 = .ok (.aload_n 0, 1) := by decide +kernel
theorem dX10_takesNumber_31 : decode cX10_takesNumber 31 = .ok (.getfield 171, 3) := by decide +kernel
theorem dX10_takesNumber_34 : decode cX10_takesNumber 34 = .ok (.iastore, 1) := by decide +kernel
theorem dX10_takesNumber_35 : decode cX10_takesNumber 35 = .ok (.aload_n 0, 1) := by decide +kernel
theorem dX10_takesNumber_36 : decode cX10_takesNumber 36 = .ok (.invokevirtual 180, 3) := by decide +kernel
theorem dX10_takesNumber_39 : decode cX10_takesNumber 39 = .ok (.iconst 1, 1) := by decide +kernel
theorem dX10_takesNumber_40 : decode cX10_takesNumber 40 = .ok (.ireturn, 1) := by decide +kernel
theorem dX10_readsItem_0 : decode cX10_readsItem 0 = .ok (.aload_n 0, 1) := by decide +kernel
theorem dX10_readsItem_1 : decode cX10_readsItem 1 = .ok (.getfield 171, 3) := by decide +kernel
theorem dX10_readsItem_4 : decode cX10_readsItem 4 = .ok (.istore_n 2, 1) := by decide +kernel
theorem dX10_readsItem_5 : decode cX10_readsItem 5 = .ok (.aload_n 0, 1) := by decide +kernel
theorem dX10_readsItem_6 : decode cX10_readsItem 6 = .ok (.getfield 168, 3) := by decide +kernel
theorem dX10_readsItem_9 : decode cX10_readsItem 9 = .ok (.iconst 1, 1) := by decide +kernel
theorem dX10_readsItem_10 : decode cX10_readsItem 10 = .ok (.if_icmp .ne 25, 3) := by decide +kernel
theorem dX10_readsItem_13 : decode cX10_readsItem 13 = .ok (.iload_n 2, 1) := by decide +kernel
theorem dX10_readsItem_14 : decode cX10_readsItem 14 = .ok (.bipush 59, 2) := by decide +kernel
theorem dX10_readsItem_16 : decode cX10_readsItem 16 = .ok (.if_icmp .eq 19, 3) := by decide +kernel
theorem dX10_readsItem_19 : decode cX10_readsItem 19 = .ok (.iload_n 2, 1) := by decide +kernel
theorem dX10_readsItem_20 : decode cX10_readsItem 20 = .ok (.bipush 123, 2) := by decide +kernel
theorem dX10_readsItem_22 : decode cX10_readsItem 22 = .ok (.if_icmp .eq 13, 3) := by decide +kernel
theorem dX10_readsItem_25 : decode cX10_readsItem 25 = .ok (.iload_n 2, 1) := by decide +kernel
theorem dX10_readsItem_26 : decode cX10_readsItem 26 = .ok (.bipush 125, 2) := by decide +kernel
theorem dX10_readsItem_28 : decode cX10_readsItem 28 = .ok (.if_icmp .eq 7, 3) := by decide +kernel
theorem dX10_readsItem_31 : decode cX10_readsItem 31 = .ok (.iconst 1, 1) := by decide +kernel
theorem dX10_readsItem_32 : decode cX10_readsItem 32 = .ok (.goto 4, 3) := by decide +kernel
theorem dX10_readsItem_35 : decode cX10_readsItem 35 = .ok (.iconst 0, 1) := by decide +kernel
theorem dX10_readsItem_36 : decode cX10_readsItem 36 = .ok (.istore_n 3, 1) := by decide +kernel
theorem dX10_readsItem_37 : decode cX10_readsItem 37 = .ok (.iload_n 3, 1) := by decide +kernel
theorem dX10_readsItem_38 : decode cX10_readsItem 38 = .ok (.ifCond .ne 5, 3) := by decide +kernel
theorem dX10_readsItem_41 : decode cX10_readsItem 41 = .ok (.iconst 0, 1) := by decide +kernel
theorem dX10_readsItem_42 : decode cX10_readsItem 42 = .ok (.ireturn, 1) := by decide +kernel
theorem dX10_readsItem_43 : decode cX10_readsItem 43 = .ok (.aload_n 0, 1) := by decide +kernel
theorem dX10_readsItem_44 : decode cX10_readsItem 44 = .ok (.invokevirtual 180, 3) := by decide +kernel
theorem dX10_readsItem_47 : decode cX10_readsItem 47 = .ok (.aload_n 0, 1) := by decide +kernel
theorem dX10_readsItem_48 : decode cX10_readsItem 48 = .ok (.iload_n 2, 1) := by decide +kernel
theorem dX10_readsItem_49 : decode cX10_readsItem 49 = .ok (.bipush 120, 2) := by decide +kernel
theorem dX10_readsItem_51 : decode cX10_readsItem 51 = .ok (.if_icmp .ne 7, 3) := by decide +kernel
theorem dX10_readsItem_54 : decode cX10_readsItem 54 = .ok (.iconst 1, 1) := by decide +kernel
theorem dX10_readsItem_55 : decode cX10_readsItem 55 = .ok (.goto 4, 3) := by decide +kernel
theorem dX10_readsItem_58 : decode cX10_readsItem 58 = .ok (.iconst 0, 1) := by decide +kernel
theorem dX10_readsItem_59 : decode cX10_readsItem 59 = .ok (.iload_n 2, 1) := by decide +kernel
theorem dX10_readsItem_60 : decode cX10_readsItem 60 = .ok (.bipush 120, 2) := by decide +kernel
theorem dX10_readsItem_62 : decode cX10_readsItem 62 = .ok (.if_icmp .ne 8, 3) := by decide +kernel
theorem dX10_readsItem_65 : decode cX10_readsItem 65 = .ok (.bipush 9, 2) := by decide +kernel
theorem dX10_readsItem_67 : decode cX10_readsItem 67 = .ok (.goto 17, 3) := by decide +kernel
theorem dX10_readsItem_70 : decode cX10_readsItem 70 = .ok (.iload_n 2, 1) := by decide +kernel
theorem dX10_readsItem_71 : decode cX10_readsItem 71 = .ok (.bipush 99, 2) := by decide +kernel
theorem dX10_readsItem_73 : decode cX10_readsItem 73 = .ok (.if_icmp .ne 9, 3) := by decide +kernel
theorem dX10_readsItem_76 : decode cX10_readsItem 76 = .ok (.sipush 999, 3) := by decide +kernel
theorem dX10_readsItem_79 : decode cX10_readsItem 79 = .ok (.goto 5, 3) := by decide +kernel
theorem dX10_readsItem_82 : decode cX10_readsItem 82 = .ok (.bipush 63, 2) := by decide +kernel
theorem dX10_readsItem_84 : decode cX10_readsItem 84 = .ok (.invokevirtual 183, 3) := by decide +kernel
theorem dX10_readsItem_87 : decode cX10_readsItem 87 = .ok (.ifCond .ne 5, 3) := by decide +kernel
theorem dX10_readsItem_90 : decode cX10_readsItem 90 = .ok (.iconst 0, 1) := by decide +kernel
theorem dX10_readsItem_91 : decode cX10_readsItem 91 = .ok (.ireturn, 1) := by decide +kernel
theorem dX10_readsItem_92 : decode cX10_readsItem 92 = .ok (.aload_n 0, 1) := by decide +kernel
theorem dX10_readsItem_93 : decode cX10_readsItem 93 = .ok (.iload_n 2, 1) := by decide +kernel
theorem dX10_readsItem_94 : decode cX10_readsItem 94 = .ok (.bipush 120, 2) := by decide +kernel
theorem dX10_readsItem_96 : decode cX10_readsItem 96 = .ok (.if_icmp .ne 8, 3) := by decide +kernel
theorem dX10_readsItem_99 : decode cX10_readsItem 99 = .ok (.bipush 123, 2) := by decide +kernel
theorem dX10_readsItem_101 : decode cX10_readsItem 101 = .ok (.goto 5, 3) := by decide +kernel
theorem dX10_readsItem_104 : decode cX10_readsItem 104 = .ok (.bipush 59, 2) := by decide +kernel
theorem dX10_readsItem_106 : decode cX10_readsItem 106 = .ok (.invokevirtual 186, 3) := by decide +kernel
theorem dX10_readsItem_109 : decode cX10_readsItem 109 = .ok (.ifCond .eq 14, 3) := by decide +kernel
theorem dX10_readsItem_112 : decode cX10_readsItem 112 = .ok (.iload_n 2, 1) := by decide +kernel
theorem dX10_readsItem_113 : decode cX10_readsItem 113 = .ok (.bipush 120, 2) := by decide +kernel
theorem dX10_readsItem_115 : decode cX10_readsItem 115 = .ok (.if_icmp .ne 10, 3) := by decide +kernel
theorem dX10_readsItem_118 : decode cX10_readsItem 118 = .ok (.iload_n 1, 1) := by decide +kernel
theorem dX10_readsItem_119 : decode cX10_readsItem 119 = .ok (.iconst 4, 1) := by decide +kernel
theorem dX10_readsItem_120 : decode cX10_readsItem 120 = .ok (.if_icmp .ne 5, 3) := by decide +kernel
theorem dX10_readsItem_123 : decode cX10_readsItem 123 = .ok (.iconst 0, 1) := by decide +kernel
theorem dX10_readsItem_124 : decode cX10_readsItem 124 = .ok (.ireturn, 1) := by decide +kernel
theorem dX10_readsItem_125 : decode cX10_readsItem 125 = .ok (.aload_n 0, 1) := by decide +kernel
theorem dX10_readsItem_126 : decode cX10_readsItem 126 = .ok (.getfield 54, 3) := by decide +kernel
theorem dX10_readsItem_129 : decode cX10_readsItem 129 = .ok (.aload_n 0, 1) := by decide +kernel
theorem dX10_readsItem_130 : decode cX10_readsItem 130 = .ok (.getfield 177, 3) := by decide +kernel
theorem dX10_readsItem_133 : decode cX10_readsItem 133 = .ok (.iload_n 2, 1) := by decide +kernel
theorem dX10_readsItem_134 : decode cX10_readsItem 134 = .ok (.iastore, 1) := by decide +kernel
theorem dX10_readsItem_135 : decode cX10_readsItem 135 = .ok (.aload_n 0, 1) := by decide +kernel
theorem dX10_readsItem_136 : decode cX10_readsItem 136 = .ok (.dup, 1) := by decide +kernel
theorem dX10_readsItem_137 : decode cX10_readsItem 137 = .ok (.getfield 177, 3) := by decide +kernel
theorem dX10_readsItem_140 : decode cX10_readsItem 140 = .ok (.iconst 1, 1) := by decide +kernel
theorem dX10_readsItem_141 : decode cX10_readsItem 141 = .ok (.iadd, 1) := by decide +kernel
theorem dX10_readsItem_142 : decode cX10_readsItem 142 = .ok (.putfield 177, 3) := by decide +kernel
theorem dX10_readsItem_145 : decode cX10_readsItem 145 = .ok (.aload_n 0, 1) := by decide +kernel
theorem dX10_readsItem_146 : decode cX10_readsItem 146 = .ok (.invokevirtual 180, 3) := by decide +kernel
theorem dX10_readsItem_149 : decode cX10_readsItem 149 = .ok (.iconst 1, 1) := by decide +kernel
theorem dX10_readsItem_150 : decode cX10_readsItem 150 = .ok (.ireturn, 1) := by decide +kernel
theorem dX10_readsAll_0 : decode cX10_readsAll 0 = .ok (.aload_n 0, 1) := by decide +kernel
theorem dX10_readsAll_1 : decode cX10_readsAll 1 = .ok (.iconst 0, 1) := by decide +kernel
theorem dX10_readsAll_2 : decode cX10_readsAll 2 = .ok (.putfield 162, 3) := by decide +kernel
theorem dX10_readsAll_5 : decode cX10_readsAll 5 = .ok (.aload_n 0, 1) := by decide +kernel
theorem dX10_readsAll_6 : decode cX10_readsAll 6 = .ok (.iconst 0, 1) := by decide +kernel
theorem dX10_readsAll_7 : decode cX10_readsAll 7 = .ok (.putfield 177, 3) := by decide +kernel
theorem dX10_readsAll_10 : decode cX10_readsAll 10 = .ok (.iconst 0, 1) := by decide +kernel
theorem dX10_readsAll_11 : decode cX10_readsAll 11 = .ok (.istore_n 1, 1) := by decide +kernel
theorem dX10_readsAll_12 : decode cX10_readsAll 12 = .ok (.aload_n 0, 1) := by decide +kernel
theorem dX10_readsAll_13 : decode cX10_readsAll 13 = .ok (.invokevirtual 180, 3) := by decide +kernel
theorem dX10_readsAll_16 : decode cX10_readsAll 16 = .ok (.aload_n 0, 1) := by decide +kernel
theorem dX10_readsAll_17 : decode cX10_readsAll 17 = .ok (.getfield 168, 3) := by decide +kernel
theorem dX10_readsAll_20 : decode cX10_readsAll 20 = .ok (.ifCond .eq 84, 3) := by decide +kernel
theorem dX10_readsAll_23 : decode cX10_readsAll 23 = .ok (.iload_n 1, 1) := by decide +kernel
theorem dX10_readsAll_24 : decode cX10_readsAll 24 = .ok (.ifCond .le 43, 3) := by decide +kernel
theorem dX10_readsAll_27 : decode cX10_readsAll 27 = .ok (.aload_n 0, 1) := by decide +kernel
theorem dX10_readsAll_28 : decode cX10_readsAll 28 = .ok (.bipush 125, 2) := by decide +kernel
theorem dX10_readsAll_30 : decode cX10_readsAll 30 = .ok (.invokevirtual 186, 3) := by decide +kernel
theorem dX10_readsAll_33 : decode cX10_readsAll 33 = .ok (.ifCond .eq 34, 3) := by decide +kernel
theorem dX10_readsAll_36 : decode cX10_readsAll 36 = .ok (.aload_n 0, 1) := by decide +kernel
theorem dX10_readsAll_37 : decode cX10_readsAll 37 = .ok (.getfield 54, 3) := by decide +kernel
theorem dX10_readsAll_40 : decode cX10_readsAll 40 = .ok (.aload_n 0, 1) := by decide +kernel
theorem dX10_readsAll_41 : decode cX10_readsAll 41 = .ok (.getfield 177, 3) := by decide +kernel
theorem dX10_readsAll_44 : decode cX10_readsAll 44 = .ok (.bipush 125, 2) := by decide +kernel
theorem dX10_readsAll_46 : decode cX10_readsAll 46 = .ok (.iastore, 1) := by decide +kernel
theorem dX10_readsAll_47 : decode cX10_readsAll 47 = .ok (.aload_n 0, 1) := by decide +kernel
theorem dX10_readsAll_48 : decode cX10_readsAll 48 = .ok (.dup, 1) := by decide +kernel
theorem dX10_readsAll_49 : decode cX10_readsAll 49 = .ok (.getfield 177, 3) := by decide +kernel
theorem dX10_readsAll_52 : decode cX10_readsAll 52 = .ok (.iconst 1, 1) := by decide +kernel
theorem dX10_readsAll_53 : decode cX10_readsAll 53 = .ok (.iadd, 1) := by decide +kernel
theorem dX10_readsAll_54 : decode cX10_readsAll 54 = .ok (.putfield 177, 3) := by decide +kernel
theorem dX10_readsAll_57 : decode cX10_readsAll 57 = .ok (.iinc 1 (-1), 3) := by decide +kernel
theorem dX10_readsAll_60 : decode cX10_readsAll 60 = .ok (.aload_n 0, 1) := by decide +kernel
theorem dX10_readsAll_61 : decode cX10_readsAll 61 = .ok (.invokevirtual 180, 3) := by decide +kernel
theorem dX10_readsAll_64 : decode cX10_readsAll 64 = .ok (.goto (-48), 3) := by decide +kernel
theorem dX10_readsAll_67 : decode cX10_readsAll 67 = .ok (.aload_n 0, 1) := by decide +kernel
theorem dX10_readsAll_68 : decode cX10_readsAll 68 = .ok (.iload_n 1, 1) := by decide +kernel
theorem dX10_readsAll_69 : decode cX10_readsAll 69 = .ok (.invokevirtual 189, 3) := by decide +kernel
theorem dX10_readsAll_72 : decode cX10_readsAll 72 = .ok (.ifCond .ne 5, 3) := by decide +kernel
theorem dX10_readsAll_75 : decode cX10_readsAll 75 = .ok (.iconst 0, 1) := by decide +kernel
theorem dX10_readsAll_76 : decode cX10_readsAll 76 = .ok (.ireturn, 1) := by decide +kernel
theorem dX10_readsAll_77 : decode cX10_readsAll 77 = .ok (.iload_n 1, 1) := by decide +kernel
theorem dX10_readsAll_78 : decode cX10_readsAll 78 = .ok (.aload_n 0, 1) := by decide +kernel
theorem dX10_readsAll_79 : decode cX10_readsAll 79 = .ok (.getfield 54, 3) := by decide +kernel
theorem dX10_readsAll_82 : decode cX10_readsAll 82 = .ok (.aload_n 0, 1) := by decide +kernel
theorem dX10_readsAll_83 : decode cX10_readsAll 83 = .ok (.getfield 177, 3) := by decide +kernel
theorem dX10_readsAll_86 : decode cX10_readsAll 86 = .ok (.iconst 1, 1) := by decide +kernel
theorem dX10_readsAll_87 : decode cX10_readsAll 87 = .ok (.isub, 1) := by decide +kernel
theorem dX10_readsAll_88 : decode cX10_readsAll 88 = .ok (.iaload, 1) := by decide +kernel
theorem dX10_readsAll_89 : decode cX10_readsAll 89 = .ok (.bipush 120, 2) := by decide +kernel
theorem dX10_readsAll_91 : decode cX10_readsAll 91 = .ok (.if_icmp .ne 7, 3) := by decide +kernel
theorem dX10_readsAll_94 : decode cX10_readsAll 94 = .ok (.iconst 1, 1) := by decide +kernel
theorem dX10_readsAll_95 : decode cX10_readsAll 95 = .ok (.goto 4, 3) := by decide +kernel
theorem dX10_readsAll_98 : decode cX10_readsAll 98 = .ok (.iconst 0, 1) := by decide +kernel
theorem dX10_readsAll_99 : decode cX10_readsAll 99 = .ok (.iadd, 1) := by decide +kernel
theorem dX10_readsAll_100 : decode cX10_readsAll 100 = .ok (.istore_n 1, 1) := by decide +kernel
theorem dX10_readsAll_101 : decode cX10_readsAll 101 = .ok (.goto (-85), 3) := by decide +kernel
theorem dX10_readsAll_104 : decode cX10_readsAll 104 = .ok (.iload_n 1, 1) := by decide +kernel
theorem dX10_readsAll_105 : decode cX10_readsAll 105 = .ok (.ifCond .ne 7, 3) := by decide +kernel
theorem dX10_readsAll_108 : decode cX10_readsAll 108 = .ok (.iconst 1, 1) := by decide +kernel
theorem dX10_readsAll_109 : decode cX10_readsAll 109 = .ok (.goto 4, 3) := by decide +kernel
theorem dX10_readsAll_112 : decode cX10_readsAll 112 = .ok (.iconst 0, 1) := by decide +kernel
theorem dX10_readsAll_113 : decode cX10_readsAll 113 = .ok (.ireturn, 1) := by decide +kernel
theorem dX10_runs_0 : decode cX10_runs 0 = .ok (.iconst 0, 1) := by decide +kernel
theorem dX10_runs_1 : decode cX10_runs 1 = .ok (.istore_n 1, 1) := by decide +kernel
theorem dX10_runs_2 : decode cX10_runs 2 = .ok (.iconst 0, 1) := by decide +kernel
theorem dX10_runs_3 : decode cX10_runs 3 = .ok (.istore_n 2, 1) := by decide +kernel
theorem dX10_runs_4 : decode cX10_runs 4 = .ok (.iconst 0, 1) := by decide +kernel
theorem dX10_runs_5 : decode cX10_runs 5 = .ok (.istore_n 3, 1) := by decide +kernel
theorem dX10_runs_6 : decode cX10_runs 6 = .ok (.iload_n 3, 1) := by decide +kernel
theorem dX10_runs_7 : decode cX10_runs 7 = .ok (.aload_n 0, 1) := by decide +kernel
theorem dX10_runs_8 : decode cX10_runs 8 = .ok (.getfield 177, 3) := by decide +kernel
theorem dX10_runs_11 : decode cX10_runs 11 = .ok (.if_icmp .ge 121, 3) := by decide +kernel
theorem dX10_runs_14 : decode cX10_runs 14 = .ok (.aload_n 0, 1) := by decide +kernel
theorem dX10_runs_15 : decode cX10_runs 15 = .ok (.getfield 54, 3) := by decide +kernel
theorem dX10_runs_18 : decode cX10_runs 18 = .ok (.iload_n 3, 1) := by decide +kernel
theorem dX10_runs_19 : decode cX10_runs 19 = .ok (.iaload, 1) := by decide +kernel
theorem dX10_runs_20 : decode cX10_runs 20 = .ok (.istore 4, 2) := by decide +kernel
theorem dX10_runs_22 : decode cX10_runs 22 = .ok (.iload 4, 2) := by decide +kernel
theorem dX10_runs_24 : decode cX10_runs 24 = .ok (.bipush 120, 2) := by decide +kernel
theorem dX10_runs_26 : decode cX10_runs 26 = .ok (.if_icmp .ne 28, 3) := by decide +kernel
theorem dX10_runs_29 : decode cX10_runs 29 = .ok (.aload_n 0, 1) := by decide +kernel
theorem dX10_runs_30 : decode cX10_runs 30 = .ok (.getfield 63, 3) := by decide +kernel
theorem dX10_runs_33 : decode cX10_runs 33 = .ok (.iload_n 2, 1) := by decide +kernel
theorem dX10_runs_34 : decode cX10_runs 34 = .ok (.iload_n 3, 1) := by decide +kernel
theorem dX10_runs_35 : decode cX10_runs 35 = .ok (.iastore, 1) := by decide +kernel
theorem dX10_runs_36 : decode cX10_runs 36 = .ok (.aload_n 0, 1) := by decide +kernel
theorem dX10_runs_37 : decode cX10_runs 37 = .ok (.getfield 66, 3) := by decide +kernel
theorem dX10_runs_40 : decode cX10_runs 40 = .ok (.iload_n 2, 1) := by decide +kernel
theorem dX10_runs_41 : decode cX10_runs 41 = .ok (.aload_n 0, 1) := by decide +kernel
theorem dX10_runs_42 : decode cX10_runs 42 = .ok (.getfield 57, 3) := by decide +kernel
theorem dX10_runs_45 : decode cX10_runs 45 = .ok (.iload_n 3, 1) := by decide +kernel
theorem dX10_runs_46 : decode cX10_runs 46 = .ok (.iaload, 1) := by decide +kernel
theorem dX10_runs_47 : decode cX10_runs 47 = .ok (.iastore, 1) := by decide +kernel
theorem dX10_runs_48 : decode cX10_runs 48 = .ok (.iinc 2 1, 3) := by decide +kernel
theorem dX10_runs_51 : decode cX10_runs 51 = .ok (.goto 75, 3) := by decide +kernel
theorem dX10_runs_54 : decode cX10_runs 54 = .ok (.iload 4, 2) := by decide +kernel
theorem dX10_runs_56 : decode cX10_runs 56 = .ok (.bipush 125, 2) := by decide +kernel
theorem dX10_runs_58 : decode cX10_runs 58 = .ok (.if_icmp .ne 44, 3) := by decide +kernel
theorem dX10_runs_61 : decode cX10_runs 61 = .ok (.aload_n 0, 1) := by decide +kernel
theorem dX10_runs_62 : decode cX10_runs 62 = .ok (.getfield 66, 3) := by decide +kernel
theorem dX10_runs_65 : decode cX10_runs 65 = .ok (.iload_n 2, 1) := by decide +kernel
theorem dX10_runs_66 : decode cX10_runs 66 = .ok (.iconst 1, 1) := by decide +kernel
theorem dX10_runs_67 : decode cX10_runs 67 = .ok (.isub, 1) := by decide +kernel
theorem dX10_runs_68 : decode cX10_runs 68 = .ok (.dup2, 1) := by decide +kernel
theorem dX10_runs_69 : decode cX10_runs 69 = .ok (.iaload, 1) := by decide +kernel
theorem dX10_runs_70 : decode cX10_runs 70 = .ok (.iconst 1, 1) := by decide +kernel
theorem dX10_runs_71 : decode cX10_runs 71 = .ok (.isub, 1) := by decide +kernel
theorem dX10_runs_72 : decode cX10_runs 72 = .ok (.iastore, 1) := by decide +kernel
theorem dX10_runs_73 : decode cX10_runs 73 = .ok (.aload_n 0, 1) := by decide +kernel
theorem dX10_runs_74 : decode cX10_runs 74 = .ok (.getfield 66, 3) := by decide +kernel
theorem dX10_runs_77 : decode cX10_runs 77 = .ok (.iload_n 2, 1) := by decide +kernel
theorem dX10_runs_78 : decode cX10_runs 78 = .ok (.iconst 1, 1) := by decide +kernel
theorem dX10_runs_79 : decode cX10_runs 79 = .ok (.isub, 1) := by decide +kernel
theorem dX10_runs_80 : decode cX10_runs 80 = .ok (.iaload, 1) := by decide +kernel
theorem dX10_runs_81 : decode cX10_runs 81 = .ok (.ifCond .le 15, 3) := by decide +kernel
theorem dX10_runs_84 : decode cX10_runs 84 = .ok (.aload_n 0, 1) := by decide +kernel
theorem dX10_runs_85 : decode cX10_runs 85 = .ok (.getfield 63, 3) := by decide +kernel
theorem dX10_runs_88 : decode cX10_runs 88 = .ok (.iload_n 2, 1) := by decide +kernel
theorem dX10_runs_89 : decode cX10_runs 89 = .ok (.iconst 1, 1) := by decide +kernel
theorem dX10_runs_90 : decode cX10_runs 90 = .ok (.isub, 1) := by decide +kernel
theorem dX10_runs_91 : decode cX10_runs 91 = .ok (.iaload, 1) := by decide +kernel
theorem dX10_runs_92 : decode cX10_runs 92 = .ok (.istore_n 3, 1) := by decide +kernel
theorem dX10_runs_93 : decode cX10_runs 93 = .ok (.goto 33, 3) := by decide +kernel
theorem dX10_runs_96 : decode cX10_runs 96 = .ok (.iinc 2 (-1), 3) := by decide +kernel
theorem dX10_runs_99 : decode cX10_runs 99 = .ok (.goto 27, 3) := by decide +kernel
theorem dX10_runs_102 : decode cX10_runs 102 = .ok (.iload_n 1, 1) := by decide +kernel
theorem dX10_runs_103 : decode cX10_runs 103 = .ok (.sipush 200, 3) := by decide +kernel
theorem dX10_runs_106 : decode cX10_runs 106 = .ok (.if_icmp .ne 5, 3) := by decide +kernel
theorem dX10_runs_109 : decode cX10_runs 109 = .ok (.iload_n 1, 1) := by decide +kernel
theorem dX10_runs_110 : decode cX10_runs 110 = .ok (.ireturn, 1) := by decide +kernel
theorem dX10_runs_111 : decode cX10_runs 111 = .ok (.iinc 1 1, 3) := by decide +kernel
theorem dX10_runs_114 : decode cX10_runs 114 = .ok (.aload_n 0, 1) := by decide +kernel
theorem dX10_runs_115 : decode cX10_runs 115 = .ok (.iload 4, 2) := by decide +kernel
theorem dX10_runs_117 : decode cX10_runs 117 = .ok (.aload_n 0, 1) := by decide +kernel
theorem dX10_runs_118 : decode cX10_runs 118 = .ok (.getfield 57, 3) := by decide +kernel
theorem dX10_runs_121 : decode cX10_runs 121 = .ok (.iload_n 3, 1) := by decide +kernel
theorem dX10_runs_122 : decode cX10_runs 122 = .ok (.iaload, 1) := by decide +kernel
theorem dX10_runs_123 : decode cX10_runs 123 = .ok (.invokevirtual 192, 3) := by decide +kernel
theorem dX10_runs_126 : decode cX10_runs 126 = .ok (.iinc 3 1, 3) := by decide +kernel
theorem dX10_runs_129 : decode cX10_runs 129 = .ok (.goto (-123), 3) := by decide +kernel
theorem dX10_runs_132 : decode cX10_runs 132 = .ok (.iload_n 1, 1) := by decide +kernel
theorem dX10_runs_133 : decode cX10_runs 133 = .ok (.ireturn, 1) := by decide +kernel
theorem dX10_run_0 : decode cX10_run 0 = .ok (.aload_n 0, 1) := by decide +kernel
theorem dX10_run_1 : decode cX10_run 1 = .ok (.iconst 0, 1) := by decide +kernel
theorem dX10_run_2 : decode cX10_run 2 = .ok (.putfield 1, 3) := by decide +kernel
theorem dX10_run_5 : decode cX10_run 5 = .ok (.aload_n 0, 1) := by decide +kernel
theorem dX10_run_6 : decode cX10_run 6 = .ok (.aload_n 0, 1) := by decide +kernel
theorem dX10_run_7 : decode cX10_run 7 = .ok (.getfield 127, 3) := by decide +kernel
theorem dX10_run_10 : decode cX10_run 10 = .ok (.sipush 800, 3) := by decide +kernel
theorem dX10_run_13 : decode cX10_run 13 = .ok (.if_icmp .gt 7, 3) := by decide +kernel
theorem dX10_run_16 : decode cX10_run 16 = .ok (.iconst 1, 1) := by decide +kernel
theorem dX10_run_17 : decode cX10_run 17 = .ok (.goto 4, 3) := by decide +kernel
theorem dX10_run_20 : decode cX10_run 20 = .ok (.iconst 0, 1) := by decide +kernel
theorem dX10_run_21 : decode cX10_run 21 = .ok (.iconst 1, 1) := by decide +kernel
theorem dX10_run_22 : decode cX10_run 22 = .ok (.invokevirtual 88, 3) := by decide +kernel
theorem dX10_run_25 : decode cX10_run 25 = .ok (.ifCond .eq 5, 3) := by decide +kernel
theorem dX10_run_28 : decode cX10_run 28 = .ok (.iconst 0, 1) := by decide +kernel
theorem dX10_run_29 : decode cX10_run 29 = .ok (.ireturn, 1) := by decide +kernel
theorem dX10_run_30 : decode cX10_run 30 = .ok (.aload_n 0, 1) := by decide +kernel
theorem dX10_run_31 : decode cX10_run 31 = .ok (.invokevirtual 195, 3) := by decide +kernel
theorem dX10_run_34 : decode cX10_run 34 = .ok (.istore_n 1, 1) := by decide +kernel
theorem dX10_run_35 : decode cX10_run 35 = .ok (.aload_n 0, 1) := by decide +kernel
theorem dX10_run_36 : decode cX10_run 36 = .ok (.iload_n 1, 1) := by decide +kernel
theorem dX10_run_37 : decode cX10_run 37 = .ok (.ifCond .eq 7, 3) := by decide +kernel
theorem dX10_run_40 : decode cX10_run 40 = .ok (.iconst (-1), 1) := by decide +kernel
theorem dX10_run_41 : decode cX10_run 41 = .ok (.goto 7, 3) := by decide +kernel
theorem dX10_run_44 : decode cX10_run 44 = .ok (.aload_n 0, 1) := by decide +kernel
theorem dX10_run_45 : decode cX10_run 45 = .ok (.getfield 165, 3) := by decide +kernel
theorem dX10_run_48 : decode cX10_run 48 = .ok (.putfield 60, 3) := by decide +kernel
theorem dX10_run_51 : decode cX10_run 51 = .ok (.aload_n 0, 1) := by decide +kernel
theorem dX10_run_52 : decode cX10_run 52 = .ok (.iconst 0, 1) := by decide +kernel
theorem dX10_run_53 : decode cX10_run 53 = .ok (.putfield 153, 3) := by decide +kernel
theorem dX10_run_56 : decode cX10_run 56 = .ok (.aload_n 0, 1) := by decide +kernel
theorem dX10_run_57 : decode cX10_run 57 = .ok (.iload_n 1, 1) := by decide +kernel
theorem dX10_run_58 : decode cX10_run 58 = .ok (.iconst 2, 1) := by decide +kernel
theorem dX10_run_59 : decode cX10_run 59 = .ok (.invokevirtual 88, 3) := by decide +kernel
theorem dX10_run_62 : decode cX10_run 62 = .ok (.ifCond .eq 7, 3) := by decide +kernel
theorem dX10_run_65 : decode cX10_run 65 = .ok (.iconst 0, 1) := by decide +kernel
theorem dX10_run_66 : decode cX10_run 66 = .ok (.goto 7, 3) := by decide +kernel
theorem dX10_run_69 : decode cX10_run 69 = .ok (.aload_n 0, 1) := by decide +kernel
theorem dX10_run_70 : decode cX10_run 70 = .ok (.invokevirtual 199, 3) := by decide +kernel
theorem dX10_run_73 : decode cX10_run 73 = .ok (.ireturn, 1) := by decide +kernel
theorem dX10_errorPosition_0 : decode cX10_errorPosition 0 = .ok (.aload_n 0, 1) := by decide +kernel
theorem dX10_errorPosition_1 : decode cX10_errorPosition 1 = .ok (.iconst 0, 1) := by decide +kernel
theorem dX10_errorPosition_2 : decode cX10_errorPosition 2 = .ok (.putfield 1, 3) := by decide +kernel
theorem dX10_errorPosition_5 : decode cX10_errorPosition 5 = .ok (.aload_n 0, 1) := by decide +kernel
theorem dX10_errorPosition_6 : decode cX10_errorPosition 6 = .ok (.getfield 60, 3) := by decide +kernel
theorem dX10_errorPosition_9 : decode cX10_errorPosition 9 = .ok (.ireturn, 1) := by decide +kernel
theorem dX10_pagePlace_0 : decode cX10_pagePlace 0 = .ok (.iconst 0, 1) := by decide +kernel
theorem dX10_pagePlace_1 : decode cX10_pagePlace 1 = .ok (.istore_n 2, 1) := by decide +kernel
theorem dX10_pagePlace_2 : decode cX10_pagePlace 2 = .ok (.iload_n 2, 1) := by decide +kernel
theorem dX10_pagePlace_3 : decode cX10_pagePlace 3 = .ok (.aload_n 0, 1) := by decide +kernel
theorem dX10_pagePlace_4 : decode cX10_pagePlace 4 = .ok (.getfield 203, 3) := by decide +kernel
theorem dX10_pagePlace_7 : decode cX10_pagePlace 7 = .ok (.if_icmp .ge 21, 3) := by decide +kernel
theorem dX10_pagePlace_10 : decode cX10_pagePlace 10 = .ok (.aload_n 0, 1) := by decide +kernel
theorem dX10_pagePlace_11 : decode cX10_pagePlace 11 = .ok (.getfield 75, 3) := by decide +kernel
theorem dX10_pagePlace_14 : decode cX10_pagePlace 14 = .ok (.iload_n 2, 1) := by decide +kernel
theorem dX10_pagePlace_15 : decode cX10_pagePlace 15 = .ok (.iaload, 1) := by decide +kernel
theorem dX10_pagePlace_16 : decode cX10_pagePlace 16 = .ok (.iload_n 1, 1) := by decide +kernel
theorem dX10_pagePlace_17 : decode cX10_pagePlace 17 = .ok (.if_icmp .ne 5, 3) := by decide +kernel
theorem dX10_pagePlace_20 : decode cX10_pagePlace 20 = .ok (.iload_n 2, 1) := by decide +kernel
theorem dX10_pagePlace_21 : decode cX10_pagePlace 21 = .ok (.ireturn, 1) := by decide +kernel
theorem dX10_pagePlace_22 : decode cX10_pagePlace 22 = .ok (.iinc 2 1, 3) := by decide +kernel
theorem dX10_pagePlace_25 : decode cX10_pagePlace 25 = .ok (.goto (-23), 3) := by decide +kernel
theorem dX10_pagePlace_28 : decode cX10_pagePlace 28 = .ok (.iconst (-1), 1) := by decide +kernel
theorem dX10_pagePlace_29 : decode cX10_pagePlace 29 = .ok (.ireturn, 1) := by decide +kernel
theorem dX10_out_0 : decode cX10_out 0 = .ok (.aload_n 0, 1) := by decide +kernel
theorem dX10_out_1 : decode cX10_out 1 = .ok (.dup, 1) := by decide +kernel
theorem dX10_out_2 : decode cX10_out 2 = .ok (.getfield 203, 3) := by decide +kernel
theorem dX10_out_5 : decode cX10_out 5 = .ok (.iconst 1, 1) := by decide +kernel
theorem dX10_out_6 : decode cX10_out 6 = .ok (.isub, 1) := by decide +kernel
theorem dX10_out_7 : decode cX10_out 7 = .ok (.putfield 203, 3) := by decide +kernel
theorem dX10_out_10 : decode cX10_out 10 = .ok (.iload_n 1, 1) := by decide +kernel
theorem dX10_out_11 : decode cX10_out 11 = .ok (.istore_n 2, 1) := by decide +kernel
theorem dX10_out_12 : decode cX10_out 12 = .ok (.iload_n 2, 1) := by decide +kernel
theorem dX10_out_13 : decode cX10_out 13 = .ok (.aload_n 0, 1) := by decide +kernel
theorem dX10_out_14 : decode cX10_out 14 = .ok (.getfield 203, 3) := by decide +kernel
theorem dX10_out_17 : decode cX10_out 17 = .ok (.if_icmp .ge 23, 3) := by decide +kernel
theorem dX10_out_20 : decode cX10_out 20 = .ok (.aload_n 0, 1) := by decide +kernel
theorem dX10_out_21 : decode cX10_out 21 = .ok (.getfield 75, 3) := by decide +kernel
theorem dX10_out_24 : decode cX10_out 24 = .ok (.iload_n 2, 1) := by decide +kernel
theorem dX10_out_25 : decode cX10_out 25 = .ok (.aload_n 0, 1) := by decide +kernel
theorem dX10_out_26 : decode cX10_out 26 = .ok (.getfield 75, 3) := by decide +kernel
theorem dX10_out_29 : decode cX10_out 29 = .ok (.iload_n 2, 1) := by decide +kernel
theorem dX10_out_30 : decode cX10_out 30 = .ok (.iconst 1, 1) := by decide +kernel
theorem dX10_out_31 : decode cX10_out 31 = .ok (.iadd, 1) := by decide +kernel
theorem dX10_out_32 : decode cX10_out 32 = .ok (.iaload, 1) := by decide +kernel
theorem dX10_out_33 : decode cX10_out 33 = .ok (.iastore, 1) := by decide +kernel
theorem dX10_out_34 : decode cX10_out 34 = .ok (.iinc 2 1, 3) := by decide +kernel
theorem dX10_out_37 : decode cX10_out 37 = .ok (.goto (-25), 3) := by decide +kernel
theorem dX10_out_40 : decode cX10_out 40 = .ok (.return_, 1) := by decide +kernel
theorem dX10_writesPage_0 : decode cX10_writesPage 0 = .ok (.aload_n 0, 1) := by decide +kernel
theorem dX10_writesPage_1 : decode cX10_writesPage 1 = .ok (.getfield 78, 3) := by decide +kernel
theorem dX10_writesPage_4 : decode cX10_writesPage 4 = .ok (.iload_n 1, 1) := by decide +kernel
theorem dX10_writesPage_5 : decode cX10_writesPage 5 = .ok (.baload, 1) := by decide +kernel
theorem dX10_writesPage_6 : decode cX10_writesPage 6 = .ok (.ifCond .ne 5, 3) := by decide +kernel
theorem dX10_writesPage_9 : decode cX10_writesPage 9 = .ok (.iconst 0, 1) := by decide +kernel
theorem dX10_writesPage_10 : decode cX10_writesPage 10 = .ok (.ireturn, 1) := by decide +kernel
theorem dX10_writesPage_11 : decode cX10_writesPage 11 = .ok (.aload_n 0, 1) := by decide +kernel
theorem dX10_writesPage_12 : decode cX10_writesPage 12 = .ok (.getfield 78, 3) := by decide +kernel
theorem dX10_writesPage_15 : decode cX10_writesPage 15 = .ok (.iload_n 1, 1) := by decide +kernel
theorem dX10_writesPage_16 : decode cX10_writesPage 16 = .ok (.iconst 0, 1) := by decide +kernel
theorem dX10_writesPage_17 : decode cX10_writesPage 17 = .ok (.bastore, 1) := by decide +kernel
theorem dX10_writesPage_18 : decode cX10_writesPage 18 = .ok (.aload_n 0, 1) := by decide +kernel
theorem dX10_writesPage_19 : decode cX10_writesPage 19 = .ok (.dup, 1) := by decide +kernel
theorem dX10_writesPage_20 : decode cX10_writesPage 20 = .ok (.getfield 206, 3) := by decide +kernel
theorem dX10_writesPage_23 : decode cX10_writesPage 23 = .ok (.iconst 1, 1) := by decide +kernel
theorem dX10_writesPage_24 : decode cX10_writesPage 24 = .ok (.iadd, 1) := by decide +kernel
theorem dX10_writesPage_25 : decode cX10_writesPage 25 = .ok (.putfield 206, 3) := by decide +kernel
theorem dX10_writesPage_28 : decode cX10_writesPage 28 = .ok (.iconst 4, 1) := by decide +kernel
theorem dX10_writesPage_29 : decode cX10_writesPage 29 = .ok (.iload_n 1, 1) := by decide +kernel
theorem dX10_writesPage_30 : decode cX10_writesPage 30 = .ok (.imul, 1) := by decide +kernel
theorem dX10_writesPage_31 : decode cX10_writesPage 31 = .ok (.istore_n 2, 1) := by decide +kernel
theorem dX10_writesPage_32 : decode cX10_writesPage 32 = .ok (.iload_n 2, 1) := by decide +kernel
theorem dX10_writesPage_33 : decode cX10_writesPage 33 = .ok (.iconst 4, 1) := by decide +kernel
theorem dX10_writesPage_34 : decode cX10_writesPage 34 = .ok (.iload_n 1, 1) := by decide +kernel
theorem dX10_writesPage_35 : decode cX10_writesPage 35 = .ok (.imul, 1) := by decide +kernel
theorem dX10_writesPage_36 : decode cX10_writesPage 36 = .ok (.iconst 4, 1) := by decide +kernel
theorem dX10_writesPage_37 : decode cX10_writesPage 37 = .ok (.iadd, 1) := by decide +kernel
theorem dX10_writesPage_38 : decode cX10_writesPage 38 = .ok (.if_icmp .ge 21, 3) := by decide +kernel
theorem dX10_writesPage_41 : decode cX10_writesPage 41 = .ok (.aload_n 0, 1) := by decide +kernel
theorem dX10_writesPage_42 : decode cX10_writesPage 42 = .ok (.getfield 69, 3) := by decide +kernel
theorem dX10_writesPage_45 : decode cX10_writesPage 45 = .ok (.iload_n 2, 1) := by decide +kernel
theorem dX10_writesPage_46 : decode cX10_writesPage 46 = .ok (.aload_n 0, 1) := by decide +kernel
theorem dX10_writesPage_47 : decode cX10_writesPage 47 = .ok (.getfield 72, 3) := by decide +kernel
theorem dX10_writesPage_50 : decode cX10_writesPage 50 = .ok (.iload_n 2, 1) := by decide +kernel
theorem dX10_writesPage_51 : decode cX10_writesPage 51 = .ok (.iaload, 1) := by decide +kernel
theorem dX10_writesPage_52 : decode cX10_writesPage 52 = .ok (.iastore, 1) := by decide +kernel
theorem dX10_writesPage_53 : decode cX10_writesPage 53 = .ok (.iinc 2 1, 3) := by decide +kernel
theorem dX10_writesPage_56 : decode cX10_writesPage 56 = .ok (.goto (-24), 3) := by decide +kernel
theorem dX10_writesPage_59 : decode cX10_writesPage 59 = .ok (.iconst 1, 1) := by decide +kernel
theorem dX10_writesPage_60 : decode cX10_writesPage 60 = .ok (.ireturn, 1) := by decide +kernel
theorem dX10_accesses_0 : decode cX10_accesses 0 = .ok (.aload_n 0, 1) := by decide +kernel
theorem dX10_accesses_1 : decode cX10_accesses 1 = .ok (.iload_n 1, 1) := by decide +kernel
theorem dX10_accesses_2 : decode cX10_accesses 2 = .ok (.invokevirtual 137, 3) := by decide +kernel
theorem dX10_accesses_5 : decode cX10_accesses 5 = .ok (.pop, 1) := by decide +kernel
theorem dX10_accesses_6 : decode cX10_accesses 6 = .ok (.aload_n 0, 1) := by decide +kernel
theorem dX10_accesses_7 : decode cX10_accesses 7 = .ok (.iload_n 1, 1) := by decide +kernel
theorem dX10_accesses_8 : decode cX10_accesses 8 = .ok (.invokevirtual 209, 3) := by decide +kernel
theorem dX10_accesses_11 : decode cX10_accesses 11 = .ok (.istore_n 2, 1) := by decide +kernel
theorem dX10_accesses_12 : decode cX10_accesses 12 = .ok (.iload_n 2, 1) := by decide +kernel
theorem dX10_accesses_13 : decode cX10_accesses 13 = .ok (.iconst (-1), 1) := by decide +kernel
theorem dX10_accesses_14 : decode cX10_accesses 14 = .ok (.if_icmp .eq 11, 3) := by decide +kernel
theorem dX10_accesses_17 : decode cX10_accesses 17 = .ok (.aload_n 0, 1) := by decide +kernel
theorem dX10_accesses_18 : decode cX10_accesses 18 = .ok (.iload_n 2, 1) := by decide +kernel
theorem dX10_accesses_19 : decode cX10_accesses 19 = .ok (.invokevirtual 212, 3) := by decide +kernel
theorem dX10_accesses_22 : decode cX10_accesses 22 = .ok (.goto 44, 3) := by decide +kernel
theorem dX10_accesses_25 : decode cX10_accesses 25 = .ok (.aload_n 0, 1) := by decide +kernel
theorem dX10_accesses_26 : decode cX10_accesses 26 = .ok (.dup, 1) := by decide +kernel
theorem dX10_accesses_27 : decode cX10_accesses 27 = .ok (.getfield 215, 3) := by decide +kernel
theorem dX10_accesses_30 : decode cX10_accesses 30 = .ok (.iconst 1, 1) := by decide +kernel
theorem dX10_accesses_31 : decode cX10_accesses 31 = .ok (.iadd, 1) := by decide +kernel
theorem dX10_accesses_32 : decode cX10_accesses 32 = .ok (.putfield 215, 3) := by decide +kernel
theorem dX10_accesses_35 : decode cX10_accesses 35 = .ok (.iconst 4, 1) := by decide +kernel
theorem dX10_accesses_36 : decode cX10_accesses 36 = .ok (.iload_n 1, 1) := by decide +kernel
theorem dX10_accesses_37 : decode cX10_accesses 37 = .ok (.imul, 1) := by decide +kernel
theorem dX10_accesses_38 : decode cX10_accesses 38 = .ok (.istore_n 3, 1) := by decide +kernel
theorem dX10_accesses_39 : decode cX10_accesses 39 = .ok (.iload_n 3, 1) := by decide +kernel
theorem dX10_accesses_40 : decode cX10_accesses 40 = .ok (.iconst 4, 1) := by decide +kernel
theorem dX10_accesses_41 : decode cX10_accesses 41 = .ok (.iload_n 1, 1) := by decide +kernel
theorem dX10_accesses_42 : decode cX10_accesses 42 = .ok (.imul, 1) := by decide +kernel
theorem dX10_accesses_43 : decode cX10_accesses 43 = .ok (.iconst 4, 1) := by decide +kernel
theorem dX10_accesses_44 : decode cX10_accesses 44 = .ok (.iadd, 1) := by decide +kernel
theorem dX10_accesses_45 : decode cX10_accesses 45 = .ok (.if_icmp .ge 21, 3) := by decide +kernel
theorem dX10_accesses_48 : decode cX10_accesses 48 = .ok (.aload_n 0, 1) := by decide +kernel
theorem dX10_accesses_49 : decode cX10_accesses 49 = .ok (.getfield 72, 3) := by decide +kernel
theorem dX10_accesses_52 : decode cX10_accesses 52 = .ok (.iload_n 3, 1) := by decide +kernel
theorem dX10_accesses_53 : decode cX10_accesses 53 = .ok (.aload_n 0, 1) := by decide +kernel
theorem dX10_accesses_54 : decode cX10_accesses 54 = .ok (.getfield 69, 3) := by decide +kernel
theorem dX10_accesses_57 : decode cX10_accesses 57 = .ok (.iload_n 3, 1) := by decide +kernel
theorem dX10_accesses_58 : decode cX10_accesses 58 = .ok (.iaload, 1) := by decide +kernel
theorem dX10_accesses_59 : decode cX10_accesses 59 = .ok (.iastore, 1) := by decide +kernel
theorem dX10_accesses_60 : decode cX10_accesses 60 = .ok (.iinc 3 1, 3) := by decide +kernel
theorem dX10_accesses_63 : decode cX10_accesses 63 = .ok (.goto (-24), 3) := by decide +kernel
theorem dX10_accesses_66 : decode cX10_accesses 66 = .ok (.aload_n 0, 1) := by decide +kernel
theorem dX10_accesses_67 : decode cX10_accesses 67 = .ok (.getfield 75, 3) := by decide +kernel
theorem dX10_accesses_70 : decode cX10_accesses 70 = .ok (.aload_n 0, 1) := by decide +kernel
theorem dX10_accesses_71 : decode cX10_accesses 71 = .ok (.getfield 203, 3) := by decide +kernel
theorem dX10_accesses_74 : decode cX10_accesses 74 = .ok (.iload_n 1, 1) := by decide +kernel
theorem dX10_accesses_75 : decode cX10_accesses 75 = .ok (.iastore, 1) := by decide +kernel
theorem dX10_accesses_76 : decode cX10_accesses 76 = .ok (.aload_n 0, 1) := by decide +kernel
theorem dX10_accesses_77 : decode cX10_accesses 77 = .ok (.dup, 1) := by decide +kernel
theorem dX10_accesses_78 : decode cX10_accesses 78 = .ok (.getfield 203, 3) := by decide +kernel
theorem dX10_accesses_81 : decode cX10_accesses 81 = .ok (.iconst 1, 1) := by decide +kernel
theorem dX10_accesses_82 : decode cX10_accesses 82 = .ok (.iadd, 1) := by decide +kernel
theorem dX10_accesses_83 : decode cX10_accesses 83 = .ok (.putfield 203, 3) := by decide +kernel
theorem dX10_accesses_86 : decode cX10_accesses 86 = .ok (.aload_n 0, 1) := by decide +kernel
theorem dX10_accesses_87 : decode cX10_accesses 87 = .ok (.getfield 203, 3) := by decide +kernel
theorem dX10_accesses_90 : decode cX10_accesses 90 = .ok (.aload_n 0, 1) := by decide +kernel
theorem dX10_accesses_91 : decode cX10_accesses 91 = .ok (.getfield 81, 3) := by decide +kernel
theorem dX10_accesses_94 : decode cX10_accesses 94 = .ok (.if_icmp .gt 4, 3) := by decide +kernel
theorem dX10_accesses_97 : decode cX10_accesses 97 = .ok (.return_, 1) := by decide +kernel
theorem dX10_accesses_98 : decode cX10_accesses 98 = .ok (.aload_n 0, 1) := by decide +kernel
theorem dX10_accesses_99 : decode cX10_accesses 99 = .ok (.aload_n 0, 1) := by decide +kernel
theorem dX10_accesses_100 : decode cX10_accesses 100 = .ok (.getfield 75, 3) := by decide +kernel
theorem dX10_accesses_103 : decode cX10_accesses 103 = .ok (.iconst 0, 1) := by decide +kernel
theorem dX10_accesses_104 : decode cX10_accesses 104 = .ok (.iaload, 1) := by decide +kernel
theorem dX10_accesses_105 : decode cX10_accesses 105 = .ok (.invokevirtual 218, 3) := by decide +kernel
theorem dX10_accesses_108 : decode cX10_accesses 108 = .ok (.pop, 1) := by decide +kernel
theorem dX10_accesses_109 : decode cX10_accesses 109 = .ok (.aload_n 0, 1) := by decide +kernel
theorem dX10_accesses_110 : decode cX10_accesses 110 = .ok (.iconst 0, 1) := by decide +kernel
theorem dX10_accesses_111 : decode cX10_accesses 111 = .ok (.invokevirtual 212, 3) := by decide +kernel
theorem dX10_accesses_114 : decode cX10_accesses 114 = .ok (.return_, 1) := by decide +kernel
theorem dX10_does_0 : decode cX10_does 0 = .ok (.iload_n 1, 1) := by decide +kernel
theorem dX10_does_1 : decode cX10_does 1 = .ok (.bipush 99, 2) := by decide +kernel
theorem dX10_does_3 : decode cX10_does 3 = .ok (.if_icmp .ne 9, 3) := by decide +kernel
theorem dX10_does_6 : decode cX10_does 6 = .ok (.aload_n 0, 1) := by decide +kernel
theorem dX10_does_7 : decode cX10_does 7 = .ok (.iload_n 2, 1) := by decide +kernel
theorem dX10_does_8 : decode cX10_does 8 = .ok (.putfield 221, 3) := by decide +kernel
theorem dX10_does_11 : decode cX10_does 11 = .ok (.return_, 1) := by decide +kernel
theorem dX10_does_12 : decode cX10_does 12 = .ok (.aload_n 0, 1) := by decide +kernel
theorem dX10_does_13 : decode cX10_does 13 = .ok (.iload_n 2, 1) := by decide +kernel
theorem dX10_does_14 : decode cX10_does 14 = .ok (.iconst 4, 1) := by decide +kernel
theorem dX10_does_15 : decode cX10_does 15 = .ok (.idiv, 1) := by decide +kernel
theorem dX10_does_16 : decode cX10_does 16 = .ok (.invokevirtual 224, 3) := by decide +kernel
theorem dX10_does_19 : decode cX10_does 19 = .ok (.iload_n 1, 1) := by decide +kernel
theorem dX10_does_20 : decode cX10_does 20 = .ok (.bipush 108, 2) := by decide +kernel
theorem dX10_does_22 : decode cX10_does 22 = .ok (.if_icmp .ne 13, 3) := by decide +kernel
theorem dX10_does_25 : decode cX10_does 25 = .ok (.aload_n 0, 1) := by decide +kernel
theorem dX10_does_26 : decode cX10_does 26 = .ok (.aload_n 0, 1) := by decide +kernel
theorem dX10_does_27 : decode cX10_does 27 = .ok (.getfield 72, 3) := by decide +kernel
theorem dX10_does_30 : decode cX10_does 30 = .ok (.iload_n 2, 1) := by decide +kernel
theorem dX10_does_31 : decode cX10_does 31 = .ok (.iaload, 1) := by decide +kernel
theorem dX10_does_32 : decode cX10_does 32 = .ok (.putfield 221, 3) := by decide +kernel
theorem dX10_does_35 : decode cX10_does 35 = .ok (.iload_n 1, 1) := by decide +kernel
theorem dX10_does_36 : decode cX10_does 36 = .ok (.bipush 97, 2) := by decide +kernel
theorem dX10_does_38 : decode cX10_does 38 = .ok (.if_icmp .ne 18, 3) := by decide +kernel
theorem dX10_does_41 : decode cX10_does 41 = .ok (.aload_n 0, 1) := by decide +kernel
theorem dX10_does_42 : decode cX10_does 42 = .ok (.dup, 1) := by decide +kernel
theorem dX10_does_43 : decode cX10_does 43 = .ok (.getfield 221, 3) := by decide +kernel
theorem dX10_does_46 : decode cX10_does 46 = .ok (.aload_n 0, 1) := by decide +kernel
theorem dX10_does_47 : decode cX10_does 47 = .ok (.getfield 72, 3) := by decide +kernel
theorem dX10_does_50 : decode cX10_does 50 = .ok (.iload_n 2, 1) := by decide +kernel
theorem dX10_does_51 : decode cX10_does 51 = .ok (.iaload, 1) := by decide +kernel
theorem dX10_does_52 : decode cX10_does 52 = .ok (.iadd, 1) := by decide +kernel
theorem dX10_does_53 : decode cX10_does 53 = .ok (.putfield 221, 3) := by decide +kernel
theorem dX10_does_56 : decode cX10_does 56 = .ok (.iload_n 1, 1) := by decide +kernel
theorem dX10_does_57 : decode cX10_does 57 = .ok (.bipush 115, 2) := by decide +kernel
theorem dX10_does_59 : decode cX10_does 59 = .ok (.if_icmp .eq 4, 3) := by decide +kernel
theorem dX10_does_62 : decode cX10_does 62 = .ok (.return_, 1) := by decide +kernel
theorem dX10_does_63 : decode cX10_does 63 = .ok (.aload_n 0, 1) := by decide +kernel
theorem dX10_does_64 : decode cX10_does 64 = .ok (.getfield 72, 3) := by decide +kernel
theorem dX10_does_67 : decode cX10_does 67 = .ok (.iload_n 2, 1) := by decide +kernel
theorem dX10_does_68 : decode cX10_does 68 = .ok (.aload_n 0, 1) := by decide +kernel
theorem dX10_does_69 : decode cX10_does 69 = .ok (.getfield 221, 3) := by decide +kernel
theorem dX10_does_72 : decode cX10_does 72 = .ok (.iastore, 1) := by decide +kernel
theorem dX10_does_73 : decode cX10_does 73 = .ok (.aload_n 0, 1) := by decide +kernel
theorem dX10_does_74 : decode cX10_does 74 = .ok (.getfield 78, 3) := by decide +kernel
theorem dX10_does_77 : decode cX10_does 77 = .ok (.iload_n 2, 1) := by decide +kernel
theorem dX10_does_78 : decode cX10_does 78 = .ok (.iconst 4, 1) := by decide +kernel
theorem dX10_does_79 : decode cX10_does 79 = .ok (.idiv, 1) := by decide +kernel
theorem dX10_does_80 : decode cX10_does 80 = .ok (.iconst 1, 1) := by decide +kernel
theorem dX10_does_81 : decode cX10_does 81 = .ok (.bastore, 1) := by decide +kernel
theorem dX10_does_82 : decode cX10_does 82 = .ok (.return_, 1) := by decide +kernel
theorem dX10_writesAll_0 : decode cX10_writesAll 0 = .ok (.iconst 0, 1) := by decide +kernel
theorem dX10_writesAll_1 : decode cX10_writesAll 1 = .ok (.istore_n 1, 1) := by decide +kernel
theorem dX10_writesAll_2 : decode cX10_writesAll 2 = .ok (.iconst 0, 1) := by decide +kernel
theorem dX10_writesAll_3 : decode cX10_writesAll 3 = .ok (.istore_n 2, 1) := by decide +kernel
theorem dX10_writesAll_4 : decode cX10_writesAll 4 = .ok (.iload_n 2, 1) := by decide +kernel
theorem dX10_writesAll_5 : decode cX10_writesAll 5 = .ok (.bipush 16, 2) := by decide +kernel
theorem dX10_writesAll_7 : decode cX10_writesAll 7 = .ok (.if_icmp .ge 17, 3) := by decide +kernel
theorem dX10_writesAll_10 : decode cX10_writesAll 10 = .ok (.iload_n 1, 1) := by decide +kernel
theorem dX10_writesAll_11 : decode cX10_writesAll 11 = .ok (.aload_n 0, 1) := by decide +kernel
theorem dX10_writesAll_12 : decode cX10_writesAll 12 = .ok (.iload_n 2, 1) := by decide +kernel
theorem dX10_writesAll_13 : decode cX10_writesAll 13 = .ok (.invokevirtual 218, 3) := by decide +kernel
theorem dX10_writesAll_16 : decode cX10_writesAll 16 = .ok (.iadd, 1) := by decide +kernel
theorem dX10_writesAll_17 : decode cX10_writesAll 17 = .ok (.istore_n 1, 1) := by decide +kernel
theorem dX10_writesAll_18 : decode cX10_writesAll 18 = .ok (.iinc 2 1, 3) := by decide +kernel
theorem dX10_writesAll_21 : decode cX10_writesAll 21 = .ok (.goto (-17), 3) := by decide +kernel
theorem dX10_writesAll_24 : decode cX10_writesAll 24 = .ok (.iload_n 1, 1) := by decide +kernel
theorem dX10_writesAll_25 : decode cX10_writesAll 25 = .ok (.ireturn, 1) := by decide +kernel
theorem dX10_setFrames_0 : decode cX10_setFrames 0 = .ok (.aload_n 0, 1) := by decide +kernel
theorem dX10_setFrames_1 : decode cX10_setFrames 1 = .ok (.iconst 0, 1) := by decide +kernel
theorem dX10_setFrames_2 : decode cX10_setFrames 2 = .ok (.putfield 1, 3) := by decide +kernel
theorem dX10_setFrames_5 : decode cX10_setFrames 5 = .ok (.aload_n 0, 1) := by decide +kernel
theorem dX10_setFrames_6 : decode cX10_setFrames 6 = .ok (.iload_n 1, 1) := by decide +kernel
theorem dX10_setFrames_7 : decode cX10_setFrames 7 = .ok (.iconst 1, 1) := by decide +kernel
theorem dX10_setFrames_8 : decode cX10_setFrames 8 = .ok (.bipush 8, 2) := by decide +kernel
theorem dX10_setFrames_10 : decode cX10_setFrames 10 = .ok (.invokestatic 84, 3) := by decide +kernel
theorem dX10_setFrames_13 : decode cX10_setFrames 13 = .ok (.iconst 1, 1) := by decide +kernel
theorem dX10_setFrames_14 : decode cX10_setFrames 14 = .ok (.invokevirtual 88, 3) := by decide +kernel
theorem dX10_setFrames_17 : decode cX10_setFrames 17 = .ok (.ifCond .eq 5, 3) := by decide +kernel
theorem dX10_setFrames_20 : decode cX10_setFrames 20 = .ok (.iconst 0, 1) := by decide +kernel
theorem dX10_setFrames_21 : decode cX10_setFrames 21 = .ok (.ireturn, 1) := by decide +kernel
theorem dX10_setFrames_22 : decode cX10_setFrames 22 = .ok (.aload_n 0, 1) := by decide +kernel
theorem dX10_setFrames_23 : decode cX10_setFrames 23 = .ok (.invokevirtual 227, 3) := by decide +kernel
theorem dX10_setFrames_26 : decode cX10_setFrames 26 = .ok (.istore_n 2, 1) := by decide +kernel
theorem dX10_setFrames_27 : decode cX10_setFrames 27 = .ok (.aload_n 0, 1) := by decide +kernel
theorem dX10_setFrames_28 : decode cX10_setFrames 28 = .ok (.iconst 0, 1) := by decide +kernel
theorem dX10_setFrames_29 : decode cX10_setFrames 29 = .ok (.putfield 203, 3) := by decide +kernel
theorem dX10_setFrames_32 : decode cX10_setFrames 32 = .ok (.aload_n 0, 1) := by decide +kernel
theorem dX10_setFrames_33 : decode cX10_setFrames 33 = .ok (.iload_n 1, 1) := by decide +kernel
theorem dX10_setFrames_34 : decode cX10_setFrames 34 = .ok (.putfield 81, 3) := by decide +kernel
theorem dX10_setFrames_37 : decode cX10_setFrames 37 = .ok (.iload_n 2, 1) := by decide +kernel
theorem dX10_setFrames_38 : decode cX10_setFrames 38 = .ok (.ireturn, 1) := by decide +kernel
theorem dX10_flush_0 : decode cX10_flush 0 = .ok (.aload_n 0, 1) := by decide +kernel
theorem dX10_flush_1 : decode cX10_flush 1 = .ok (.iconst 0, 1) := by decide +kernel
theorem dX10_flush_2 : decode cX10_flush 2 = .ok (.putfield 1, 3) := by decide +kernel
theorem dX10_flush_5 : decode cX10_flush 5 = .ok (.aload_n 0, 1) := by decide +kernel
theorem dX10_flush_6 : decode cX10_flush 6 = .ok (.invokevirtual 227, 3) := by decide +kernel
theorem dX10_flush_9 : decode cX10_flush 9 = .ok (.ireturn, 1) := by decide +kernel
theorem dX10_accumulator_0 : decode cX10_accumulator 0 = .ok (.aload_n 0, 1) := by decide +kernel
theorem dX10_accumulator_1 : decode cX10_accumulator 1 = .ok (.iconst 0, 1) := by decide +kernel
theorem dX10_accumulator_2 : decode cX10_accumulator 2 = .ok (.putfield 1, 3) := by decide +kernel
theorem dX10_accumulator_5 : decode cX10_accumulator 5 = .ok (.aload_n 0, 1) := by decide +kernel
theorem dX10_accumulator_6 : decode cX10_accumulator 6 = .ok (.getfield 221, 3) := by decide +kernel
theorem dX10_accumulator_9 : decode cX10_accumulator 9 = .ok (.ireturn, 1) := by decide +kernel
theorem dX10_noAddress_0 : decode cX10_noAddress 0 = .ok (.aload_n 0, 1) := by decide +kernel
theorem dX10_noAddress_1 : decode cX10_noAddress 1 = .ok (.iload_n 1, 1) := by decide +kernel
theorem dX10_noAddress_2 : decode cX10_noAddress 2 = .ok (.iconst 0, 1) := by decide +kernel
theorem dX10_noAddress_3 : decode cX10_noAddress 3 = .ok (.bipush 63, 2) := by decide +kernel
theorem dX10_noAddress_5 : decode cX10_noAddress 5 = .ok (.invokestatic 84, 3) := by decide +kernel
theorem dX10_noAddress_8 : decode cX10_noAddress 8 = .ok (.iconst 1, 1) := by decide +kernel
theorem dX10_noAddress_9 : decode cX10_noAddress 9 = .ok (.invokevirtual 88, 3) := by decide +kernel
theorem dX10_noAddress_12 : decode cX10_noAddress 12 = .ok (.ireturn, 1) := by decide +kernel
theorem dX10_wordAt_0 : decode cX10_wordAt 0 = .ok (.aload_n 0, 1) := by decide +kernel
theorem dX10_wordAt_1 : decode cX10_wordAt 1 = .ok (.iconst 0, 1) := by decide +kernel
theorem dX10_wordAt_2 : decode cX10_wordAt 2 = .ok (.putfield 1, 3) := by decide +kernel
theorem dX10_wordAt_5 : decode cX10_wordAt 5 = .ok (.aload_n 0, 1) := by decide +kernel
theorem dX10_wordAt_6 : decode cX10_wordAt 6 = .ok (.iload_n 1, 1) := by decide +kernel
theorem dX10_wordAt_7 : decode cX10_wordAt 7 = .ok (.invokevirtual 230, 3) := by decide +kernel
theorem dX10_wordAt_10 : decode cX10_wordAt 10 = .ok (.ifCond .eq 7, 3) := by decide +kernel
theorem dX10_wordAt_13 : decode cX10_wordAt 13 = .ok (.iconst 0, 1) := by decide +kernel
theorem dX10_wordAt_14 : decode cX10_wordAt 14 = .ok (.goto 29, 3) := by decide +kernel
theorem dX10_wordAt_17 : decode cX10_wordAt 17 = .ok (.aload_n 0, 1) := by decide +kernel
theorem dX10_wordAt_18 : decode cX10_wordAt 18 = .ok (.iload_n 1, 1) := by decide +kernel
theorem dX10_wordAt_19 : decode cX10_wordAt 19 = .ok (.iconst 4, 1) := by decide +kernel
theorem dX10_wordAt_20 : decode cX10_wordAt 20 = .ok (.idiv, 1) := by decide +kernel
theorem dX10_wordAt_21 : decode cX10_wordAt 21 = .ok (.invokevirtual 209, 3) := by decide +kernel
theorem dX10_wordAt_24 : decode cX10_wordAt 24 = .ok (.iconst (-1), 1) := by decide +kernel
theorem dX10_wordAt_25 : decode cX10_wordAt 25 = .ok (.if_icmp .eq 12, 3) := by decide +kernel
theorem dX10_wordAt_28 : decode cX10_wordAt 28 = .ok (.aload_n 0, 1) := by decide +kernel
theorem dX10_wordAt_29 : decode cX10_wordAt 29 = .ok (.getfield 72, 3) := by decide +kernel
theorem dX10_wordAt_32 : decode cX10_wordAt 32 = .ok (.iload_n 1, 1) := by decide +kernel
theorem dX10_wordAt_33 : decode cX10_wordAt 33 = .ok (.iaload, 1) := by decide +kernel
theorem dX10_wordAt_34 : decode cX10_wordAt 34 = .ok (.goto 9, 3) := by decide +kernel
theorem dX10_wordAt_37 : decode cX10_wordAt 37 = .ok (.aload_n 0, 1) := by decide +kernel
theorem dX10_wordAt_38 : decode cX10_wordAt 38 = .ok (.getfield 69, 3) := by decide +kernel
theorem dX10_wordAt_41 : decode cX10_wordAt 41 = .ok (.iload_n 1, 1) := by decide +kernel
theorem dX10_wordAt_42 : decode cX10_wordAt 42 = .ok (.iaload, 1) := by decide +kernel
theorem dX10_wordAt_43 : decode cX10_wordAt 43 = .ok (.ireturn, 1) := by decide +kernel
theorem dX10_discAt_0 : decode cX10_discAt 0 = .ok (.aload_n 0, 1) := by decide +kernel
theorem dX10_discAt_1 : decode cX10_discAt 1 = .ok (.iconst 0, 1) := by decide +kernel
theorem dX10_discAt_2 : decode cX10_discAt 2 = .ok (.putfield 1, 3) := by decide +kernel
theorem dX10_discAt_5 : decode cX10_discAt 5 = .ok (.aload_n 0, 1) := by decide +kernel
theorem dX10_discAt_6 : decode cX10_discAt 6 = .ok (.iload_n 1, 1) := by decide +kernel
theorem dX10_discAt_7 : decode cX10_discAt 7 = .ok (.invokevirtual 230, 3) := by decide +kernel
theorem dX10_discAt_10 : decode cX10_discAt 10 = .ok (.ifCond .eq 7, 3) := by decide +kernel
theorem dX10_discAt_13 : decode cX10_discAt 13 = .ok (.iconst 0, 1) := by decide +kernel
theorem dX10_discAt_14 : decode cX10_discAt 14 = .ok (.goto 9, 3) := by decide +kernel
theorem dX10_discAt_17 : decode cX10_discAt 17 = .ok (.aload_n 0, 1) := by decide +kernel
theorem dX10_discAt_18 : decode cX10_discAt 18 = .ok (.getfield 69, 3) := by decide +kernel
theorem dX10_discAt_21 : decode cX10_discAt 21 = .ok (.iload_n 1, 1) := by decide +kernel
theorem dX10_discAt_22 : decode cX10_discAt 22 = .ok (.iaload, 1) := by decide +kernel
theorem dX10_discAt_23 : decode cX10_discAt 23 = .ok (.ireturn, 1) := by decide +kernel
theorem dX10_resident_0 : decode cX10_resident 0 = .ok (.aload_n 0, 1) := by decide +kernel
theorem dX10_resident_1 : decode cX10_resident 1 = .ok (.iconst 0, 1) := by decide +kernel
theorem dX10_resident_2 : decode cX10_resident 2 = .ok (.putfield 1, 3) := by decide +kernel
theorem dX10_resident_5 : decode cX10_resident 5 = .ok (.aload_n 0, 1) := by decide +kernel
theorem dX10_resident_6 : decode cX10_resident 6 = .ok (.getfield 203, 3) := by decide +kernel
theorem dX10_resident_9 : decode cX10_resident 9 = .ok (.ireturn, 1) := by decide +kernel
theorem dX10_residentAt_0 : decode cX10_residentAt 0 = .ok (.aload_n 0, 1) := by decide +kernel
theorem dX10_residentAt_1 : decode cX10_residentAt 1 = .ok (.iconst 0, 1) := by decide +kernel
theorem dX10_residentAt_2 : decode cX10_residentAt 2 = .ok (.putfield 1, 3) := by decide +kernel
theorem dX10_residentAt_5 : decode cX10_residentAt 5 = .ok (.aload_n 0, 1) := by decide +kernel
theorem dX10_residentAt_6 : decode cX10_residentAt 6 = .ok (.iload_n 1, 1) := by decide +kernel
theorem dX10_residentAt_7 : decode cX10_residentAt 7 = .ok (.iconst 0, 1) := by decide +kernel
theorem dX10_residentAt_8 : decode cX10_residentAt 8 = .ok (.aload_n 0, 1) := by decide +kernel
theorem dX10_residentAt_9 : decode cX10_residentAt 9 = .ok (.getfield 203, 3) := by decide +kernel
theorem dX10_residentAt_12 : decode cX10_residentAt 12 = .ok (.iconst 1, 1) := by decide +kernel
theorem dX10_residentAt_13 : decode cX10_residentAt 13 = .ok (.isub, 1) := by decide +kernel
theorem dX10_residentAt_14 : decode cX10_residentAt 14 = .ok (.invokestatic 84, 3) := by decide +kernel
theorem dX10_residentAt_17 : decode cX10_residentAt 17 = .ok (.iconst 1, 1) := by decide +kernel
theorem dX10_residentAt_18 : decode cX10_residentAt 18 = .ok (.invokevirtual 88, 3) := by decide +kernel
theorem dX10_residentAt_21 : decode cX10_residentAt 21 = .ok (.ifCond .eq 7, 3) := by decide +kernel
theorem dX10_residentAt_24 : decode cX10_residentAt 24 = .ok (.iconst 0, 1) := by decide +kernel
theorem dX10_residentAt_25 : decode cX10_residentAt 25 = .ok (.goto 9, 3) := by decide +kernel
theorem dX10_residentAt_28 : decode cX10_residentAt 28 = .ok (.aload_n 0, 1) := by decide +kernel
theorem dX10_residentAt_29 : decode cX10_residentAt 29 = .ok (.getfield 75, 3) := by decide +kernel
theorem dX10_residentAt_32 : decode cX10_residentAt 32 = .ok (.iload_n 1, 1) := by decide +kernel
theorem dX10_residentAt_33 : decode cX10_residentAt 33 = .ok (.iaload, 1) := by decide +kernel
theorem dX10_residentAt_34 : decode cX10_residentAt 34 = .ok (.ireturn, 1) := by decide +kernel
theorem dX10_isDirty_0 : decode cX10_isDirty 0 = .ok (.aload_n 0, 1) := by decide +kernel
theorem dX10_isDirty_1 : decode cX10_isDirty 1 = .ok (.iconst 0, 1) := by decide +kernel
theorem dX10_isDirty_2 : decode cX10_isDirty 2 = .ok (.putfield 1, 3) := by decide +kernel
theorem dX10_isDirty_5 : decode cX10_isDirty 5 = .ok (.aload_n 0, 1) := by decide +kernel
theorem dX10_isDirty_6 : decode cX10_isDirty 6 = .ok (.iload_n 1, 1) := by decide +kernel
theorem dX10_isDirty_7 : decode cX10_isDirty 7 = .ok (.iconst 0, 1) := by decide +kernel
theorem dX10_isDirty_8 : decode cX10_isDirty 8 = .ok (.bipush 15, 2) := by decide +kernel
theorem dX10_isDirty_10 : decode cX10_isDirty 10 = .ok (.invokestatic 84, 3) := by decide +kernel
theorem dX10_isDirty_13 : decode cX10_isDirty 13 = .ok (.iconst 1, 1) := by decide +kernel
theorem dX10_isDirty_14 : decode cX10_isDirty 14 = .ok (.invokevirtual 88, 3) := by decide +kernel
theorem dX10_isDirty_17 : decode cX10_isDirty 17 = .ok (.ifCond .ne 16, 3) := by decide +kernel
theorem dX10_isDirty_20 : decode cX10_isDirty 20 = .ok (.aload_n 0, 1) := by decide +kernel
theorem dX10_isDirty_21 : decode cX10_isDirty 21 = .ok (.getfield 78, 3) := by decide +kernel
theorem dX10_isDirty_24 : decode cX10_isDirty 24 = .ok (.iload_n 1, 1) := by decide +kernel
theorem dX10_isDirty_25 : decode cX10_isDirty 25 = .ok (.baload, 1) := by decide +kernel
theorem dX10_isDirty_26 : decode cX10_isDirty 26 = .ok (.ifCond .eq 7, 3) := by decide +kernel
theorem dX10_isDirty_29 : decode cX10_isDirty 29 = .ok (.iconst 1, 1) := by decide +kernel
theorem dX10_isDirty_30 : decode cX10_isDirty 30 = .ok (.goto 4, 3) := by decide +kernel
theorem dX10_isDirty_33 : decode cX10_isDirty 33 = .ok (.iconst 0, 1) := by decide +kernel
theorem dX10_isDirty_34 : decode cX10_isDirty 34 = .ok (.ireturn, 1) := by decide +kernel
theorem dX10_faults_0 : decode cX10_faults 0 = .ok (.aload_n 0, 1) := by decide +kernel
theorem dX10_faults_1 : decode cX10_faults 1 = .ok (.iconst 0, 1) := by decide +kernel
theorem dX10_faults_2 : decode cX10_faults 2 = .ok (.putfield 1, 3) := by decide +kernel
theorem dX10_faults_5 : decode cX10_faults 5 = .ok (.aload_n 0, 1) := by decide +kernel
theorem dX10_faults_6 : decode cX10_faults 6 = .ok (.getfield 215, 3) := by decide +kernel
theorem dX10_faults_9 : decode cX10_faults 9 = .ok (.ireturn, 1) := by decide +kernel
theorem dX10_writes_0 : decode cX10_writes 0 = .ok (.aload_n 0, 1) := by decide +kernel
theorem dX10_writes_1 : decode cX10_writes 1 = .ok (.iconst 0, 1) := by decide +kernel
theorem dX10_writes_2 : decode cX10_writes 2 = .ok (.putfield 1, 3) := by decide +kernel
theorem dX10_writes_5 : decode cX10_writes 5 = .ok (.aload_n 0, 1) := by decide +kernel
theorem dX10_writes_6 : decode cX10_writes 6 = .ok (.getfield 206, 3) := by decide +kernel
theorem dX10_writes_9 : decode cX10_writes 9 = .ok (.ireturn, 1) := by decide +kernel
theorem dX10_hitShare_0 : decode cX10_hitShare 0 = .ok (.aload_n 0, 1) := by decide +kernel
theorem dX10_hitShare_1 : decode cX10_hitShare 1 = .ok (.iconst 0, 1) := by decide +kernel
theorem dX10_hitShare_2 : decode cX10_hitShare 2 = .ok (.putfield 1, 3) := by decide +kernel
theorem dX10_hitShare_5 : decode cX10_hitShare 5 = .ok (.aload_n 0, 1) := by decide +kernel
theorem dX10_hitShare_6 : decode cX10_hitShare 6 = .ok (.iload_n 1, 1) := by decide +kernel
theorem dX10_hitShare_7 : decode cX10_hitShare 7 = .ok (.invokevirtual 141, 3) := by decide +kernel
theorem dX10_hitShare_10 : decode cX10_hitShare 10 = .ok (.ifCond .ne 10, 3) := by decide +kernel
theorem dX10_hitShare_13 : decode cX10_hitShare 13 = .ok (.aload_n 0, 1) := by decide +kernel
theorem dX10_hitShare_14 : decode cX10_hitShare 14 = .ok (.getfield 127, 3) := by decide +kernel
theorem dX10_hitShare_17 : decode cX10_hitShare 17 = .ok (.ifCond .ne 5, 3) := by decide +kernel
theorem dX10_hitShare_20 : decode cX10_hitShare 20 = .ok (.fconst 0, 1) := by decide +kernel
theorem dX10_hitShare_21 : decode cX10_hitShare 21 = .ok (.freturn, 1) := by decide +kernel
theorem dX10_hitShare_22 : decode cX10_hitShare 22 = .ok (.aload_n 0, 1) := by decide +kernel
theorem dX10_hitShare_23 : decode cX10_hitShare 23 = .ok (.getfield 42, 3) := by decide +kernel
theorem dX10_hitShare_26 : decode cX10_hitShare 26 = .ok (.iload_n 1, 1) := by decide +kernel
theorem dX10_hitShare_27 : decode cX10_hitShare 27 = .ok (.iaload, 1) := by decide +kernel
theorem dX10_hitShare_28 : decode cX10_hitShare 28 = .ok (.i2f, 1) := by decide +kernel
theorem dX10_hitShare_29 : decode cX10_hitShare 29 = .ok (.aload_n 0, 1) := by decide +kernel
theorem dX10_hitShare_30 : decode cX10_hitShare 30 = .ok (.getfield 127, 3) := by decide +kernel
theorem dX10_hitShare_33 : decode cX10_hitShare 33 = .ok (.i2f, 1) := by decide +kernel
theorem dX10_hitShare_34 : decode cX10_hitShare 34 = .ok (.fdiv, 1) := by decide +kernel
theorem dX10_hitShare_35 : decode cX10_hitShare 35 = .ok (.freturn, 1) := by decide +kernel
theorem dX10_meanDistance_0 : decode cX10_meanDistance 0 = .ok (.aload_n 0, 1) := by decide +kernel
theorem dX10_meanDistance_1 : decode cX10_meanDistance 1 = .ok (.iconst 0, 1) := by decide +kernel
theorem dX10_meanDistance_2 : decode cX10_meanDistance 2 = .ok (.putfield 1, 3) := by decide +kernel
theorem dX10_meanDistance_5 : decode cX10_meanDistance 5 = .ok (.iconst 0, 1) := by decide +kernel
theorem dX10_meanDistance_6 : decode cX10_meanDistance 6 = .ok (.istore_n 1, 1) := by decide +kernel
theorem dX10_meanDistance_7 : decode cX10_meanDistance 7 = .ok (.iconst 0, 1) := by decide +kernel
theorem dX10_meanDistance_8 : decode cX10_meanDistance 8 = .ok (.istore_n 2, 1) := by decide +kernel
theorem dX10_meanDistance_9 : decode cX10_meanDistance 9 = .ok (.iconst 0, 1) := by decide +kernel
theorem dX10_meanDistance_10 : decode cX10_meanDistance 10 = .ok (.istore_n 3, 1) := by decide +kernel
theorem dX10_meanDistance_11 : decode cX10_meanDistance 11 = .ok (.iload_n 3, 1) := by decide +kernel
theorem dX10_meanDistance_12 : decode cX10_meanDistance 12 = .ok (.aload_n 0, 1) := by decide +kernel
theorem dX10_meanDistance_13 : decode cX10_meanDistance 13 = .ok (.getfield 127, 3) := by decide +kernel
theorem dX10_meanDistance_16 : decode cX10_meanDistance 16 = .ok (.if_icmp .ge 45, 3) := by decide +kernel
theorem dX10_meanDistance_19 : decode cX10_meanDistance 19 = .ok (.aload_n 0, 1) := by decide +kernel
theorem dX10_meanDistance_20 : decode cX10_meanDistance 20 = .ok (.iload_n 3, 1) := by decide +kernel
theorem dX10_meanDistance_21 : decode cX10_meanDistance 21 = .ok (.invokevirtual 147, 3) := by decide +kernel
theorem dX10_meanDistance_24 : decode cX10_meanDistance 24 = .ok (.istore 4, 2) := by decide +kernel
theorem dX10_meanDistance_26 : decode cX10_meanDistance 26 = .ok (.iload_n 1, 1) := by decide +kernel
theorem dX10_meanDistance_27 : decode cX10_meanDistance 27 = .ok (.iload 4, 2) := by decide +kernel
theorem dX10_meanDistance_29 : decode cX10_meanDistance 29 = .ok (.iconst (-1), 1) := by decide +kernel
theorem dX10_meanDistance_30 : decode cX10_meanDistance 30 = .ok (.if_icmp .ne 7, 3) := by decide +kernel
theorem dX10_meanDistance_33 : decode cX10_meanDistance 33 = .ok (.iconst 0, 1) := by decide +kernel
theorem dX10_meanDistance_34 : decode cX10_meanDistance 34 = .ok (.goto 5, 3) := by decide +kernel
theorem dX10_meanDistance_37 : decode cX10_meanDistance 37 = .ok (.iload 4, 2) := by decide +kernel
theorem dX10_meanDistance_39 : decode cX10_meanDistance 39 = .ok (.iadd, 1) := by decide +kernel
theorem dX10_meanDistance_40 : decode cX10_meanDistance 40 = .ok (.istore_n 1, 1) := by decide +kernel
theorem dX10_meanDistance_41 : decode cX10_meanDistance 41 = .ok (.iload_n 2, 1) := by decide +kernel
theorem dX10_meanDistance_42 : decode cX10_meanDistance 42 = .ok (.iload 4, 2) := by decide +kernel
theorem dX10_meanDistance_44 : decode cX10_meanDistance 44 = .ok (.iconst (-1), 1) := by decide +kernel
theorem dX10_meanDistance_45 : decode cX10_meanDistance 45 = .ok (.if_icmp .ne 7, 3) := by decide +kernel
theorem dX10_meanDistance_48 : decode cX10_meanDistance 48 = .ok (.iconst 0, 1) := by decide +kernel
theorem dX10_meanDistance_49 : decode cX10_meanDistance 49 = .ok (.goto 4, 3) := by decide +kernel
theorem dX10_meanDistance_52 : decode cX10_meanDistance 52 = .ok (.iconst 1, 1) := by decide +kernel
theorem dX10_meanDistance_53 : decode cX10_meanDistance 53 = .ok (.iadd, 1) := by decide +kernel
theorem dX10_meanDistance_54 : decode cX10_meanDistance 54 = .ok (.istore_n 2, 1) := by decide +kernel
theorem dX10_meanDistance_55 : decode cX10_meanDistance 55 = .ok (.iinc 3 1, 3) := by decide +kernel
theorem dX10_meanDistance_58 : decode cX10_meanDistance 58 = .ok (.goto (-47), 3) := by decide +kernel
theorem dX10_meanDistance_61 : decode cX10_meanDistance 61 = .ok (.iload_n 2, 1) := by decide +kernel
theorem dX10_meanDistance_62 : decode cX10_meanDistance 62 = .ok (.ifCond .ne 7, 3) := by decide +kernel
theorem dX10_meanDistance_65 : decode cX10_meanDistance 65 = .ok (.dconst 0, 1) := by decide +kernel
theorem dX10_meanDistance_66 : decode cX10_meanDistance 66 = .ok (.goto 8, 3) := by decide +kernel
theorem dX10_meanDistance_69 : decode cX10_meanDistance 69 = .ok (.iload_n 1, 1) := by decide +kernel
theorem dX10_meanDistance_70 : decode cX10_meanDistance 70 = .ok (.i2d, 1) := by decide +kernel
theorem dX10_meanDistance_71 : decode cX10_meanDistance 71 = .ok (.iload_n 2, 1) := by decide +kernel
theorem dX10_meanDistance_72 : decode cX10_meanDistance 72 = .ok (.i2d, 1) := by decide +kernel
theorem dX10_meanDistance_73 : decode cX10_meanDistance 73 = .ok (.ddiv, 1) := by decide +kernel
theorem dX10_meanDistance_74 : decode cX10_meanDistance 74 = .ok (.dreturn, 1) := by decide +kernel
theorem dX10_errors_0 : decode cX10_errors 0 = .ok (.aload_n 0, 1) := by decide +kernel
theorem dX10_errors_1 : decode cX10_errors 1 = .ok (.iconst 0, 1) := by decide +kernel
theorem dX10_errors_2 : decode cX10_errors 2 = .ok (.putfield 1, 3) := by decide +kernel
theorem dX10_errors_5 : decode cX10_errors 5 = .ok (.iconst 0, 1) := by decide +kernel
theorem dX10_errors_6 : decode cX10_errors 6 = .ok (.istore_n 1, 1) := by decide +kernel
theorem dX10_errors_7 : decode cX10_errors 7 = .ok (.iconst 1, 1) := by decide +kernel
theorem dX10_errors_8 : decode cX10_errors 8 = .ok (.istore_n 2, 1) := by decide +kernel
theorem dX10_errors_9 : decode cX10_errors 9 = .ok (.iload_n 2, 1) := by decide +kernel
theorem dX10_errors_10 : decode cX10_errors 10 = .ok (.bipush 8, 2) := by decide +kernel
theorem dX10_errors_12 : decode cX10_errors 12 = .ok (.if_icmp .gt 98, 3) := by decide +kernel
theorem dX10_errors_15 : decode cX10_errors 15 = .ok (.aload_n 0, 1) := by decide +kernel
theorem dX10_errors_16 : decode cX10_errors 16 = .ok (.getfield 42, 3) := by decide +kernel
theorem dX10_errors_19 : decode cX10_errors 19 = .ok (.iload_n 2, 1) := by decide +kernel
theorem dX10_errors_20 : decode cX10_errors 20 = .ok (.iaload, 1) := by decide +kernel
theorem dX10_errors_21 : decode cX10_errors 21 = .ok (.aload_n 0, 1) := by decide +kernel
theorem dX10_errors_22 : decode cX10_errors 22 = .ok (.iload_n 2, 1) := by decide +kernel
theorem dX10_errors_23 : decode cX10_errors 23 = .ok (.invokevirtual 150, 3) := by decide +kernel
theorem dX10_errors_26 : decode cX10_errors 26 = .ok (.if_icmp .ne 7, 3) := by decide +kernel
theorem dX10_errors_29 : decode cX10_errors 29 = .ok (.iconst 1, 1) := by decide +kernel
theorem dX10_errors_30 : decode cX10_errors 30 = .ok (.goto 4, 3) := by decide +kernel
theorem dX10_errors_33 : decode cX10_errors 33 = .ok (.iconst 0, 1) := by decide +kernel
theorem dX10_errors_34 : decode cX10_errors 34 = .ok (.istore_n 3, 1) := by decide +kernel
theorem dX10_errors_35 : decode cX10_errors 35 = .ok (.iconst 0, 1) := by decide +kernel
theorem dX10_errors_36 : decode cX10_errors 36 = .ok (.istore 4, 2) := by decide +kernel
theorem dX10_errors_38 : decode cX10_errors 38 = .ok (.iload 4, 2) := by decide +kernel
theorem dX10_errors_40 : decode cX10_errors 40 = .ok (.aload_n 0, 1) := by decide +kernel
theorem dX10_errors_41 : decode cX10_errors 41 = .ok (.getfield 39, 3) := by decide +kernel
theorem dX10_errors_44 : decode cX10_errors 44 = .ok (.iload_n 2, 1) := by decide +kernel
theorem dX10_errors_45 : decode cX10_errors 45 = .ok (.iaload, 1) := by decide +kernel
theorem dX10_errors_46 : decode cX10_errors 46 = .ok (.if_icmp .ge 46, 3) := by decide +kernel
theorem dX10_errors_49 : decode cX10_errors 49 = .ok (.iload_n 2, 1) := by decide +kernel
theorem dX10_errors_50 : decode cX10_errors 50 = .ok (.bipush 8, 2) := by decide +kernel
theorem dX10_errors_52 : decode cX10_errors 52 = .ok (.if_icmp .ge 40, 3) := by decide +kernel
theorem dX10_errors_55 : decode cX10_errors 55 = .ok (.iload_n 3, 1) := by decide +kernel
theorem dX10_errors_56 : decode cX10_errors 56 = .ok (.aload_n 0, 1) := by decide +kernel
theorem dX10_errors_57 : decode cX10_errors 57 = .ok (.iload_n 2, 1) := by decide +kernel
theorem dX10_errors_58 : decode cX10_errors 58 = .ok (.iconst 1, 1) := by decide +kernel
theorem dX10_errors_59 : decode cX10_errors 59 = .ok (.iadd, 1) := by decide +kernel
theorem dX10_errors_60 : decode cX10_errors 60 = .ok (.aload_n 0, 1) := by decide +kernel
theorem dX10_errors_61 : decode cX10_errors 61 = .ok (.getfield 36, 3) := by decide +kernel
theorem dX10_errors_64 : decode cX10_errors 64 = .ok (.bipush 9, 2) := by decide +kernel
theorem dX10_errors_66 : decode cX10_errors 66 = .ok (.iload_n 2, 1) := by decide +kernel
theorem dX10_errors_67 : decode cX10_errors 67 = .ok (.imul, 1) := by decide +kernel
theorem dX10_errors_68 : decode cX10_errors 68 = .ok (.iload 4, 2) := by decide +kernel
theorem dX10_errors_70 : decode cX10_errors 70 = .ok (.iadd, 1) := by decide +kernel
theorem dX10_errors_71 : decode cX10_errors 71 = .ok (.iaload, 1) := by decide +kernel
theorem dX10_errors_72 : decode cX10_errors 72 = .ok (.invokevirtual 130, 3) := by decide +kernel
theorem dX10_errors_75 : decode cX10_errors 75 = .ok (.iconst (-1), 1) := by decide +kernel
theorem dX10_errors_76 : decode cX10_errors 76 = .ok (.if_icmp .eq 7, 3) := by decide +kernel
theorem dX10_errors_79 : decode cX10_errors 79 = .ok (.iconst 1, 1) := by decide +kernel
theorem dX10_errors_80 : decode cX10_errors 80 = .ok (.goto 4, 3) := by decide +kernel
theorem dX10_errors_83 : decode cX10_errors 83 = .ok (.iconst 0, 1) := by decide +kernel
theorem dX10_errors_84 : decode cX10_errors 84 = .ok (.iand, 1) := by decide +kernel
theorem dX10_errors_85 : decode cX10_errors 85 = .ok (.istore_n 3, 1) := by decide +kernel
theorem dX10_errors_86 : decode cX10_errors 86 = .ok (.iinc 4 1, 3) := by decide +kernel
theorem dX10_errors_89 : decode cX10_errors 89 = .ok (.goto (-51), 3) := by decide +kernel
theorem dX10_errors_92 : decode cX10_errors 92 = .ok (.iload_n 1, 1) := by decide +kernel
theorem dX10_errors_93 : decode cX10_errors 93 = .ok (.iload_n 3, 1) := by decide +kernel
theorem dX10_errors_94 : decode cX10_errors 94 = .ok (.ifCond .eq 7, 3) := by decide +kernel
theorem dX10_errors_97 : decode cX10_errors 97 = .ok (.iconst 0, 1) := by decide +kernel
theorem dX10_errors_98 : decode cX10_errors 98 = .ok (.goto 4, 3) := by decide +kernel
theorem dX10_errors_101 : decode cX10_errors 101 = .ok (.iconst 1, 1) := by decide +kernel
theorem dX10_errors_102 : decode cX10_errors 102 = .ok (.iadd, 1) := by decide +kernel
theorem dX10_errors_103 : decode cX10_errors 103 = .ok (.istore_n 1, 1) := by decide +kernel
theorem dX10_errors_104 : decode cX10_errors 104 = .ok (.iinc 2 1, 3) := by decide +kernel
theorem dX10_errors_107 : decode cX10_errors 107 = .ok (.goto (-98), 3) := by decide +kernel
theorem dX10_errors_110 : decode cX10_errors 110 = .ok (.iload_n 1, 1) := by decide +kernel
theorem dX10_errors_111 : decode cX10_errors 111 = .ok (.ireturn, 1) := by decide +kernel
end
section
theorem dL_put_0 : decode cL_put 0 = .ok (.aload 4, 2) := by decide +kernel
theorem dL_put_2 : decode cL_put 2 = .ok (.iconst 0, 1) := by decide +kernel
theorem dL_put_3 : decode cL_put 3 = .ok (.aload_n 0, 1) := by decide +kernel
theorem dL_put_4 : decode cL_put 4 = .ok (.iload_n 1, 1) := by decide +kernel
theorem dL_put_5 : decode cL_put 5 = .ok (.iload_n 2, 1) := by decide +kernel
theorem dL_put_6 : decode cL_put 6 = .ok (.iload_n 3, 1) := by decide +kernel
theorem dL_put_7 : decode cL_put 7 = .ok (.invokevirtual 7, 3) := by decide +kernel
theorem dL_put_10 : decode cL_put 10 = .ok (.i2l, 1) := by decide +kernel
theorem dL_put_11 : decode cL_put 11 = .ok (.lastore, 1) := by decide +kernel
theorem dL_put_12 : decode cL_put 12 = .ok (.goto 7, 3) := by decide +kernel
theorem dL_put_15 : decode cL_put 15 = .ok (.astore 5, 2) := by decide +kernel
theorem dL_put_17 : decode cL_put 17 = .ok (.iconst 1, 1) := by decide +kernel
theorem dL_put_18 : decode cL_put 18 = .ok (.ireturn, 1) := by decide +kernel
theorem dL_put_19 : decode cL_put 19 = .ok (.iconst 0, 1) := by decide +kernel
theorem dL_put_20 : decode cL_put 20 = .ok (.ireturn, 1) := by decide +kernel
theorem dL_putIfAbsent_0 : decode cL_putIfAbsent 0 = .ok (.aload 4, 2) := by decide +kernel
theorem dL_putIfAbsent_2 : decode cL_putIfAbsent 2 = .ok (.iconst 0, 1) := by decide +kernel
theorem dL_putIfAbsent_3 : decode cL_putIfAbsent 3 = .ok (.aload_n 0, 1) := by decide +kernel
theorem dL_putIfAbsent_4 : decode cL_putIfAbsent 4 = .ok (.iload_n 1, 1) := by decide +kernel
theorem dL_putIfAbsent_5 : decode cL_putIfAbsent 5 = .ok (.iload_n 2, 1) := by decide +kernel
theorem dL_putIfAbsent_6 : decode cL_putIfAbsent 6 = .ok (.iload_n 3, 1) := by decide +kernel
theorem dL_putIfAbsent_7 : decode cL_putIfAbsent 7 = .ok (.invokevirtual 15, 3) := by decide +kernel
theorem dL_putIfAbsent_10 : decode cL_putIfAbsent 10 = .ok (.i2l, 1) := by decide +kernel
theorem dL_putIfAbsent_11 : decode cL_putIfAbsent 11 = .ok (.lastore, 1) := by decide +kernel
theorem dL_putIfAbsent_12 : decode cL_putIfAbsent 12 = .ok (.goto 7, 3) := by decide +kernel
theorem dL_putIfAbsent_15 : decode cL_putIfAbsent 15 = .ok (.astore 5, 2) := by decide +kernel
theorem dL_putIfAbsent_17 : decode cL_putIfAbsent 17 = .ok (.iconst 1, 1) := by decide +kernel
theorem dL_putIfAbsent_18 : decode cL_putIfAbsent 18 = .ok (.ireturn, 1) := by decide +kernel
theorem dL_putIfAbsent_19 : decode cL_putIfAbsent 19 = .ok (.iconst 0, 1) := by decide +kernel
theorem dL_putIfAbsent_20 : decode cL_putIfAbsent 20 = .ok (.ireturn, 1) := by decide +kernel
theorem dL_get_0 : decode cL_get 0 = .ok (.aload_n 3, 1) := by decide +kernel
theorem dL_get_1 : decode cL_get 1 = .ok (.iconst 0, 1) := by decide +kernel
theorem dL_get_2 : decode cL_get 2 = .ok (.aload_n 0, 1) := by decide +kernel
theorem dL_get_3 : decode cL_get 3 = .ok (.iload_n 1, 1) := by decide +kernel
theorem dL_get_4 : decode cL_get 4 = .ok (.iload_n 2, 1) := by decide +kernel
theorem dL_get_5 : decode cL_get 5 = .ok (.invokevirtual 18, 3) := by decide +kernel
theorem dL_get_8 : decode cL_get 8 = .ok (.i2l, 1) := by decide +kernel
theorem dL_get_9 : decode cL_get 9 = .ok (.lastore, 1) := by decide +kernel
theorem dL_get_10 : decode cL_get 10 = .ok (.goto 7, 3) := by decide +kernel
theorem dL_get_13 : decode cL_get 13 = .ok (.astore 4, 2) := by decide +kernel
theorem dL_get_15 : decode cL_get 15 = .ok (.iconst 1, 1) := by decide +kernel
theorem dL_get_16 : decode cL_get 16 = .ok (.ireturn, 1) := by decide +kernel
theorem dL_get_17 : decode cL_get 17 = .ok (.iconst 0, 1) := by decide +kernel
theorem dL_get_18 : decode cL_get 18 = .ok (.ireturn, 1) := by decide +kernel
theorem dL_getOrDefault_0 : decode cL_getOrDefault 0 = .ok (.aload 4, 2) := by decide +kernel
theorem dL_getOrDefault_2 : decode cL_getOrDefault 2 = .ok (.iconst 0, 1) := by decide +kernel
theorem dL_getOrDefault_3 : decode cL_getOrDefault 3 = .ok (.aload_n 0, 1) := by decide +kernel
theorem dL_getOrDefault_4 : decode cL_getOrDefault 4 = .ok (.iload_n 1, 1) := by decide +kernel
theorem dL_getOrDefault_5 : decode cL_getOrDefault 5 = .ok (.iload_n 2, 1) := by decide +kernel
theorem dL_getOrDefault_6 : decode cL_getOrDefault 6 = .ok (.iload_n 3, 1) := by decide +kernel
theorem dL_getOrDefault_7 : decode cL_getOrDefault 7 = .ok (.invokevirtual 22, 3) := by decide +kernel
theorem dL_getOrDefault_10 : decode cL_getOrDefault 10 = .ok (.i2l, 1) := by decide +kernel
theorem dL_getOrDefault_11 : decode cL_getOrDefault 11 = .ok (.lastore, 1) := by decide +kernel
theorem dL_getOrDefault_12 : decode cL_getOrDefault 12 = .ok (.goto 7, 3) := by decide +kernel
theorem dL_getOrDefault_15 : decode cL_getOrDefault 15 = .ok (.astore 5, 2) := by decide +kernel
theorem dL_getOrDefault_17 : decode cL_getOrDefault 17 = .ok (.iconst 1, 1) := by decide +kernel
theorem dL_getOrDefault_18 : decode cL_getOrDefault 18 = .ok (.ireturn, 1) := by decide +kernel
theorem dL_getOrDefault_19 : decode cL_getOrDefault 19 = .ok (.iconst 0, 1) := by decide +kernel
theorem dL_getOrDefault_20 : decode cL_getOrDefault 20 = .ok (.ireturn, 1) := by decide +kernel
theorem dL_remove_0 : decode cL_remove 0 = .ok (.aload_n 3, 1) := by decide +kernel
theorem dL_remove_1 : decode cL_remove 1 = .ok (.iconst 0, 1) := by decide +kernel
theorem dL_remove_2 : decode cL_remove 2 = .ok (.aload_n 0, 1) := by decide +kernel
theorem dL_remove_3 : decode cL_remove 3 = .ok (.iload_n 1, 1) := by decide +kernel
theorem dL_remove_4 : decode cL_remove 4 = .ok (.iload_n 2, 1) := by decide +kernel
theorem dL_remove_5 : decode cL_remove 5 = .ok (.invokevirtual 25, 3) := by decide +kernel
theorem dL_remove_8 : decode cL_remove 8 = .ok (.i2l, 1) := by decide +kernel
theorem dL_remove_9 : decode cL_remove 9 = .ok (.lastore, 1) := by decide +kernel
theorem dL_remove_10 : decode cL_remove 10 = .ok (.goto 7, 3) := by decide +kernel
theorem dL_remove_13 : decode cL_remove 13 = .ok (.astore 4, 2) := by decide +kernel
theorem dL_remove_15 : decode cL_remove 15 = .ok (.iconst 1, 1) := by decide +kernel
theorem dL_remove_16 : decode cL_remove 16 = .ok (.ireturn, 1) := by decide +kernel
theorem dL_remove_17 : decode cL_remove 17 = .ok (.iconst 0, 1) := by decide +kernel
theorem dL_remove_18 : decode cL_remove 18 = .ok (.ireturn, 1) := by decide +kernel
theorem dL_clear_0 : decode cL_clear 0 = .ok (.aload_n 2, 1) := by decide +kernel
theorem dL_clear_1 : decode cL_clear 1 = .ok (.iconst 0, 1) := by decide +kernel
theorem dL_clear_2 : decode cL_clear 2 = .ok (.aload_n 0, 1) := by decide +kernel
theorem dL_clear_3 : decode cL_clear 3 = .ok (.iload_n 1, 1) := by decide +kernel
theorem dL_clear_4 : decode cL_clear 4 = .ok (.invokevirtual 28, 3) := by decide +kernel
theorem dL_clear_7 : decode cL_clear 7 = .ok (.i2l, 1) := by decide +kernel
theorem dL_clear_8 : decode cL_clear 8 = .ok (.lastore, 1) := by decide +kernel
theorem dL_clear_9 : decode cL_clear 9 = .ok (.goto 6, 3) := by decide +kernel
theorem dL_clear_12 : decode cL_clear 12 = .ok (.astore_n 3, 1) := by decide +kernel
theorem dL_clear_13 : decode cL_clear 13 = .ok (.iconst 1, 1) := by decide +kernel
theorem dL_clear_14 : decode cL_clear 14 = .ok (.ireturn, 1) := by decide +kernel
theorem dL_clear_15 : decode cL_clear 15 = .ok (.iconst 0, 1) := by decide +kernel
theorem dL_clear_16 : decode cL_clear 16 = .ok (.ireturn, 1) := by decide +kernel
theorem dL_setBound_0 : decode cL_setBound 0 = .ok (.aload_n 2, 1) := by decide +kernel
theorem dL_setBound_1 : decode cL_setBound 1 = .ok (.iconst 0, 1) := by decide +kernel
theorem dL_setBound_2 : decode cL_setBound 2 = .ok (.aload_n 0, 1) := by decide +kernel
theorem dL_setBound_3 : decode cL_setBound 3 = .ok (.iload_n 1, 1) := by decide +kernel
theorem dL_setBound_4 : decode cL_setBound 4 = .ok (.invokevirtual 32, 3) := by decide +kernel
theorem dL_setBound_7 : decode cL_setBound 7 = .ok (.i2l, 1) := by decide +kernel
theorem dL_setBound_8 : decode cL_setBound 8 = .ok (.lastore, 1) := by decide +kernel
theorem dL_setBound_9 : decode cL_setBound 9 = .ok (.goto 6, 3) := by decide +kernel
theorem dL_setBound_12 : decode cL_setBound 12 = .ok (.astore_n 3, 1) := by decide +kernel
theorem dL_setBound_13 : decode cL_setBound 13 = .ok (.iconst 1, 1) := by decide +kernel
theorem dL_setBound_14 : decode cL_setBound 14 = .ok (.ireturn, 1) := by decide +kernel
theorem dL_setBound_15 : decode cL_setBound 15 = .ok (.iconst 0, 1) := by decide +kernel
theorem dL_setBound_16 : decode cL_setBound 16 = .ok (.ireturn, 1) := by decide +kernel
theorem dL_hasKey_0 : decode cL_hasKey 0 = .ok (.aload_n 3, 1) := by decide +kernel
theorem dL_hasKey_1 : decode cL_hasKey 1 = .ok (.iconst 0, 1) := by decide +kernel
theorem dL_hasKey_2 : decode cL_hasKey 2 = .ok (.aload_n 0, 1) := by decide +kernel
theorem dL_hasKey_3 : decode cL_hasKey 3 = .ok (.iload_n 1, 1) := by decide +kernel
theorem dL_hasKey_4 : decode cL_hasKey 4 = .ok (.iload_n 2, 1) := by decide +kernel
theorem dL_hasKey_5 : decode cL_hasKey 5 = .ok (.invokevirtual 35, 3) := by decide +kernel
theorem dL_hasKey_8 : decode cL_hasKey 8 = .ok (.ifCond .eq 7, 3) := by decide +kernel
theorem dL_hasKey_11 : decode cL_hasKey 11 = .ok (.lconst 1, 1) := by decide +kernel
theorem dL_hasKey_12 : decode cL_hasKey 12 = .ok (.goto 4, 3) := by decide +kernel
theorem dL_hasKey_15 : decode cL_hasKey 15 = .ok (.lconst 0, 1) := by decide +kernel
theorem dL_hasKey_16 : decode cL_hasKey 16 = .ok (.lastore, 1) := by decide +kernel
theorem dL_hasKey_17 : decode cL_hasKey 17 = .ok (.goto 7, 3) := by decide +kernel
theorem dL_hasKey_20 : decode cL_hasKey 20 = .ok (.astore 4, 2) := by decide +kernel
theorem dL_hasKey_22 : decode cL_hasKey 22 = .ok (.iconst 1, 1) := by decide +kernel
theorem dL_hasKey_23 : decode cL_hasKey 23 = .ok (.ireturn, 1) := by decide +kernel
theorem dL_hasKey_24 : decode cL_hasKey 24 = .ok (.iconst 0, 1) := by decide +kernel
theorem dL_hasKey_25 : decode cL_hasKey 25 = .ok (.ireturn, 1) := by decide +kernel
theorem dL_hasValue_0 : decode cL_hasValue 0 = .ok (.aload_n 3, 1) := by decide +kernel
theorem dL_hasValue_1 : decode cL_hasValue 1 = .ok (.iconst 0, 1) := by decide +kernel
theorem dL_hasValue_2 : decode cL_hasValue 2 = .ok (.aload_n 0, 1) := by decide +kernel
theorem dL_hasValue_3 : decode cL_hasValue 3 = .ok (.iload_n 1, 1) := by decide +kernel
theorem dL_hasValue_4 : decode cL_hasValue 4 = .ok (.iload_n 2, 1) := by decide +kernel
theorem dL_hasValue_5 : decode cL_hasValue 5 = .ok (.invokevirtual 39, 3) := by decide +kernel
theorem dL_hasValue_8 : decode cL_hasValue 8 = .ok (.ifCond .eq 7, 3) := by decide +kernel
theorem dL_hasValue_11 : decode cL_hasValue 11 = .ok (.lconst 1, 1) := by decide +kernel
theorem dL_hasValue_12 : decode cL_hasValue 12 = .ok (.goto 4, 3) := by decide +kernel
theorem dL_hasValue_15 : decode cL_hasValue 15 = .ok (.lconst 0, 1) := by decide +kernel
theorem dL_hasValue_16 : decode cL_hasValue 16 = .ok (.lastore, 1) := by decide +kernel
theorem dL_hasValue_17 : decode cL_hasValue 17 = .ok (.goto 7, 3) := by decide +kernel
theorem dL_hasValue_20 : decode cL_hasValue 20 = .ok (.astore 4, 2) := by decide +kernel
theorem dL_hasValue_22 : decode cL_hasValue 22 = .ok (.iconst 1, 1) := by decide +kernel
theorem dL_hasValue_23 : decode cL_hasValue 23 = .ok (.ireturn, 1) := by decide +kernel
theorem dL_hasValue_24 : decode cL_hasValue 24 = .ok (.iconst 0, 1) := by decide +kernel
theorem dL_hasValue_25 : decode cL_hasValue 25 = .ok (.ireturn, 1) := by decide +kernel
theorem dL_size_0 : decode cL_size 0 = .ok (.aload_n 2, 1) := by decide +kernel
theorem dL_size_1 : decode cL_size 1 = .ok (.iconst 0, 1) := by decide +kernel
theorem dL_size_2 : decode cL_size 2 = .ok (.aload_n 0, 1) := by decide +kernel
theorem dL_size_3 : decode cL_size 3 = .ok (.iload_n 1, 1) := by decide +kernel
theorem dL_size_4 : decode cL_size 4 = .ok (.invokevirtual 42, 3) := by decide +kernel
theorem dL_size_7 : decode cL_size 7 = .ok (.i2l, 1) := by decide +kernel
theorem dL_size_8 : decode cL_size 8 = .ok (.lastore, 1) := by decide +kernel
theorem dL_size_9 : decode cL_size 9 = .ok (.goto 6, 3) := by decide +kernel
theorem dL_size_12 : decode cL_size 12 = .ok (.astore_n 3, 1) := by decide +kernel
theorem dL_size_13 : decode cL_size 13 = .ok (.iconst 1, 1) := by decide +kernel
theorem dL_size_14 : decode cL_size 14 = .ok (.ireturn, 1) := by decide +kernel
theorem dL_size_15 : decode cL_size 15 = .ok (.iconst 0, 1) := by decide +kernel
theorem dL_size_16 : decode cL_size 16 = .ok (.ireturn, 1) := by decide +kernel
theorem dL_keyAt_0 : decode cL_keyAt 0 = .ok (.aload_n 3, 1) := by decide +kernel
theorem dL_keyAt_1 : decode cL_keyAt 1 = .ok (.iconst 0, 1) := by decide +kernel
theorem dL_keyAt_2 : decode cL_keyAt 2 = .ok (.aload_n 0, 1) := by decide +kernel
theorem dL_keyAt_3 : decode cL_keyAt 3 = .ok (.iload_n 1, 1) := by decide +kernel
theorem dL_keyAt_4 : decode cL_keyAt 4 = .ok (.iload_n 2, 1) := by decide +kernel
theorem dL_keyAt_5 : decode cL_keyAt 5 = .ok (.invokevirtual 45, 3) := by decide +kernel
theorem dL_keyAt_8 : decode cL_keyAt 8 = .ok (.i2l, 1) := by decide +kernel
theorem dL_keyAt_9 : decode cL_keyAt 9 = .ok (.lastore, 1) := by decide +kernel
theorem dL_keyAt_10 : decode cL_keyAt 10 = .ok (.goto 11, 3) := by decide +kernel
theorem dL_keyAt_13 : decode cL_keyAt 13 = .ok (.astore 4, 2) := by decide +kernel
theorem dL_keyAt_15 : decode cL_keyAt 15 = .ok (.iconst 1, 1) := by decide +kernel
theorem dL_keyAt_16 : decode cL_keyAt 16 = .ok (.ireturn, 1) := by decide +kernel
theorem dL_keyAt_17 : decode cL_keyAt 17 = .ok (.astore 4, 2) := by decide +kernel
theorem dL_keyAt_19 : decode cL_keyAt 19 = .ok (.iconst 2, 1) := by decide +kernel
theorem dL_keyAt_20 : decode cL_keyAt 20 = .ok (.ireturn, 1) := by decide +kernel
theorem dL_keyAt_21 : decode cL_keyAt 21 = .ok (.iconst 0, 1) := by decide +kernel
theorem dL_keyAt_22 : decode cL_keyAt 22 = .ok (.ireturn, 1) := by decide +kernel
theorem dL_valueAt_0 : decode cL_valueAt 0 = .ok (.aload_n 3, 1) := by decide +kernel
theorem dL_valueAt_1 : decode cL_valueAt 1 = .ok (.iconst 0, 1) := by decide +kernel
theorem dL_valueAt_2 : decode cL_valueAt 2 = .ok (.aload_n 0, 1) := by decide +kernel
theorem dL_valueAt_3 : decode cL_valueAt 3 = .ok (.iload_n 1, 1) := by decide +kernel
theorem dL_valueAt_4 : decode cL_valueAt 4 = .ok (.iload_n 2, 1) := by decide +kernel
theorem dL_valueAt_5 : decode cL_valueAt 5 = .ok (.invokevirtual 50, 3) := by decide +kernel
theorem dL_valueAt_8 : decode cL_valueAt 8 = .ok (.i2l, 1) := by decide +kernel
theorem dL_valueAt_9 : decode cL_valueAt 9 = .ok (.lastore, 1) := by decide +kernel
theorem dL_valueAt_10 : decode cL_valueAt 10 = .ok (.goto 11, 3) := by decide +kernel
theorem dL_valueAt_13 : decode cL_valueAt 13 = .ok (.astore 4, 2) := by decide +kernel
theorem dL_valueAt_15 : decode cL_valueAt 15 = .ok (.iconst 1, 1) := by decide +kernel
theorem dL_valueAt_16 : decode cL_valueAt 16 = .ok (.ireturn, 1) := by decide +kernel
theorem dL_valueAt_17 : decode cL_valueAt 17 = .ok (.astore 4, 2) := by decide +kernel
theorem dL_valueAt_19 : decode cL_valueAt 19 = .ok (.iconst 2, 1) := by decide +kernel
theorem dL_valueAt_20 : decode cL_valueAt 20 = .ok (.ireturn, 1) := by decide +kernel
theorem dL_valueAt_21 : decode cL_valueAt 21 = .ok (.iconst 0, 1) := by decide +kernel
theorem dL_valueAt_22 : decode cL_valueAt 22 = .ok (.ireturn, 1) := by decide +kernel
theorem dL_placeOf_0 : decode cL_placeOf 0 = .ok (.aload_n 3, 1) := by decide +kernel
theorem dL_placeOf_1 : decode cL_placeOf 1 = .ok (.iconst 0, 1) := by decide +kernel
theorem dL_placeOf_2 : decode cL_placeOf 2 = .ok (.aload_n 0, 1) := by decide +kernel
theorem dL_placeOf_3 : decode cL_placeOf 3 = .ok (.iload_n 1, 1) := by decide +kernel
theorem dL_placeOf_4 : decode cL_placeOf 4 = .ok (.iload_n 2, 1) := by decide +kernel
theorem dL_placeOf_5 : decode cL_placeOf 5 = .ok (.invokevirtual 53, 3) := by decide +kernel
theorem dL_placeOf_8 : decode cL_placeOf 8 = .ok (.i2l, 1) := by decide +kernel
theorem dL_placeOf_9 : decode cL_placeOf 9 = .ok (.lastore, 1) := by decide +kernel
theorem dL_placeOf_10 : decode cL_placeOf 10 = .ok (.goto 7, 3) := by decide +kernel
theorem dL_placeOf_13 : decode cL_placeOf 13 = .ok (.astore 4, 2) := by decide +kernel
theorem dL_placeOf_15 : decode cL_placeOf 15 = .ok (.iconst 1, 1) := by decide +kernel
theorem dL_placeOf_16 : decode cL_placeOf 16 = .ok (.ireturn, 1) := by decide +kernel
theorem dL_placeOf_17 : decode cL_placeOf 17 = .ok (.iconst 0, 1) := by decide +kernel
theorem dL_placeOf_18 : decode cL_placeOf 18 = .ok (.ireturn, 1) := by decide +kernel
theorem dL_sum_0 : decode cL_sum 0 = .ok (.aload_n 2, 1) := by decide +kernel
theorem dL_sum_1 : decode cL_sum 1 = .ok (.iconst 0, 1) := by decide +kernel
theorem dL_sum_2 : decode cL_sum 2 = .ok (.aload_n 0, 1) := by decide +kernel
theorem dL_sum_3 : decode cL_sum 3 = .ok (.iload_n 1, 1) := by decide +kernel
theorem dL_sum_4 : decode cL_sum 4 = .ok (.invokevirtual 56, 3) := by decide +kernel
theorem dL_sum_7 : decode cL_sum 7 = .ok (.i2l, 1) := by decide +kernel
theorem dL_sum_8 : decode cL_sum 8 = .ok (.lastore, 1) := by decide +kernel
theorem dL_sum_9 : decode cL_sum 9 = .ok (.goto 6, 3) := by decide +kernel
theorem dL_sum_12 : decode cL_sum 12 = .ok (.astore_n 3, 1) := by decide +kernel
theorem dL_sum_13 : decode cL_sum 13 = .ok (.iconst 1, 1) := by decide +kernel
theorem dL_sum_14 : decode cL_sum 14 = .ok (.ireturn, 1) := by decide +kernel
theorem dL_sum_15 : decode cL_sum 15 = .ok (.iconst 0, 1) := by decide +kernel
theorem dL_sum_16 : decode cL_sum 16 = .ok (.ireturn, 1) := by decide +kernel
theorem dL_beginCursor_0 : decode cL_beginCursor 0 = .ok (.aload_n 2, 1) := by decide +kernel
theorem dL_beginCursor_1 : decode cL_beginCursor 1 = .ok (.iconst 0, 1) := by decide +kernel
theorem dL_beginCursor_2 : decode cL_beginCursor 2 = .ok (.aload_n 0, 1) := by decide +kernel
theorem dL_beginCursor_3 : decode cL_beginCursor 3 = .ok (.iload_n 1, 1) := by decide +kernel
theorem dL_beginCursor_4 : decode cL_beginCursor 4 = .ok (.invokevirtual 59, 3) := by decide +kernel
theorem dL_beginCursor_7 : decode cL_beginCursor 7 = .ok (.i2l, 1) := by decide +kernel
theorem dL_beginCursor_8 : decode cL_beginCursor 8 = .ok (.lastore, 1) := by decide +kernel
theorem dL_beginCursor_9 : decode cL_beginCursor 9 = .ok (.goto 6, 3) := by decide +kernel
theorem dL_beginCursor_12 : decode cL_beginCursor 12 = .ok (.astore_n 3, 1) := by decide +kernel
theorem dL_beginCursor_13 : decode cL_beginCursor 13 = .ok (.iconst 1, 1) := by decide +kernel
theorem dL_beginCursor_14 : decode cL_beginCursor 14 = .ok (.ireturn, 1) := by decide +kernel
theorem dL_beginCursor_15 : decode cL_beginCursor 15 = .ok (.iconst 0, 1) := by decide +kernel
theorem dL_beginCursor_16 : decode cL_beginCursor 16 = .ok (.ireturn, 1) := by decide +kernel
theorem dL_hasNext_0 : decode cL_hasNext 0 = .ok (.aload_n 2, 1) := by decide +kernel
theorem dL_hasNext_1 : decode cL_hasNext 1 = .ok (.iconst 0, 1) := by decide +kernel
theorem dL_hasNext_2 : decode cL_hasNext 2 = .ok (.aload_n 0, 1) := by decide +kernel
theorem dL_hasNext_3 : decode cL_hasNext 3 = .ok (.iload_n 1, 1) := by decide +kernel
theorem dL_hasNext_4 : decode cL_hasNext 4 = .ok (.invokevirtual 62, 3) := by decide +kernel
theorem dL_hasNext_7 : decode cL_hasNext 7 = .ok (.ifCond .eq 7, 3) := by decide +kernel
theorem dL_hasNext_10 : decode cL_hasNext 10 = .ok (.lconst 1, 1) := by decide +kernel
theorem dL_hasNext_11 : decode cL_hasNext 11 = .ok (.goto 4, 3) := by decide +kernel
theorem dL_hasNext_14 : decode cL_hasNext 14 = .ok (.lconst 0, 1) := by decide +kernel
theorem dL_hasNext_15 : decode cL_hasNext 15 = .ok (.lastore, 1) := by decide +kernel
theorem dL_hasNext_16 : decode cL_hasNext 16 = .ok (.goto 6, 3) := by decide +kernel
theorem dL_hasNext_19 : decode cL_hasNext 19 = .ok (.astore_n 3, 1) := by decide +kernel
theorem dL_hasNext_20 : decode cL_hasNext 20 = .ok (.iconst 1, 1) := by decide +kernel
theorem dL_hasNext_21 : decode cL_hasNext 21 = .ok (.ireturn, 1) := by decide +kernel
theorem dL_hasNext_22 : decode cL_hasNext 22 = .ok (.iconst 0, 1) := by decide +kernel
theorem dL_hasNext_23 : decode cL_hasNext 23 = .ok (.ireturn, 1) := by decide +kernel
theorem dL_next_0 : decode cL_next 0 = .ok (.aload_n 2, 1) := by decide +kernel
theorem dL_next_1 : decode cL_next 1 = .ok (.iconst 0, 1) := by decide +kernel
theorem dL_next_2 : decode cL_next 2 = .ok (.aload_n 0, 1) := by decide +kernel
theorem dL_next_3 : decode cL_next 3 = .ok (.iload_n 1, 1) := by decide +kernel
theorem dL_next_4 : decode cL_next 4 = .ok (.invokevirtual 66, 3) := by decide +kernel
theorem dL_next_7 : decode cL_next 7 = .ok (.i2l, 1) := by decide +kernel
theorem dL_next_8 : decode cL_next 8 = .ok (.lastore, 1) := by decide +kernel
theorem dL_next_9 : decode cL_next 9 = .ok (.goto 12, 3) := by decide +kernel
theorem dL_next_12 : decode cL_next 12 = .ok (.astore_n 3, 1) := by decide +kernel
theorem dL_next_13 : decode cL_next 13 = .ok (.iconst 1, 1) := by decide +kernel
theorem dL_next_14 : decode cL_next 14 = .ok (.ireturn, 1) := by decide +kernel
theorem dL_next_15 : decode cL_next 15 = .ok (.astore_n 3, 1) := by decide +kernel
theorem dL_next_16 : decode cL_next 16 = .ok (.iconst 2, 1) := by decide +kernel
theorem dL_next_17 : decode cL_next 17 = .ok (.ireturn, 1) := by decide +kernel
theorem dL_next_18 : decode cL_next 18 = .ok (.astore_n 3, 1) := by decide +kernel
theorem dL_next_19 : decode cL_next 19 = .ok (.iconst 3, 1) := by decide +kernel
theorem dL_next_20 : decode cL_next 20 = .ok (.ireturn, 1) := by decide +kernel
theorem dL_next_21 : decode cL_next 21 = .ok (.iconst 0, 1) := by decide +kernel
theorem dL_next_22 : decode cL_next 22 = .ok (.ireturn, 1) := by decide +kernel
theorem dL_takeOut_0 : decode cL_takeOut 0 = .ok (.aload_n 2, 1) := by decide +kernel
theorem dL_takeOut_1 : decode cL_takeOut 1 = .ok (.iconst 0, 1) := by decide +kernel
theorem dL_takeOut_2 : decode cL_takeOut 2 = .ok (.aload_n 0, 1) := by decide +kernel
theorem dL_takeOut_3 : decode cL_takeOut 3 = .ok (.iload_n 1, 1) := by decide +kernel
theorem dL_takeOut_4 : decode cL_takeOut 4 = .ok (.invokevirtual 73, 3) := by decide +kernel
theorem dL_takeOut_7 : decode cL_takeOut 7 = .ok (.i2l, 1) := by decide +kernel
theorem dL_takeOut_8 : decode cL_takeOut 8 = .ok (.lastore, 1) := by decide +kernel
theorem dL_takeOut_9 : decode cL_takeOut 9 = .ok (.goto 9, 3) := by decide +kernel
theorem dL_takeOut_12 : decode cL_takeOut 12 = .ok (.astore_n 3, 1) := by decide +kernel
theorem dL_takeOut_13 : decode cL_takeOut 13 = .ok (.iconst 1, 1) := by decide +kernel
theorem dL_takeOut_14 : decode cL_takeOut 14 = .ok (.ireturn, 1) := by decide +kernel
theorem dL_takeOut_15 : decode cL_takeOut 15 = .ok (.astore_n 3, 1) := by decide +kernel
theorem dL_takeOut_16 : decode cL_takeOut 16 = .ok (.iconst 2, 1) := by decide +kernel
theorem dL_takeOut_17 : decode cL_takeOut 17 = .ok (.ireturn, 1) := by decide +kernel
theorem dL_takeOut_18 : decode cL_takeOut 18 = .ok (.iconst 0, 1) := by decide +kernel
theorem dL_takeOut_19 : decode cL_takeOut 19 = .ok (.ireturn, 1) := by decide +kernel
theorem dL_request_0 : decode cL_request 0 = .ok (.aload_n 2, 1) := by decide +kernel
theorem dL_request_1 : decode cL_request 1 = .ok (.iconst 0, 1) := by decide +kernel
theorem dL_request_2 : decode cL_request 2 = .ok (.aload_n 0, 1) := by decide +kernel
theorem dL_request_3 : decode cL_request 3 = .ok (.iload_n 1, 1) := by decide +kernel
theorem dL_request_4 : decode cL_request 4 = .ok (.invokevirtual 76, 3) := by decide +kernel
theorem dL_request_7 : decode cL_request 7 = .ok (.i2l, 1) := by decide +kernel
theorem dL_request_8 : decode cL_request 8 = .ok (.lastore, 1) := by decide +kernel
theorem dL_request_9 : decode cL_request 9 = .ok (.goto 9, 3) := by decide +kernel
theorem dL_request_12 : decode cL_request 12 = .ok (.astore_n 3, 1) := by decide +kernel
theorem dL_request_13 : decode cL_request 13 = .ok (.iconst 1, 1) := by decide +kernel
theorem dL_request_14 : decode cL_request 14 = .ok (.ireturn, 1) := by decide +kernel
theorem dL_request_15 : decode cL_request 15 = .ok (.astore_n 3, 1) := by decide +kernel
theorem dL_request_16 : decode cL_request 16 = .ok (.iconst 2, 1) := by decide +kernel
theorem dL_request_17 : decode cL_request 17 = .ok (.ireturn, 1) := by decide +kernel
theorem dL_request_18 : decode cL_request 18 = .ok (.iconst 0, 1) := by decide +kernel
theorem dL_request_19 : decode cL_request 19 = .ok (.ireturn, 1) := by decide +kernel
theorem dL_hits_0 : decode cL_hits 0 = .ok (.aload_n 2, 1) := by decide +kernel
theorem dL_hits_1 : decode cL_hits 1 = .ok (.iconst 0, 1) := by decide +kernel
theorem dL_hits_2 : decode cL_hits 2 = .ok (.aload_n 0, 1) := by decide +kernel
theorem dL_hits_3 : decode cL_hits 3 = .ok (.iload_n 1, 1) := by decide +kernel
theorem dL_hits_4 : decode cL_hits 4 = .ok (.invokevirtual 79, 3) := by decide +kernel
theorem dL_hits_7 : decode cL_hits 7 = .ok (.i2l, 1) := by decide +kernel
theorem dL_hits_8 : decode cL_hits 8 = .ok (.lastore, 1) := by decide +kernel
theorem dL_hits_9 : decode cL_hits 9 = .ok (.goto 6, 3) := by decide +kernel
theorem dL_hits_12 : decode cL_hits 12 = .ok (.astore_n 3, 1) := by decide +kernel
theorem dL_hits_13 : decode cL_hits 13 = .ok (.iconst 1, 1) := by decide +kernel
theorem dL_hits_14 : decode cL_hits 14 = .ok (.ireturn, 1) := by decide +kernel
theorem dL_hits_15 : decode cL_hits 15 = .ok (.iconst 0, 1) := by decide +kernel
theorem dL_hits_16 : decode cL_hits 16 = .ok (.ireturn, 1) := by decide +kernel
theorem dL_cached_0 : decode cL_cached 0 = .ok (.aload_n 2, 1) := by decide +kernel
theorem dL_cached_1 : decode cL_cached 1 = .ok (.iconst 0, 1) := by decide +kernel
theorem dL_cached_2 : decode cL_cached 2 = .ok (.aload_n 0, 1) := by decide +kernel
theorem dL_cached_3 : decode cL_cached 3 = .ok (.iload_n 1, 1) := by decide +kernel
theorem dL_cached_4 : decode cL_cached 4 = .ok (.invokevirtual 82, 3) := by decide +kernel
theorem dL_cached_7 : decode cL_cached 7 = .ok (.i2l, 1) := by decide +kernel
theorem dL_cached_8 : decode cL_cached 8 = .ok (.lastore, 1) := by decide +kernel
theorem dL_cached_9 : decode cL_cached 9 = .ok (.goto 6, 3) := by decide +kernel
theorem dL_cached_12 : decode cL_cached 12 = .ok (.astore_n 3, 1) := by decide +kernel
theorem dL_cached_13 : decode cL_cached 13 = .ok (.iconst 1, 1) := by decide +kernel
theorem dL_cached_14 : decode cL_cached 14 = .ok (.ireturn, 1) := by decide +kernel
theorem dL_cached_15 : decode cL_cached 15 = .ok (.iconst 0, 1) := by decide +kernel
theorem dL_cached_16 : decode cL_cached 16 = .ok (.ireturn, 1) := by decide +kernel
theorem dL_isCached_0 : decode cL_isCached 0 = .ok (.aload_n 3, 1) := by decide +kernel
theorem dL_isCached_1 : decode cL_isCached 1 = .ok (.iconst 0, 1) := by decide +kernel
theorem dL_isCached_2 : decode cL_isCached 2 = .ok (.aload_n 0, 1) := by decide +kernel
theorem dL_isCached_3 : decode cL_isCached 3 = .ok (.iload_n 1, 1) := by decide +kernel
theorem dL_isCached_4 : decode cL_isCached 4 = .ok (.iload_n 2, 1) := by decide +kernel
theorem dL_isCached_5 : decode cL_isCached 5 = .ok (.invokevirtual 85, 3) := by decide +kernel
theorem dL_isCached_8 : decode cL_isCached 8 = .ok (.ifCond .eq 7, 3) := by decide +kernel
theorem dL_isCached_11 : decode cL_isCached 11 = .ok (.lconst 1, 1) := by decide +kernel
theorem dL_isCached_12 : decode cL_isCached 12 = .ok (.goto 4, 3) := by decide +kernel
theorem dL_isCached_15 : decode cL_isCached 15 = .ok (.lconst 0, 1) := by decide +kernel
theorem dL_isCached_16 : decode cL_isCached 16 = .ok (.lastore, 1) := by decide +kernel
theorem dL_isCached_17 : decode cL_isCached 17 = .ok (.goto 7, 3) := by decide +kernel
theorem dL_isCached_20 : decode cL_isCached 20 = .ok (.astore 4, 2) := by decide +kernel
theorem dL_isCached_22 : decode cL_isCached 22 = .ok (.iconst 1, 1) := by decide +kernel
theorem dL_isCached_23 : decode cL_isCached 23 = .ok (.ireturn, 1) := by decide +kernel
theorem dL_isCached_24 : decode cL_isCached 24 = .ok (.iconst 0, 1) := by decide +kernel
theorem dL_isCached_25 : decode cL_isCached 25 = .ok (.ireturn, 1) := by decide +kernel
theorem dL_cachedAt_0 : decode cL_cachedAt 0 = .ok (.aload_n 3, 1) := by decide +kernel
theorem dL_cachedAt_1 : decode cL_cachedAt 1 = .ok (.iconst 0, 1) := by decide +kernel
theorem dL_cachedAt_2 : decode cL_cachedAt 2 = .ok (.aload_n 0, 1) := by decide +kernel
theorem dL_cachedAt_3 : decode cL_cachedAt 3 = .ok (.iload_n 1, 1) := by decide +kernel
theorem dL_cachedAt_4 : decode cL_cachedAt 4 = .ok (.iload_n 2, 1) := by decide +kernel
theorem dL_cachedAt_5 : decode cL_cachedAt 5 = .ok (.invokevirtual 88, 3) := by decide +kernel
theorem dL_cachedAt_8 : decode cL_cachedAt 8 = .ok (.i2l, 1) := by decide +kernel
theorem dL_cachedAt_9 : decode cL_cachedAt 9 = .ok (.lastore, 1) := by decide +kernel
theorem dL_cachedAt_10 : decode cL_cachedAt 10 = .ok (.goto 11, 3) := by decide +kernel
theorem dL_cachedAt_13 : decode cL_cachedAt 13 = .ok (.astore 4, 2) := by decide +kernel
theorem dL_cachedAt_15 : decode cL_cachedAt 15 = .ok (.iconst 1, 1) := by decide +kernel
theorem dL_cachedAt_16 : decode cL_cachedAt 16 = .ok (.ireturn, 1) := by decide +kernel
theorem dL_cachedAt_17 : decode cL_cachedAt 17 = .ok (.astore 4, 2) := by decide +kernel
theorem dL_cachedAt_19 : decode cL_cachedAt 19 = .ok (.iconst 2, 1) := by decide +kernel
theorem dL_cachedAt_20 : decode cL_cachedAt 20 = .ok (.ireturn, 1) := by decide +kernel
theorem dL_cachedAt_21 : decode cL_cachedAt 21 = .ok (.iconst 0, 1) := by decide +kernel
theorem dL_cachedAt_22 : decode cL_cachedAt 22 = .ok (.ireturn, 1) := by decide +kernel
theorem dL_requestAt_0 : decode cL_requestAt 0 = .ok (.aload_n 2, 1) := by decide +kernel
theorem dL_requestAt_1 : decode cL_requestAt 1 = .ok (.iconst 0, 1) := by decide +kernel
theorem dL_requestAt_2 : decode cL_requestAt 2 = .ok (.aload_n 0, 1) := by decide +kernel
theorem dL_requestAt_3 : decode cL_requestAt 3 = .ok (.iload_n 1, 1) := by decide +kernel
theorem dL_requestAt_4 : decode cL_requestAt 4 = .ok (.invokevirtual 91, 3) := by decide +kernel
theorem dL_requestAt_7 : decode cL_requestAt 7 = .ok (.i2l, 1) := by decide +kernel
theorem dL_requestAt_8 : decode cL_requestAt 8 = .ok (.lastore, 1) := by decide +kernel
theorem dL_requestAt_9 : decode cL_requestAt 9 = .ok (.goto 6, 3) := by decide +kernel
theorem dL_requestAt_12 : decode cL_requestAt 12 = .ok (.astore_n 3, 1) := by decide +kernel
theorem dL_requestAt_13 : decode cL_requestAt 13 = .ok (.iconst 1, 1) := by decide +kernel
theorem dL_requestAt_14 : decode cL_requestAt 14 = .ok (.ireturn, 1) := by decide +kernel
theorem dL_requestAt_15 : decode cL_requestAt 15 = .ok (.iconst 0, 1) := by decide +kernel
theorem dL_requestAt_16 : decode cL_requestAt 16 = .ok (.ireturn, 1) := by decide +kernel
theorem dL_distanceOf_0 : decode cL_distanceOf 0 = .ok (.aload_n 2, 1) := by decide +kernel
theorem dL_distanceOf_1 : decode cL_distanceOf 1 = .ok (.iconst 0, 1) := by decide +kernel
theorem dL_distanceOf_2 : decode cL_distanceOf 2 = .ok (.aload_n 0, 1) := by decide +kernel
theorem dL_distanceOf_3 : decode cL_distanceOf 3 = .ok (.iload_n 1, 1) := by decide +kernel
theorem dL_distanceOf_4 : decode cL_distanceOf 4 = .ok (.invokevirtual 94, 3) := by decide +kernel
theorem dL_distanceOf_7 : decode cL_distanceOf 7 = .ok (.i2l, 1) := by decide +kernel
theorem dL_distanceOf_8 : decode cL_distanceOf 8 = .ok (.lastore, 1) := by decide +kernel
theorem dL_distanceOf_9 : decode cL_distanceOf 9 = .ok (.goto 6, 3) := by decide +kernel
theorem dL_distanceOf_12 : decode cL_distanceOf 12 = .ok (.astore_n 3, 1) := by decide +kernel
theorem dL_distanceOf_13 : decode cL_distanceOf 13 = .ok (.iconst 1, 1) := by decide +kernel
theorem dL_distanceOf_14 : decode cL_distanceOf 14 = .ok (.ireturn, 1) := by decide +kernel
theorem dL_distanceOf_15 : decode cL_distanceOf 15 = .ok (.iconst 0, 1) := by decide +kernel
theorem dL_distanceOf_16 : decode cL_distanceOf 16 = .ok (.ireturn, 1) := by decide +kernel
theorem dL_nearer_0 : decode cL_nearer 0 = .ok (.aload_n 2, 1) := by decide +kernel
theorem dL_nearer_1 : decode cL_nearer 1 = .ok (.iconst 0, 1) := by decide +kernel
theorem dL_nearer_2 : decode cL_nearer 2 = .ok (.aload_n 0, 1) := by decide +kernel
theorem dL_nearer_3 : decode cL_nearer 3 = .ok (.iload_n 1, 1) := by decide +kernel
theorem dL_nearer_4 : decode cL_nearer 4 = .ok (.invokevirtual 97, 3) := by decide +kernel
theorem dL_nearer_7 : decode cL_nearer 7 = .ok (.i2l, 1) := by decide +kernel
theorem dL_nearer_8 : decode cL_nearer 8 = .ok (.lastore, 1) := by decide +kernel
theorem dL_nearer_9 : decode cL_nearer 9 = .ok (.goto 6, 3) := by decide +kernel
theorem dL_nearer_12 : decode cL_nearer 12 = .ok (.astore_n 3, 1) := by decide +kernel
theorem dL_nearer_13 : decode cL_nearer 13 = .ok (.iconst 1, 1) := by decide +kernel
theorem dL_nearer_14 : decode cL_nearer 14 = .ok (.ireturn, 1) := by decide +kernel
theorem dL_nearer_15 : decode cL_nearer 15 = .ok (.iconst 0, 1) := by decide +kernel
theorem dL_nearer_16 : decode cL_nearer 16 = .ok (.ireturn, 1) := by decide +kernel
theorem dL_leastCache_0 : decode cL_leastCache 0 = .ok (.aload_n 2, 1) := by decide +kernel
theorem dL_leastCache_1 : decode cL_leastCache 1 = .ok (.iconst 0, 1) := by decide +kernel
theorem dL_leastCache_2 : decode cL_leastCache 2 = .ok (.aload_n 0, 1) := by decide +kernel
theorem dL_leastCache_3 : decode cL_leastCache 3 = .ok (.iload_n 1, 1) := by decide +kernel
theorem dL_leastCache_4 : decode cL_leastCache 4 = .ok (.invokevirtual 100, 3) := by decide +kernel
theorem dL_leastCache_7 : decode cL_leastCache 7 = .ok (.i2l, 1) := by decide +kernel
theorem dL_leastCache_8 : decode cL_leastCache 8 = .ok (.lastore, 1) := by decide +kernel
theorem dL_leastCache_9 : decode cL_leastCache 9 = .ok (.goto 6, 3) := by decide +kernel
theorem dL_leastCache_12 : decode cL_leastCache 12 = .ok (.astore_n 3, 1) := by decide +kernel
theorem dL_leastCache_13 : decode cL_leastCache 13 = .ok (.iconst 1, 1) := by decide +kernel
theorem dL_leastCache_14 : decode cL_leastCache 14 = .ok (.ireturn, 1) := by decide +kernel
theorem dL_leastCache_15 : decode cL_leastCache 15 = .ok (.iconst 0, 1) := by decide +kernel
theorem dL_leastCache_16 : decode cL_leastCache 16 = .ok (.ireturn, 1) := by decide +kernel
theorem dL_append_0 : decode cL_append 0 = .ok (.aload 6, 2) := by decide +kernel
theorem dL_append_2 : decode cL_append 2 = .ok (.iconst 0, 1) := by decide +kernel
theorem dL_append_3 : decode cL_append 3 = .ok (.aload_n 0, 1) := by decide +kernel
theorem dL_append_4 : decode cL_append 4 = .ok (.iload_n 1, 1) := by decide +kernel
theorem dL_append_5 : decode cL_append 5 = .ok (.iload_n 2, 1) := by decide +kernel
theorem dL_append_6 : decode cL_append 6 = .ok (.iload_n 3, 1) := by decide +kernel
theorem dL_append_7 : decode cL_append 7 = .ok (.iload 4, 2) := by decide +kernel
theorem dL_append_9 : decode cL_append 9 = .ok (.iload 5, 2) := by decide +kernel
theorem dL_append_11 : decode cL_append 11 = .ok (.invokevirtual 103, 3) := by decide +kernel
theorem dL_append_14 : decode cL_append 14 = .ok (.i2l, 1) := by decide +kernel
theorem dL_append_15 : decode cL_append 15 = .ok (.lastore, 1) := by decide +kernel
theorem dL_append_16 : decode cL_append 16 = .ok (.goto 7, 3) := by decide +kernel
theorem dL_append_19 : decode cL_append 19 = .ok (.astore 7, 2) := by decide +kernel
theorem dL_append_21 : decode cL_append 21 = .ok (.iconst 1, 1) := by decide +kernel
theorem dL_append_22 : decode cL_append 22 = .ok (.ireturn, 1) := by decide +kernel
theorem dL_append_23 : decode cL_append 23 = .ok (.iconst 0, 1) := by decide +kernel
theorem dL_append_24 : decode cL_append 24 = .ok (.ireturn, 1) := by decide +kernel
theorem dL_run_0 : decode cL_run 0 = .ok (.aload_n 1, 1) := by decide +kernel
theorem dL_run_1 : decode cL_run 1 = .ok (.iconst 0, 1) := by decide +kernel
theorem dL_run_2 : decode cL_run 2 = .ok (.aload_n 0, 1) := by decide +kernel
theorem dL_run_3 : decode cL_run 3 = .ok (.invokevirtual 107, 3) := by decide +kernel
theorem dL_run_6 : decode cL_run 6 = .ok (.i2l, 1) := by decide +kernel
theorem dL_run_7 : decode cL_run 7 = .ok (.lastore, 1) := by decide +kernel
theorem dL_run_8 : decode cL_run 8 = .ok (.goto 9, 3) := by decide +kernel
theorem dL_run_11 : decode cL_run 11 = .ok (.astore_n 2, 1) := by decide +kernel
theorem dL_run_12 : decode cL_run 12 = .ok (.iconst 1, 1) := by decide +kernel
theorem dL_run_13 : decode cL_run 13 = .ok (.ireturn, 1) := by decide +kernel
theorem dL_run_14 : decode cL_run 14 = .ok (.astore_n 2, 1) := by decide +kernel
theorem dL_run_15 : decode cL_run 15 = .ok (.iconst 2, 1) := by decide +kernel
theorem dL_run_16 : decode cL_run 16 = .ok (.ireturn, 1) := by decide +kernel
theorem dL_run_17 : decode cL_run 17 = .ok (.iconst 0, 1) := by decide +kernel
theorem dL_run_18 : decode cL_run 18 = .ok (.ireturn, 1) := by decide +kernel
theorem dL_setFrames_0 : decode cL_setFrames 0 = .ok (.aload_n 2, 1) := by decide +kernel
theorem dL_setFrames_1 : decode cL_setFrames 1 = .ok (.iconst 0, 1) := by decide +kernel
theorem dL_setFrames_2 : decode cL_setFrames 2 = .ok (.aload_n 0, 1) := by decide +kernel
theorem dL_setFrames_3 : decode cL_setFrames 3 = .ok (.iload_n 1, 1) := by decide +kernel
theorem dL_setFrames_4 : decode cL_setFrames 4 = .ok (.invokevirtual 111, 3) := by decide +kernel
theorem dL_setFrames_7 : decode cL_setFrames 7 = .ok (.i2l, 1) := by decide +kernel
theorem dL_setFrames_8 : decode cL_setFrames 8 = .ok (.lastore, 1) := by decide +kernel
theorem dL_setFrames_9 : decode cL_setFrames 9 = .ok (.goto 6, 3) := by decide +kernel
theorem dL_setFrames_12 : decode cL_setFrames 12 = .ok (.astore_n 3, 1) := by decide +kernel
theorem dL_setFrames_13 : decode cL_setFrames 13 = .ok (.iconst 1, 1) := by decide +kernel
theorem dL_setFrames_14 : decode cL_setFrames 14 = .ok (.ireturn, 1) := by decide +kernel
theorem dL_setFrames_15 : decode cL_setFrames 15 = .ok (.iconst 0, 1) := by decide +kernel
theorem dL_setFrames_16 : decode cL_setFrames 16 = .ok (.ireturn, 1) := by decide +kernel
theorem dL_wordAt_0 : decode cL_wordAt 0 = .ok (.aload_n 2, 1) := by decide +kernel
theorem dL_wordAt_1 : decode cL_wordAt 1 = .ok (.iconst 0, 1) := by decide +kernel
theorem dL_wordAt_2 : decode cL_wordAt 2 = .ok (.aload_n 0, 1) := by decide +kernel
theorem dL_wordAt_3 : decode cL_wordAt 3 = .ok (.iload_n 1, 1) := by decide +kernel
theorem dL_wordAt_4 : decode cL_wordAt 4 = .ok (.invokevirtual 114, 3) := by decide +kernel
theorem dL_wordAt_7 : decode cL_wordAt 7 = .ok (.i2l, 1) := by decide +kernel
theorem dL_wordAt_8 : decode cL_wordAt 8 = .ok (.lastore, 1) := by decide +kernel
theorem dL_wordAt_9 : decode cL_wordAt 9 = .ok (.goto 6, 3) := by decide +kernel
theorem dL_wordAt_12 : decode cL_wordAt 12 = .ok (.astore_n 3, 1) := by decide +kernel
theorem dL_wordAt_13 : decode cL_wordAt 13 = .ok (.iconst 1, 1) := by decide +kernel
theorem dL_wordAt_14 : decode cL_wordAt 14 = .ok (.ireturn, 1) := by decide +kernel
theorem dL_wordAt_15 : decode cL_wordAt 15 = .ok (.iconst 0, 1) := by decide +kernel
theorem dL_wordAt_16 : decode cL_wordAt 16 = .ok (.ireturn, 1) := by decide +kernel
theorem dL_discAt_0 : decode cL_discAt 0 = .ok (.aload_n 2, 1) := by decide +kernel
theorem dL_discAt_1 : decode cL_discAt 1 = .ok (.iconst 0, 1) := by decide +kernel
theorem dL_discAt_2 : decode cL_discAt 2 = .ok (.aload_n 0, 1) := by decide +kernel
theorem dL_discAt_3 : decode cL_discAt 3 = .ok (.iload_n 1, 1) := by decide +kernel
theorem dL_discAt_4 : decode cL_discAt 4 = .ok (.invokevirtual 117, 3) := by decide +kernel
theorem dL_discAt_7 : decode cL_discAt 7 = .ok (.i2l, 1) := by decide +kernel
theorem dL_discAt_8 : decode cL_discAt 8 = .ok (.lastore, 1) := by decide +kernel
theorem dL_discAt_9 : decode cL_discAt 9 = .ok (.goto 6, 3) := by decide +kernel
theorem dL_discAt_12 : decode cL_discAt 12 = .ok (.astore_n 3, 1) := by decide +kernel
theorem dL_discAt_13 : decode cL_discAt 13 = .ok (.iconst 1, 1) := by decide +kernel
theorem dL_discAt_14 : decode cL_discAt 14 = .ok (.ireturn, 1) := by decide +kernel
theorem dL_discAt_15 : decode cL_discAt 15 = .ok (.iconst 0, 1) := by decide +kernel
theorem dL_discAt_16 : decode cL_discAt 16 = .ok (.ireturn, 1) := by decide +kernel
theorem dL_residentAt_0 : decode cL_residentAt 0 = .ok (.aload_n 2, 1) := by decide +kernel
theorem dL_residentAt_1 : decode cL_residentAt 1 = .ok (.iconst 0, 1) := by decide +kernel
theorem dL_residentAt_2 : decode cL_residentAt 2 = .ok (.aload_n 0, 1) := by decide +kernel
theorem dL_residentAt_3 : decode cL_residentAt 3 = .ok (.iload_n 1, 1) := by decide +kernel
theorem dL_residentAt_4 : decode cL_residentAt 4 = .ok (.invokevirtual 120, 3) := by decide +kernel
theorem dL_residentAt_7 : decode cL_residentAt 7 = .ok (.i2l, 1) := by decide +kernel
theorem dL_residentAt_8 : decode cL_residentAt 8 = .ok (.lastore, 1) := by decide +kernel
theorem dL_residentAt_9 : decode cL_residentAt 9 = .ok (.goto 6, 3) := by decide +kernel
theorem dL_residentAt_12 : decode cL_residentAt 12 = .ok (.astore_n 3, 1) := by decide +kernel
theorem dL_residentAt_13 : decode cL_residentAt 13 = .ok (.iconst 1, 1) := by decide +kernel
theorem dL_residentAt_14 : decode cL_residentAt 14 = .ok (.ireturn, 1) := by decide +kernel
theorem dL_residentAt_15 : decode cL_residentAt 15 = .ok (.iconst 0, 1) := by decide +kernel
theorem dL_residentAt_16 : decode cL_residentAt 16 = .ok (.ireturn, 1) := by decide +kernel
theorem dL_isDirty_0 : decode cL_isDirty 0 = .ok (.aload_n 2, 1) := by decide +kernel
theorem dL_isDirty_1 : decode cL_isDirty 1 = .ok (.iconst 0, 1) := by decide +kernel
theorem dL_isDirty_2 : decode cL_isDirty 2 = .ok (.aload_n 0, 1) := by decide +kernel
theorem dL_isDirty_3 : decode cL_isDirty 3 = .ok (.iload_n 1, 1) := by decide +kernel
theorem dL_isDirty_4 : decode cL_isDirty 4 = .ok (.invokevirtual 123, 3) := by decide +kernel
theorem dL_isDirty_7 : decode cL_isDirty 7 = .ok (.ifCond .eq 7, 3) := by decide +kernel
theorem dL_isDirty_10 : decode cL_isDirty 10 = .ok (.lconst 1, 1) := by decide +kernel
theorem dL_isDirty_11 : decode cL_isDirty 11 = .ok (.goto 4, 3) := by decide +kernel
theorem dL_isDirty_14 : decode cL_isDirty 14 = .ok (.lconst 0, 1) := by decide +kernel
theorem dL_isDirty_15 : decode cL_isDirty 15 = .ok (.lastore, 1) := by decide +kernel
theorem dL_isDirty_16 : decode cL_isDirty 16 = .ok (.goto 6, 3) := by decide +kernel
theorem dL_isDirty_19 : decode cL_isDirty 19 = .ok (.astore_n 3, 1) := by decide +kernel
theorem dL_isDirty_20 : decode cL_isDirty 20 = .ok (.iconst 1, 1) := by decide +kernel
theorem dL_isDirty_21 : decode cL_isDirty 21 = .ok (.ireturn, 1) := by decide +kernel
theorem dL_isDirty_22 : decode cL_isDirty 22 = .ok (.iconst 0, 1) := by decide +kernel
theorem dL_isDirty_23 : decode cL_isDirty 23 = .ok (.ireturn, 1) := by decide +kernel
theorem dL_hitShare_0 : decode cL_hitShare 0 = .ok (.aload_n 2, 1) := by decide +kernel
theorem dL_hitShare_1 : decode cL_hitShare 1 = .ok (.iconst 0, 1) := by decide +kernel
theorem dL_hitShare_2 : decode cL_hitShare 2 = .ok (.aload_n 0, 1) := by decide +kernel
theorem dL_hitShare_3 : decode cL_hitShare 3 = .ok (.iload_n 1, 1) := by decide +kernel
theorem dL_hitShare_4 : decode cL_hitShare 4 = .ok (.invokevirtual 126, 3) := by decide +kernel
theorem dL_hitShare_7 : decode cL_hitShare 7 = .ok (.f2d, 1) := by decide +kernel
theorem dL_hitShare_8 : decode cL_hitShare 8 = .ok (.dastore, 1) := by decide +kernel
theorem dL_hitShare_9 : decode cL_hitShare 9 = .ok (.goto 6, 3) := by decide +kernel
theorem dL_hitShare_12 : decode cL_hitShare 12 = .ok (.astore_n 3, 1) := by decide +kernel
theorem dL_hitShare_13 : decode cL_hitShare 13 = .ok (.iconst 1, 1) := by decide +kernel
theorem dL_hitShare_14 : decode cL_hitShare 14 = .ok (.ireturn, 1) := by decide +kernel
theorem dL_hitShare_15 : decode cL_hitShare 15 = .ok (.iconst 0, 1) := by decide +kernel
theorem dL_hitShare_16 : decode cL_hitShare 16 = .ok (.ireturn, 1) := by decide +kernel
end
section
def gw : List Cond := lw_tbl.filter goodWord
def jws (y : MethodName) (b : ByteArray) (mL : Nat) (ret : Option FieldType) : List Cond := .code y b mL ret :: gw
theorem gw_in : GoodIn gw gw := fun w h => ⟨h, good_of_word (List.mem_filter.mp h).2⟩
theorem jws_in {y : MethodName} {b : ByteArray} {mL : Nat} {ret : Option FieldType} (h : Cond.code y b mL ret ∈ gw) : GoodIn gw (jws y b mL ret) := fun w hw => by
  rcases List.mem_cons.mp hw with e | e
  · rw [e]; exact gw_in _ h
  · exact gw_in _ e
def jFL (own : String) (idx ci : Nat) (C : String) (T : u_T) (N : Nat) (ty0 : Nat → FieldType) (k : Nat) : Prop :=
  vwCl[ci]? = some (C, T, N) ∧ (∀ w ∈ u_ws C T N, w ∈ gw) ∧ k < N ∧ Cond.fieldLink own idx (T k).1 (T k).2.1 (T k).2.2.1 ∈ gw ∧ (∀ k, k < N → parseFieldDescriptor (T k).2.2.1 = some (ty0 k)) ∧ (∀ a, a < N → ∀ b, b < N → a ≠ b → (T a).2.1 ≠ (T b).2.1)
def jLV (own : String) (idx ci : Nat) (y : MethodName) (b : ByteArray) (mL : Nat) (ret : Option FieldType) (n : Nat) : Prop :=
  (∃ T N, vwCl[ci]? = some (y.cls, T, N)) ∧ Cond.methodLink own idx y ∈ gw ∧ Cond.instanceMethod y ∈ gw ∧ Cond.selects y.cls y y ∈ gw ∧ Cond.initialized y.cls ∈ gw ∧ Cond.code y b mL ret ∈ gw ∧ (y.cls ≠ "java/lang/invoke/MethodHandle" ∧ y.cls ≠ "java/lang/invoke/VarHandle" ∧ (parseMethodDescriptor y.desc).map (fun d => d.parameters.length) = some n)
def jLS (own : String) (idx : Nat) (y : MethodName) (b : ByteArray) (mL : Nat) (ret : Option FieldType) (n : Nat) : Prop :=
  Cond.methodLink own idx y ∈ gw ∧ Cond.static y ∈ gw ∧ Cond.initialized y.cls ∈ gw ∧ Cond.code y b mL ret ∈ gw ∧ (y.cls ≠ "java/lang/invoke/MethodHandle" ∧ y.cls ≠ "java/lang/invoke/VarHandle" ∧ (parseMethodDescriptor y.desc).map (fun d => d.parameters.length) = some n)
end
section
theorem gwm {w : Cond} (i : Nat) (h : lw_tbl[i]? = some w) (hg : goodWord w = true) : w ∈ gw := List.mem_filter.mpr ⟨List.mem_of_getElem? h, hg⟩
theorem glX0_0 : u_lay RX0 TX0 0 ∈ gw := gwm 254 (by decide +kernel) rfl
theorem glX0_1 : u_lay RX0 TX0 1 ∈ gw := gwm 256 (by decide +kernel) rfl
theorem glX0_2 : u_lay RX0 TX0 2 ∈ gw := gwm 258 (by decide +kernel) rfl
theorem inlX0 : ∀ w ∈ u_ws RX0 TX0 3, w ∈ gw := fun w h => by
  obtain ⟨k, hk, rfl⟩ := List.mem_map.mp h
  have hk := List.mem_range.mp hk
  match k, hk with
  | 0, _ => exact glX0_0
  | 1, _ => exact glX0_1
  | 2, _ => exact glX0_2
  | k + 3, hk => exact absurd hk (by omega)
theorem glX1_0 : u_lay RX1 TX1 0 ∈ gw := gwm 107 (by decide +kernel) rfl
theorem glX1_1 : u_lay RX1 TX1 1 ∈ gw := gwm 109 (by decide +kernel) rfl
theorem glX1_2 : u_lay RX1 TX1 2 ∈ gw := gwm 111 (by decide +kernel) rfl
theorem inlX1 : ∀ w ∈ u_ws RX1 TX1 3, w ∈ gw := fun w h => by
  obtain ⟨k, hk, rfl⟩ := List.mem_map.mp h
  have hk := List.mem_range.mp hk
  match k, hk with
  | 0, _ => exact glX1_0
  | 1, _ => exact glX1_1
  | 2, _ => exact glX1_2
  | k + 3, hk => exact absurd hk (by omega)
theorem glX2_0 : u_lay RX2 TX2 0 ∈ gw := gwm 226 (by decide +kernel) rfl
theorem glX2_1 : u_lay RX2 TX2 1 ∈ gw := gwm 228 (by decide +kernel) rfl
theorem glX2_2 : u_lay RX2 TX2 2 ∈ gw := gwm 230 (by decide +kernel) rfl
theorem glX2_3 : u_lay RX2 TX2 3 ∈ gw := gwm 232 (by decide +kernel) rfl
theorem glX2_4 : u_lay RX2 TX2 4 ∈ gw := gwm 234 (by decide +kernel) rfl
theorem glX2_5 : u_lay RX2 TX2 5 ∈ gw := gwm 236 (by decide +kernel) rfl
theorem glX2_6 : u_lay RX2 TX2 6 ∈ gw := gwm 238 (by decide +kernel) rfl
theorem glX2_7 : u_lay RX2 TX2 7 ∈ gw := gwm 240 (by decide +kernel) rfl
theorem inlX2 : ∀ w ∈ u_ws RX2 TX2 8, w ∈ gw := fun w h => by
  obtain ⟨k, hk, rfl⟩ := List.mem_map.mp h
  have hk := List.mem_range.mp hk
  match k, hk with
  | 0, _ => exact glX2_0
  | 1, _ => exact glX2_1
  | 2, _ => exact glX2_2
  | 3, _ => exact glX2_3
  | 4, _ => exact glX2_4
  | 5, _ => exact glX2_5
  | 6, _ => exact glX2_6
  | 7, _ => exact glX2_7
  | k + 8, hk => exact absurd hk (by omega)
theorem glX3_0 : u_lay RX3 TX3 0 ∈ gw := gwm 187 (by decide +kernel) rfl
theorem glX3_1 : u_lay RX3 TX3 1 ∈ gw := gwm 189 (by decide +kernel) rfl
theorem glX3_2 : u_lay RX3 TX3 2 ∈ gw := gwm 191 (by decide +kernel) rfl
theorem glX3_3 : u_lay RX3 TX3 3 ∈ gw := gwm 193 (by decide +kernel) rfl
theorem glX3_4 : u_lay RX3 TX3 4 ∈ gw := gwm 195 (by decide +kernel) rfl
theorem glX3_5 : u_lay RX3 TX3 5 ∈ gw := gwm 197 (by decide +kernel) rfl
theorem inlX3 : ∀ w ∈ u_ws RX3 TX3 6, w ∈ gw := fun w h => by
  obtain ⟨k, hk, rfl⟩ := List.mem_map.mp h
  have hk := List.mem_range.mp hk
  match k, hk with
  | 0, _ => exact glX3_0
  | 1, _ => exact glX3_1
  | 2, _ => exact glX3_2
  | 3, _ => exact glX3_3
  | 4, _ => exact glX3_4
  | 5, _ => exact glX3_5
  | k + 6, hk => exact absurd hk (by omega)
theorem glX4_0 : u_lay RX4 TX4 0 ∈ gw := gwm 203 (by decide +kernel) rfl
theorem glX4_1 : u_lay RX4 TX4 1 ∈ gw := gwm 205 (by decide +kernel) rfl
theorem glX4_2 : u_lay RX4 TX4 2 ∈ gw := gwm 207 (by decide +kernel) rfl
theorem inlX4 : ∀ w ∈ u_ws RX4 TX4 3, w ∈ gw := fun w h => by
  obtain ⟨k, hk, rfl⟩ := List.mem_map.mp h
  have hk := List.mem_range.mp hk
  match k, hk with
  | 0, _ => exact glX4_0
  | 1, _ => exact glX4_1
  | 2, _ => exact glX4_2
  | k + 3, hk => exact absurd hk (by omega)
theorem glX5_0 : u_lay RX5 TX5 0 ∈ gw := gwm 147 (by decide +kernel) rfl
theorem glX5_1 : u_lay RX5 TX5 1 ∈ gw := gwm 149 (by decide +kernel) rfl
theorem glX5_2 : u_lay RX5 TX5 2 ∈ gw := gwm 151 (by decide +kernel) rfl
theorem glX5_3 : u_lay RX5 TX5 3 ∈ gw := gwm 153 (by decide +kernel) rfl
theorem inlX5 : ∀ w ∈ u_ws RX5 TX5 4, w ∈ gw := fun w h => by
  obtain ⟨k, hk, rfl⟩ := List.mem_map.mp h
  have hk := List.mem_range.mp hk
  match k, hk with
  | 0, _ => exact glX5_0
  | 1, _ => exact glX5_1
  | 2, _ => exact glX5_2
  | 3, _ => exact glX5_3
  | k + 4, hk => exact absurd hk (by omega)
theorem glX6_0 : u_lay RX6 TX6 0 ∈ gw := gwm 170 (by decide +kernel) rfl
theorem glX6_1 : u_lay RX6 TX6 1 ∈ gw := gwm 172 (by decide +kernel) rfl
theorem inlX6 : ∀ w ∈ u_ws RX6 TX6 2, w ∈ gw := fun w h => by
  obtain ⟨k, hk, rfl⟩ := List.mem_map.mp h
  have hk := List.mem_range.mp hk
  match k, hk with
  | 0, _ => exact glX6_0
  | 1, _ => exact glX6_1
  | k + 2, hk => exact absurd hk (by omega)
theorem glX7_0 : u_lay RX7 TX7 0 ∈ gw := gwm 120 (by decide +kernel) rfl
theorem glX7_1 : u_lay RX7 TX7 1 ∈ gw := gwm 122 (by decide +kernel) rfl
theorem glX7_2 : u_lay RX7 TX7 2 ∈ gw := gwm 124 (by decide +kernel) rfl
theorem glX7_3 : u_lay RX7 TX7 3 ∈ gw := gwm 126 (by decide +kernel) rfl
theorem glX7_4 : u_lay RX7 TX7 4 ∈ gw := gwm 128 (by decide +kernel) rfl
theorem glX7_5 : u_lay RX7 TX7 5 ∈ gw := gwm 130 (by decide +kernel) rfl
theorem inlX7 : ∀ w ∈ u_ws RX7 TX7 6, w ∈ gw := fun w h => by
  obtain ⟨k, hk, rfl⟩ := List.mem_map.mp h
  have hk := List.mem_range.mp hk
  match k, hk with
  | 0, _ => exact glX7_0
  | 1, _ => exact glX7_1
  | 2, _ => exact glX7_2
  | 3, _ => exact glX7_3
  | 4, _ => exact glX7_4
  | 5, _ => exact glX7_5
  | k + 6, hk => exact absurd hk (by omega)
theorem glX8_0 : u_lay RX8 TX8 0 ∈ gw := gwm 92 (by decide +kernel) rfl
theorem glX8_1 : u_lay RX8 TX8 1 ∈ gw := gwm 94 (by decide +kernel) rfl
theorem inlX8 : ∀ w ∈ u_ws RX8 TX8 2, w ∈ gw := fun w h => by
  obtain ⟨k, hk, rfl⟩ := List.mem_map.mp h
  have hk := List.mem_range.mp hk
  match k, hk with
  | 0, _ => exact glX8_0
  | 1, _ => exact glX8_1
  | k + 2, hk => exact absurd hk (by omega)
theorem glX9_0 : u_lay RX9 TX9 0 ∈ gw := gwm 268 (by decide +kernel) rfl
theorem glX9_1 : u_lay RX9 TX9 1 ∈ gw := gwm 270 (by decide +kernel) rfl
theorem glX9_2 : u_lay RX9 TX9 2 ∈ gw := gwm 272 (by decide +kernel) rfl
theorem glX9_3 : u_lay RX9 TX9 3 ∈ gw := gwm 274 (by decide +kernel) rfl
theorem glX9_4 : u_lay RX9 TX9 4 ∈ gw := gwm 276 (by decide +kernel) rfl
theorem glX9_5 : u_lay RX9 TX9 5 ∈ gw := gwm 278 (by decide +kernel) rfl
theorem glX9_6 : u_lay RX9 TX9 6 ∈ gw := gwm 280 (by decide +kernel) rfl
theorem inlX9 : ∀ w ∈ u_ws RX9 TX9 7, w ∈ gw := fun w h => by
  obtain ⟨k, hk, rfl⟩ := List.mem_map.mp h
  have hk := List.mem_range.mp hk
  match k, hk with
  | 0, _ => exact glX9_0
  | 1, _ => exact glX9_1
  | 2, _ => exact glX9_2
  | 3, _ => exact glX9_3
  | 4, _ => exact glX9_4
  | 5, _ => exact glX9_5
  | 6, _ => exact glX9_6
  | k + 7, hk => exact absurd hk (by omega)
theorem glX10_0 : u_lay RX10 TX10 0 ∈ gw := gwm 1147 (by decide +kernel) rfl
theorem glX10_1 : u_lay RX10 TX10 1 ∈ gw := gwm 1149 (by decide +kernel) rfl
theorem glX10_2 : u_lay RX10 TX10 2 ∈ gw := gwm 1151 (by decide +kernel) rfl
theorem glX10_3 : u_lay RX10 TX10 3 ∈ gw := gwm 1153 (by decide +kernel) rfl
theorem glX10_4 : u_lay RX10 TX10 4 ∈ gw := gwm 1155 (by decide +kernel) rfl
theorem glX10_5 : u_lay RX10 TX10 5 ∈ gw := gwm 1157 (by decide +kernel) rfl
theorem glX10_6 : u_lay RX10 TX10 6 ∈ gw := gwm 1159 (by decide +kernel) rfl
theorem glX10_7 : u_lay RX10 TX10 7 ∈ gw := gwm 1161 (by decide +kernel) rfl
theorem glX10_8 : u_lay RX10 TX10 8 ∈ gw := gwm 1163 (by decide +kernel) rfl
theorem glX10_9 : u_lay RX10 TX10 9 ∈ gw := gwm 1165 (by decide +kernel) rfl
theorem glX10_10 : u_lay RX10 TX10 10 ∈ gw := gwm 1167 (by decide +kernel) rfl
theorem glX10_11 : u_lay RX10 TX10 11 ∈ gw := gwm 1169 (by decide +kernel) rfl
theorem glX10_12 : u_lay RX10 TX10 12 ∈ gw := gwm 1171 (by decide +kernel) rfl
theorem glX10_13 : u_lay RX10 TX10 13 ∈ gw := gwm 1173 (by decide +kernel) rfl
theorem glX10_14 : u_lay RX10 TX10 14 ∈ gw := gwm 1175 (by decide +kernel) rfl
theorem glX10_15 : u_lay RX10 TX10 15 ∈ gw := gwm 1177 (by decide +kernel) rfl
theorem glX10_16 : u_lay RX10 TX10 16 ∈ gw := gwm 1179 (by decide +kernel) rfl
theorem glX10_17 : u_lay RX10 TX10 17 ∈ gw := gwm 1181 (by decide +kernel) rfl
theorem glX10_18 : u_lay RX10 TX10 18 ∈ gw := gwm 1183 (by decide +kernel) rfl
theorem glX10_19 : u_lay RX10 TX10 19 ∈ gw := gwm 1185 (by decide +kernel) rfl
theorem glX10_20 : u_lay RX10 TX10 20 ∈ gw := gwm 1187 (by decide +kernel) rfl
theorem glX10_21 : u_lay RX10 TX10 21 ∈ gw := gwm 1189 (by decide +kernel) rfl
theorem glX10_22 : u_lay RX10 TX10 22 ∈ gw := gwm 1191 (by decide +kernel) rfl
theorem glX10_23 : u_lay RX10 TX10 23 ∈ gw := gwm 1193 (by decide +kernel) rfl
theorem glX10_24 : u_lay RX10 TX10 24 ∈ gw := gwm 1195 (by decide +kernel) rfl
theorem glX10_25 : u_lay RX10 TX10 25 ∈ gw := gwm 1197 (by decide +kernel) rfl
theorem glX10_26 : u_lay RX10 TX10 26 ∈ gw := gwm 1199 (by decide +kernel) rfl
theorem glX10_27 : u_lay RX10 TX10 27 ∈ gw := gwm 1201 (by decide +kernel) rfl
theorem glX10_28 : u_lay RX10 TX10 28 ∈ gw := gwm 1203 (by decide +kernel) rfl
theorem glX10_29 : u_lay RX10 TX10 29 ∈ gw := gwm 1205 (by decide +kernel) rfl
theorem glX10_30 : u_lay RX10 TX10 30 ∈ gw := gwm 1207 (by decide +kernel) rfl
theorem glX10_31 : u_lay RX10 TX10 31 ∈ gw := gwm 1209 (by decide +kernel) rfl
theorem glX10_32 : u_lay RX10 TX10 32 ∈ gw := gwm 1211 (by decide +kernel) rfl
theorem glX10_33 : u_lay RX10 TX10 33 ∈ gw := gwm 1213 (by decide +kernel) rfl
theorem glX10_34 : u_lay RX10 TX10 34 ∈ gw := gwm 1215 (by decide +kernel) rfl
theorem glX10_35 : u_lay RX10 TX10 35 ∈ gw := gwm 1217 (by decide +kernel) rfl
theorem inlX10 : ∀ w ∈ u_ws RX10 TX10 36, w ∈ gw := fun w h => by
  obtain ⟨k, hk, rfl⟩ := List.mem_map.mp h
  have hk := List.mem_range.mp hk
  match k, hk with
  | 0, _ => exact glX10_0
  | 1, _ => exact glX10_1
  | 2, _ => exact glX10_2
  | 3, _ => exact glX10_3
  | 4, _ => exact glX10_4
  | 5, _ => exact glX10_5
  | 6, _ => exact glX10_6
  | 7, _ => exact glX10_7
  | 8, _ => exact glX10_8
  | 9, _ => exact glX10_9
  | 10, _ => exact glX10_10
  | 11, _ => exact glX10_11
  | 12, _ => exact glX10_12
  | 13, _ => exact glX10_13
  | 14, _ => exact glX10_14
  | 15, _ => exact glX10_15
  | 16, _ => exact glX10_16
  | 17, _ => exact glX10_17
  | 18, _ => exact glX10_18
  | 19, _ => exact glX10_19
  | 20, _ => exact glX10_20
  | 21, _ => exact glX10_21
  | 22, _ => exact glX10_22
  | 23, _ => exact glX10_23
  | 24, _ => exact glX10_24
  | 25, _ => exact glX10_25
  | 26, _ => exact glX10_26
  | 27, _ => exact glX10_27
  | 28, _ => exact glX10_28
  | 29, _ => exact glX10_29
  | 30, _ => exact glX10_30
  | 31, _ => exact glX10_31
  | 32, _ => exact glX10_32
  | 33, _ => exact glX10_33
  | 34, _ => exact glX10_34
  | 35, _ => exact glX10_35
  | k + 36, hk => exact absurd hk (by omega)
theorem gm_0 : Cond.fieldLink RX0 10 (TX0 0).1 (TX0 0).2.1 (TX0 0).2.2.1 ∈ gw := gwm 251 (by decide +kernel) rfl
theorem fX0_10 : jFL RX0 10 0 RX0 TX0 3 tyX0 0 := ⟨rfl, inlX0, by decide, gm_0, tyX0_ok, nmX0⟩
theorem gm_1 : Cond.fieldLink RX0 16 (TX0 2).1 (TX0 2).2.1 (TX0 2).2.2.1 ∈ gw := gwm 253 (by decide +kernel) rfl
theorem fX0_16 : jFL RX0 16 0 RX0 TX0 3 tyX0 2 := ⟨rfl, inlX0, by decide, gm_1, tyX0_ok, nmX0⟩
theorem gm_2 : Cond.fieldLink RX0 20 (TX0 1).1 (TX0 1).2.1 (TX0 1).2.2.1 ∈ gw := gwm 252 (by decide +kernel) rfl
theorem fX0_20 : jFL RX0 20 0 RX0 TX0 3 tyX0 1 := ⟨rfl, inlX0, by decide, gm_2, tyX0_ok, nmX0⟩
theorem gm_3 : Cond.fieldLink RX1 7 (TX1 0).1 (TX1 0).2.1 (TX1 0).2.2.1 ∈ gw := gwm 104 (by decide +kernel) rfl
theorem fX1_7 : jFL RX1 7 1 RX1 TX1 3 tyX1 0 := ⟨rfl, inlX1, by decide, gm_3, tyX1_ok, nmX1⟩
theorem gm_4 : Cond.fieldLink RX1 13 (TX1 1).1 (TX1 1).2.1 (TX1 1).2.2.1 ∈ gw := gwm 105 (by decide +kernel) rfl
theorem fX1_13 : jFL RX1 13 1 RX1 TX1 3 tyX1 1 := ⟨rfl, inlX1, by decide, gm_4, tyX1_ok, nmX1⟩
theorem gm_5 : Cond.fieldLink RX1 17 (TX1 2).1 (TX1 2).2.1 (TX1 2).2.2.1 ∈ gw := gwm 106 (by decide +kernel) rfl
theorem fX1_17 : jFL RX1 17 1 RX1 TX1 3 tyX1 2 := ⟨rfl, inlX1, by decide, gm_5, tyX1_ok, nmX1⟩
theorem gm_6 : Cond.fieldLink RX10 1 (TX10 0).1 (TX10 0).2.1 (TX10 0).2.2.1 ∈ gw := gwm 1111 (by decide +kernel) rfl
theorem fX10_1 : jFL RX10 1 10 RX10 TX10 36 tyX10 0 := ⟨rfl, inlX10, by decide, gm_6, tyX10_ok, nmX10⟩
theorem gm_7 : Cond.fieldLink RX10 13 (TX10 1).1 (TX10 1).2.1 (TX10 1).2.2.1 ∈ gw := gwm 1112 (by decide +kernel) rfl
theorem fX10_13 : jFL RX10 13 10 RX10 TX10 36 tyX10 1 := ⟨rfl, inlX10, by decide, gm_7, tyX10_ok, nmX10⟩
theorem gm_8 : Cond.fieldLink RX10 17 (TX10 2).1 (TX10 2).2.1 (TX10 2).2.2.1 ∈ gw := gwm 1113 (by decide +kernel) rfl
theorem fX10_17 : jFL RX10 17 10 RX10 TX10 36 tyX10 2 := ⟨rfl, inlX10, by decide, gm_8, tyX10_ok, nmX10⟩
theorem gm_9 : Cond.fieldLink RX10 20 (TX10 3).1 (TX10 3).2.1 (TX10 3).2.2.1 ∈ gw := gwm 1114 (by decide +kernel) rfl
theorem fX10_20 : jFL RX10 20 10 RX10 TX10 36 tyX10 3 := ⟨rfl, inlX10, by decide, gm_9, tyX10_ok, nmX10⟩
theorem gm_10 : Cond.fieldLink RX10 23 (TX10 4).1 (TX10 4).2.1 (TX10 4).2.2.1 ∈ gw := gwm 1115 (by decide +kernel) rfl
theorem fX10_23 : jFL RX10 23 10 RX10 TX10 36 tyX10 4 := ⟨rfl, inlX10, by decide, gm_10, tyX10_ok, nmX10⟩
theorem gm_11 : Cond.fieldLink RX10 26 (TX10 6).1 (TX10 6).2.1 (TX10 6).2.2.1 ∈ gw := gwm 1117 (by decide +kernel) rfl
theorem fX10_26 : jFL RX10 26 10 RX10 TX10 36 tyX10 6 := ⟨rfl, inlX10, by decide, gm_11, tyX10_ok, nmX10⟩
theorem gm_12 : Cond.fieldLink RX10 29 (TX10 7).1 (TX10 7).2.1 (TX10 7).2.2.1 ∈ gw := gwm 1118 (by decide +kernel) rfl
theorem fX10_29 : jFL RX10 29 10 RX10 TX10 36 tyX10 7 := ⟨rfl, inlX10, by decide, gm_12, tyX10_ok, nmX10⟩
theorem gm_13 : Cond.fieldLink RX10 32 (TX10 8).1 (TX10 8).2.1 (TX10 8).2.2.1 ∈ gw := gwm 1119 (by decide +kernel) rfl
theorem fX10_32 : jFL RX10 32 10 RX10 TX10 36 tyX10 8 := ⟨rfl, inlX10, by decide, gm_13, tyX10_ok, nmX10⟩
theorem gm_14 : Cond.fieldLink RX10 36 (TX10 9).1 (TX10 9).2.1 (TX10 9).2.2.1 ∈ gw := gwm 1120 (by decide +kernel) rfl
theorem fX10_36 : jFL RX10 36 10 RX10 TX10 36 tyX10 9 := ⟨rfl, inlX10, by decide, gm_14, tyX10_ok, nmX10⟩
theorem gm_15 : Cond.fieldLink RX10 39 (TX10 10).1 (TX10 10).2.1 (TX10 10).2.2.1 ∈ gw := gwm 1121 (by decide +kernel) rfl
theorem fX10_39 : jFL RX10 39 10 RX10 TX10 36 tyX10 10 := ⟨rfl, inlX10, by decide, gm_15, tyX10_ok, nmX10⟩
theorem gm_16 : Cond.fieldLink RX10 42 (TX10 11).1 (TX10 11).2.1 (TX10 11).2.2.1 ∈ gw := gwm 1122 (by decide +kernel) rfl
theorem fX10_42 : jFL RX10 42 10 RX10 TX10 36 tyX10 11 := ⟨rfl, inlX10, by decide, gm_16, tyX10_ok, nmX10⟩
theorem gm_17 : Cond.fieldLink RX10 45 (TX10 12).1 (TX10 12).2.1 (TX10 12).2.2.1 ∈ gw := gwm 1123 (by decide +kernel) rfl
theorem fX10_45 : jFL RX10 45 10 RX10 TX10 36 tyX10 12 := ⟨rfl, inlX10, by decide, gm_17, tyX10_ok, nmX10⟩
theorem gm_18 : Cond.fieldLink RX10 48 (TX10 14).1 (TX10 14).2.1 (TX10 14).2.2.1 ∈ gw := gwm 1125 (by decide +kernel) rfl
theorem fX10_48 : jFL RX10 48 10 RX10 TX10 36 tyX10 14 := ⟨rfl, inlX10, by decide, gm_18, tyX10_ok, nmX10⟩
theorem gm_19 : Cond.fieldLink RX10 51 (TX10 15).1 (TX10 15).2.1 (TX10 15).2.2.1 ∈ gw := gwm 1126 (by decide +kernel) rfl
theorem fX10_51 : jFL RX10 51 10 RX10 TX10 36 tyX10 15 := ⟨rfl, inlX10, by decide, gm_19, tyX10_ok, nmX10⟩
theorem gm_20 : Cond.fieldLink RX10 54 (TX10 21).1 (TX10 21).2.1 (TX10 21).2.2.1 ∈ gw := gwm 1132 (by decide +kernel) rfl
theorem fX10_54 : jFL RX10 54 10 RX10 TX10 36 tyX10 21 := ⟨rfl, inlX10, by decide, gm_20, tyX10_ok, nmX10⟩
theorem gm_21 : Cond.fieldLink RX10 57 (TX10 22).1 (TX10 22).2.1 (TX10 22).2.2.1 ∈ gw := gwm 1133 (by decide +kernel) rfl
theorem fX10_57 : jFL RX10 57 10 RX10 TX10 36 tyX10 22 := ⟨rfl, inlX10, by decide, gm_21, tyX10_ok, nmX10⟩
theorem gm_22 : Cond.fieldLink RX10 60 (TX10 24).1 (TX10 24).2.1 (TX10 24).2.2.1 ∈ gw := gwm 1135 (by decide +kernel) rfl
theorem fX10_60 : jFL RX10 60 10 RX10 TX10 36 tyX10 24 := ⟨rfl, inlX10, by decide, gm_22, tyX10_ok, nmX10⟩
theorem gm_23 : Cond.fieldLink RX10 63 (TX10 25).1 (TX10 25).2.1 (TX10 25).2.2.1 ∈ gw := gwm 1136 (by decide +kernel) rfl
theorem fX10_63 : jFL RX10 63 10 RX10 TX10 36 tyX10 25 := ⟨rfl, inlX10, by decide, gm_23, tyX10_ok, nmX10⟩
theorem gm_24 : Cond.fieldLink RX10 66 (TX10 26).1 (TX10 26).2.1 (TX10 26).2.2.1 ∈ gw := gwm 1137 (by decide +kernel) rfl
theorem fX10_66 : jFL RX10 66 10 RX10 TX10 36 tyX10 26 := ⟨rfl, inlX10, by decide, gm_24, tyX10_ok, nmX10⟩
theorem gm_25 : Cond.fieldLink RX10 69 (TX10 27).1 (TX10 27).2.1 (TX10 27).2.2.1 ∈ gw := gwm 1138 (by decide +kernel) rfl
theorem fX10_69 : jFL RX10 69 10 RX10 TX10 36 tyX10 27 := ⟨rfl, inlX10, by decide, gm_25, tyX10_ok, nmX10⟩
theorem gm_26 : Cond.fieldLink RX10 72 (TX10 28).1 (TX10 28).2.1 (TX10 28).2.2.1 ∈ gw := gwm 1139 (by decide +kernel) rfl
theorem fX10_72 : jFL RX10 72 10 RX10 TX10 36 tyX10 28 := ⟨rfl, inlX10, by decide, gm_26, tyX10_ok, nmX10⟩
theorem gm_27 : Cond.fieldLink RX10 75 (TX10 29).1 (TX10 29).2.1 (TX10 29).2.2.1 ∈ gw := gwm 1140 (by decide +kernel) rfl
theorem fX10_75 : jFL RX10 75 10 RX10 TX10 36 tyX10 29 := ⟨rfl, inlX10, by decide, gm_27, tyX10_ok, nmX10⟩
theorem gm_28 : Cond.fieldLink RX10 78 (TX10 30).1 (TX10 30).2.1 (TX10 30).2.2.1 ∈ gw := gwm 1141 (by decide +kernel) rfl
theorem fX10_78 : jFL RX10 78 10 RX10 TX10 36 tyX10 30 := ⟨rfl, inlX10, by decide, gm_28, tyX10_ok, nmX10⟩
theorem gm_29 : Cond.fieldLink RX10 81 (TX10 31).1 (TX10 31).2.1 (TX10 31).2.2.1 ∈ gw := gwm 1142 (by decide +kernel) rfl
theorem fX10_81 : jFL RX10 81 10 RX10 TX10 36 tyX10 31 := ⟨rfl, inlX10, by decide, gm_29, tyX10_ok, nmX10⟩
theorem gm_30 : Cond.fieldLink RX10 96 (TX10 5).1 (TX10 5).2.1 (TX10 5).2.2.1 ∈ gw := gwm 1116 (by decide +kernel) rfl
theorem fX10_96 : jFL RX10 96 10 RX10 TX10 36 tyX10 5 := ⟨rfl, inlX10, by decide, gm_30, tyX10_ok, nmX10⟩
theorem gm_31 : Cond.fieldLink RX10 127 (TX10 13).1 (TX10 13).2.1 (TX10 13).2.2.1 ∈ gw := gwm 1124 (by decide +kernel) rfl
theorem fX10_127 : jFL RX10 127 10 RX10 TX10 36 tyX10 13 := ⟨rfl, inlX10, by decide, gm_31, tyX10_ok, nmX10⟩
theorem gm_32 : Cond.fieldLink RX10 153 (TX10 16).1 (TX10 16).2.1 (TX10 16).2.2.1 ∈ gw := gwm 1127 (by decide +kernel) rfl
theorem fX10_153 : jFL RX10 153 10 RX10 TX10 36 tyX10 16 := ⟨rfl, inlX10, by decide, gm_32, tyX10_ok, nmX10⟩
theorem gm_33 : Cond.fieldLink RX10 162 (TX10 20).1 (TX10 20).2.1 (TX10 20).2.2.1 ∈ gw := gwm 1131 (by decide +kernel) rfl
theorem fX10_162 : jFL RX10 162 10 RX10 TX10 36 tyX10 20 := ⟨rfl, inlX10, by decide, gm_33, tyX10_ok, nmX10⟩
theorem gm_34 : Cond.fieldLink RX10 165 (TX10 18).1 (TX10 18).2.1 (TX10 18).2.2.1 ∈ gw := gwm 1129 (by decide +kernel) rfl
theorem fX10_165 : jFL RX10 165 10 RX10 TX10 36 tyX10 18 := ⟨rfl, inlX10, by decide, gm_34, tyX10_ok, nmX10⟩
theorem gm_35 : Cond.fieldLink RX10 168 (TX10 17).1 (TX10 17).2.1 (TX10 17).2.2.1 ∈ gw := gwm 1128 (by decide +kernel) rfl
theorem fX10_168 : jFL RX10 168 10 RX10 TX10 36 tyX10 17 := ⟨rfl, inlX10, by decide, gm_35, tyX10_ok, nmX10⟩
theorem gm_36 : Cond.fieldLink RX10 171 (TX10 19).1 (TX10 19).2.1 (TX10 19).2.2.1 ∈ gw := gwm 1130 (by decide +kernel) rfl
theorem fX10_171 : jFL RX10 171 10 RX10 TX10 36 tyX10 19 := ⟨rfl, inlX10, by decide, gm_36, tyX10_ok, nmX10⟩
theorem gm_37 : Cond.fieldLink RX10 177 (TX10 23).1 (TX10 23).2.1 (TX10 23).2.2.1 ∈ gw := gwm 1134 (by decide +kernel) rfl
theorem fX10_177 : jFL RX10 177 10 RX10 TX10 36 tyX10 23 := ⟨rfl, inlX10, by decide, gm_37, tyX10_ok, nmX10⟩
theorem gm_38 : Cond.fieldLink RX10 203 (TX10 32).1 (TX10 32).2.1 (TX10 32).2.2.1 ∈ gw := gwm 1143 (by decide +kernel) rfl
theorem fX10_203 : jFL RX10 203 10 RX10 TX10 36 tyX10 32 := ⟨rfl, inlX10, by decide, gm_38, tyX10_ok, nmX10⟩
theorem gm_39 : Cond.fieldLink RX10 206 (TX10 35).1 (TX10 35).2.1 (TX10 35).2.2.1 ∈ gw := gwm 1146 (by decide +kernel) rfl
theorem fX10_206 : jFL RX10 206 10 RX10 TX10 36 tyX10 35 := ⟨rfl, inlX10, by decide, gm_39, tyX10_ok, nmX10⟩
theorem gm_40 : Cond.fieldLink RX10 215 (TX10 34).1 (TX10 34).2.1 (TX10 34).2.2.1 ∈ gw := gwm 1145 (by decide +kernel) rfl
theorem fX10_215 : jFL RX10 215 10 RX10 TX10 36 tyX10 34 := ⟨rfl, inlX10, by decide, gm_40, tyX10_ok, nmX10⟩
theorem gm_41 : Cond.fieldLink RX10 221 (TX10 33).1 (TX10 33).2.1 (TX10 33).2.2.1 ∈ gw := gwm 1144 (by decide +kernel) rfl
theorem fX10_221 : jFL RX10 221 10 RX10 TX10 36 tyX10 33 := ⟨rfl, inlX10, by decide, gm_41, tyX10_ok, nmX10⟩
theorem gm_42 : Cond.fieldLink RX2 9 (TX2 0).1 (TX2 0).2.1 (TX2 0).2.2.1 ∈ gw := gwm 218 (by decide +kernel) rfl
theorem fX2_9 : jFL RX2 9 2 RX2 TX2 8 tyX2 0 := ⟨rfl, inlX2, by decide, gm_42, tyX2_ok, nmX2⟩
theorem gm_43 : Cond.fieldLink RX2 15 (TX2 1).1 (TX2 1).2.1 (TX2 1).2.2.1 ∈ gw := gwm 219 (by decide +kernel) rfl
theorem fX2_15 : jFL RX2 15 2 RX2 TX2 8 tyX2 1 := ⟨rfl, inlX2, by decide, gm_43, tyX2_ok, nmX2⟩
theorem gm_44 : Cond.fieldLink RX2 18 (TX2 2).1 (TX2 2).2.1 (TX2 2).2.2.1 ∈ gw := gwm 220 (by decide +kernel) rfl
theorem fX2_18 : jFL RX2 18 2 RX2 TX2 8 tyX2 2 := ⟨rfl, inlX2, by decide, gm_44, tyX2_ok, nmX2⟩
theorem gm_45 : Cond.fieldLink RX2 25 (TX2 3).1 (TX2 3).2.1 (TX2 3).2.2.1 ∈ gw := gwm 221 (by decide +kernel) rfl
theorem fX2_25 : jFL RX2 25 2 RX2 TX2 8 tyX2 3 := ⟨rfl, inlX2, by decide, gm_45, tyX2_ok, nmX2⟩
theorem gm_46 : Cond.fieldLink RX2 29 (TX2 4).1 (TX2 4).2.1 (TX2 4).2.2.1 ∈ gw := gwm 222 (by decide +kernel) rfl
theorem fX2_29 : jFL RX2 29 2 RX2 TX2 8 tyX2 4 := ⟨rfl, inlX2, by decide, gm_46, tyX2_ok, nmX2⟩
theorem gm_47 : Cond.fieldLink RX2 33 (TX2 5).1 (TX2 5).2.1 (TX2 5).2.2.1 ∈ gw := gwm 223 (by decide +kernel) rfl
theorem fX2_33 : jFL RX2 33 2 RX2 TX2 8 tyX2 5 := ⟨rfl, inlX2, by decide, gm_47, tyX2_ok, nmX2⟩
theorem gm_48 : Cond.fieldLink RX2 36 (TX2 6).1 (TX2 6).2.1 (TX2 6).2.2.1 ∈ gw := gwm 224 (by decide +kernel) rfl
theorem fX2_36 : jFL RX2 36 2 RX2 TX2 8 tyX2 6 := ⟨rfl, inlX2, by decide, gm_48, tyX2_ok, nmX2⟩
theorem gm_49 : Cond.fieldLink RX2 39 (TX2 7).1 (TX2 7).2.1 (TX2 7).2.2.1 ∈ gw := gwm 225 (by decide +kernel) rfl
theorem fX2_39 : jFL RX2 39 2 RX2 TX2 8 tyX2 7 := ⟨rfl, inlX2, by decide, gm_49, tyX2_ok, nmX2⟩
theorem gm_50 : Cond.fieldLink RX3 9 (TX3 0).1 (TX3 0).2.1 (TX3 0).2.2.1 ∈ gw := gwm 181 (by decide +kernel) rfl
theorem fX3_9 : jFL RX3 9 3 RX3 TX3 6 tyX3 0 := ⟨rfl, inlX3, by decide, gm_50, tyX3_ok, nmX3⟩
theorem gm_51 : Cond.fieldLink RX3 15 (TX3 1).1 (TX3 1).2.1 (TX3 1).2.2.1 ∈ gw := gwm 182 (by decide +kernel) rfl
theorem fX3_15 : jFL RX3 15 3 RX3 TX3 6 tyX3 1 := ⟨rfl, inlX3, by decide, gm_51, tyX3_ok, nmX3⟩
theorem gm_52 : Cond.fieldLink RX3 18 (TX3 2).1 (TX3 2).2.1 (TX3 2).2.2.1 ∈ gw := gwm 183 (by decide +kernel) rfl
theorem fX3_18 : jFL RX3 18 3 RX3 TX3 6 tyX3 2 := ⟨rfl, inlX3, by decide, gm_52, tyX3_ok, nmX3⟩
theorem gm_53 : Cond.fieldLink RX3 22 (TX3 3).1 (TX3 3).2.1 (TX3 3).2.2.1 ∈ gw := gwm 184 (by decide +kernel) rfl
theorem fX3_22 : jFL RX3 22 3 RX3 TX3 6 tyX3 3 := ⟨rfl, inlX3, by decide, gm_53, tyX3_ok, nmX3⟩
theorem gm_54 : Cond.fieldLink RX3 25 (TX3 4).1 (TX3 4).2.1 (TX3 4).2.2.1 ∈ gw := gwm 185 (by decide +kernel) rfl
theorem fX3_25 : jFL RX3 25 3 RX3 TX3 6 tyX3 4 := ⟨rfl, inlX3, by decide, gm_54, tyX3_ok, nmX3⟩
theorem gm_55 : Cond.fieldLink RX3 28 (TX3 5).1 (TX3 5).2.1 (TX3 5).2.2.1 ∈ gw := gwm 186 (by decide +kernel) rfl
theorem fX3_28 : jFL RX3 28 3 RX3 TX3 6 tyX3 5 := ⟨rfl, inlX3, by decide, gm_55, tyX3_ok, nmX3⟩
theorem gm_56 : Cond.fieldLink RX4 12 (TX4 0).1 (TX4 0).2.1 (TX4 0).2.2.1 ∈ gw := gwm 200 (by decide +kernel) rfl
theorem fX4_12 : jFL RX4 12 4 RX4 TX4 3 tyX4 0 := ⟨rfl, inlX4, by decide, gm_56, tyX4_ok, nmX4⟩
theorem gm_57 : Cond.fieldLink RX4 21 (TX4 1).1 (TX4 1).2.1 (TX4 1).2.2.1 ∈ gw := gwm 201 (by decide +kernel) rfl
theorem fX4_21 : jFL RX4 21 4 RX4 TX4 3 tyX4 1 := ⟨rfl, inlX4, by decide, gm_57, tyX4_ok, nmX4⟩
theorem gm_58 : Cond.fieldLink RX4 25 (TX4 2).1 (TX4 2).2.1 (TX4 2).2.2.1 ∈ gw := gwm 202 (by decide +kernel) rfl
theorem fX4_25 : jFL RX4 25 4 RX4 TX4 3 tyX4 2 := ⟨rfl, inlX4, by decide, gm_58, tyX4_ok, nmX4⟩
theorem gm_59 : Cond.fieldLink RX5 9 (TX5 0).1 (TX5 0).2.1 (TX5 0).2.2.1 ∈ gw := gwm 143 (by decide +kernel) rfl
theorem fX5_9 : jFL RX5 9 5 RX5 TX5 4 tyX5 0 := ⟨rfl, inlX5, by decide, gm_59, tyX5_ok, nmX5⟩
theorem gm_60 : Cond.fieldLink RX5 15 (TX5 1).1 (TX5 1).2.1 (TX5 1).2.2.1 ∈ gw := gwm 144 (by decide +kernel) rfl
theorem fX5_15 : jFL RX5 15 5 RX5 TX5 4 tyX5 1 := ⟨rfl, inlX5, by decide, gm_60, tyX5_ok, nmX5⟩
theorem gm_61 : Cond.fieldLink RX5 21 (TX5 2).1 (TX5 2).2.1 (TX5 2).2.2.1 ∈ gw := gwm 145 (by decide +kernel) rfl
theorem fX5_21 : jFL RX5 21 5 RX5 TX5 4 tyX5 2 := ⟨rfl, inlX5, by decide, gm_61, tyX5_ok, nmX5⟩
theorem gm_62 : Cond.fieldLink RX5 25 (TX5 3).1 (TX5 3).2.1 (TX5 3).2.2.1 ∈ gw := gwm 146 (by decide +kernel) rfl
theorem fX5_25 : jFL RX5 25 5 RX5 TX5 4 tyX5 3 := ⟨rfl, inlX5, by decide, gm_62, tyX5_ok, nmX5⟩
theorem gm_63 : Cond.fieldLink RX6 9 (TX6 0).1 (TX6 0).2.1 (TX6 0).2.2.1 ∈ gw := gwm 168 (by decide +kernel) rfl
theorem fX6_9 : jFL RX6 9 6 RX6 TX6 2 tyX6 0 := ⟨rfl, inlX6, by decide, gm_63, tyX6_ok, nmX6⟩
theorem gm_64 : Cond.fieldLink RX6 15 (TX6 1).1 (TX6 1).2.1 (TX6 1).2.2.1 ∈ gw := gwm 169 (by decide +kernel) rfl
theorem fX6_15 : jFL RX6 15 6 RX6 TX6 2 tyX6 1 := ⟨rfl, inlX6, by decide, gm_64, tyX6_ok, nmX6⟩
theorem gm_65 : Cond.fieldLink RX7 12 (TX7 0).1 (TX7 0).2.1 (TX7 0).2.2.1 ∈ gw := gwm 114 (by decide +kernel) rfl
theorem fX7_12 : jFL RX7 12 7 RX7 TX7 6 tyX7 0 := ⟨rfl, inlX7, by decide, gm_65, tyX7_ok, nmX7⟩
theorem gm_66 : Cond.fieldLink RX7 21 (TX7 1).1 (TX7 1).2.1 (TX7 1).2.2.1 ∈ gw := gwm 115 (by decide +kernel) rfl
theorem fX7_21 : jFL RX7 21 7 RX7 TX7 6 tyX7 1 := ⟨rfl, inlX7, by decide, gm_66, tyX7_ok, nmX7⟩
theorem gm_67 : Cond.fieldLink RX7 25 (TX7 2).1 (TX7 2).2.1 (TX7 2).2.2.1 ∈ gw := gwm 116 (by decide +kernel) rfl
theorem fX7_25 : jFL RX7 25 7 RX7 TX7 6 tyX7 2 := ⟨rfl, inlX7, by decide, gm_67, tyX7_ok, nmX7⟩
theorem gm_68 : Cond.fieldLink RX7 29 (TX7 4).1 (TX7 4).2.1 (TX7 4).2.2.1 ∈ gw := gwm 118 (by decide +kernel) rfl
theorem fX7_29 : jFL RX7 29 7 RX7 TX7 6 tyX7 4 := ⟨rfl, inlX7, by decide, gm_68, tyX7_ok, nmX7⟩
theorem gm_69 : Cond.fieldLink RX7 33 (TX7 5).1 (TX7 5).2.1 (TX7 5).2.2.1 ∈ gw := gwm 119 (by decide +kernel) rfl
theorem fX7_33 : jFL RX7 33 7 RX7 TX7 6 tyX7 5 := ⟨rfl, inlX7, by decide, gm_69, tyX7_ok, nmX7⟩
theorem gm_70 : Cond.fieldLink RX7 36 (TX7 3).1 (TX7 3).2.1 (TX7 3).2.2.1 ∈ gw := gwm 117 (by decide +kernel) rfl
theorem fX7_36 : jFL RX7 36 7 RX7 TX7 6 tyX7 3 := ⟨rfl, inlX7, by decide, gm_70, tyX7_ok, nmX7⟩
theorem gm_71 : Cond.fieldLink RX8 9 (TX8 0).1 (TX8 0).2.1 (TX8 0).2.2.1 ∈ gw := gwm 90 (by decide +kernel) rfl
theorem fX8_9 : jFL RX8 9 8 RX8 TX8 2 tyX8 0 := ⟨rfl, inlX8, by decide, gm_71, tyX8_ok, nmX8⟩
theorem gm_72 : Cond.fieldLink RX8 15 (TX8 1).1 (TX8 1).2.1 (TX8 1).2.2.1 ∈ gw := gwm 91 (by decide +kernel) rfl
theorem fX8_15 : jFL RX8 15 8 RX8 TX8 2 tyX8 1 := ⟨rfl, inlX8, by decide, gm_72, tyX8_ok, nmX8⟩
theorem gm_73 : Cond.fieldLink RX9 14 (TX9 0).1 (TX9 0).2.1 (TX9 0).2.2.1 ∈ gw := gwm 261 (by decide +kernel) rfl
theorem fX9_14 : jFL RX9 14 9 RX9 TX9 7 tyX9 0 := ⟨rfl, inlX9, by decide, gm_73, tyX9_ok, nmX9⟩
theorem gm_74 : Cond.fieldLink RX9 18 (TX9 1).1 (TX9 1).2.1 (TX9 1).2.2.1 ∈ gw := gwm 262 (by decide +kernel) rfl
theorem fX9_18 : jFL RX9 18 9 RX9 TX9 7 tyX9 1 := ⟨rfl, inlX9, by decide, gm_74, tyX9_ok, nmX9⟩
theorem gm_75 : Cond.fieldLink RX9 23 (TX9 2).1 (TX9 2).2.1 (TX9 2).2.2.1 ∈ gw := gwm 263 (by decide +kernel) rfl
theorem fX9_23 : jFL RX9 23 9 RX9 TX9 7 tyX9 2 := ⟨rfl, inlX9, by decide, gm_75, tyX9_ok, nmX9⟩
theorem gm_76 : Cond.fieldLink RX9 30 (TX9 3).1 (TX9 3).2.1 (TX9 3).2.2.1 ∈ gw := gwm 264 (by decide +kernel) rfl
theorem fX9_30 : jFL RX9 30 9 RX9 TX9 7 tyX9 3 := ⟨rfl, inlX9, by decide, gm_76, tyX9_ok, nmX9⟩
theorem gm_77 : Cond.fieldLink RX9 37 (TX9 4).1 (TX9 4).2.1 (TX9 4).2.2.1 ∈ gw := gwm 265 (by decide +kernel) rfl
theorem fX9_37 : jFL RX9 37 9 RX9 TX9 7 tyX9 4 := ⟨rfl, inlX9, by decide, gm_77, tyX9_ok, nmX9⟩
theorem gm_78 : Cond.fieldLink RX9 44 (TX9 5).1 (TX9 5).2.1 (TX9 5).2.2.1 ∈ gw := gwm 266 (by decide +kernel) rfl
theorem fX9_44 : jFL RX9 44 9 RX9 TX9 7 tyX9 5 := ⟨rfl, inlX9, by decide, gm_78, tyX9_ok, nmX9⟩
theorem gm_79 : Cond.fieldLink RX9 48 (TX9 6).1 (TX9 6).2.1 (TX9 6).2.2.1 ∈ gw := gwm 267 (by decide +kernel) rfl
theorem fX9_48 : jFL RX9 48 9 RX9 TX9 7 tyX9 6 := ⟨rfl, inlX9, by decide, gm_79, tyX9_ok, nmX9⟩
theorem gm_80 : Cond.methodLink RL 7 yX9_put ∈ gw := gwm 443 (by decide +kernel) rfl
theorem gm_81 : Cond.initialized RX9 ∈ gw := gwm 52 (by decide +kernel) rfl
theorem gm_82 : Cond.code yX9_put cX9_put 5 (some .int) ∈ gw := gwm 446 (by decide +kernel) rfl
theorem gm_83 : Cond.instanceMethod yX9_put ∈ gw := gwm 444 (by decide +kernel) rfl
theorem gm_84 : Cond.selects RX9 yX9_put yX9_put ∈ gw := gwm 445 (by decide +kernel) rfl
theorem kL_7 : jLV RL 7 9 yX9_put cX9_put 5 (some .int) 3 := ⟨⟨_, _, rfl⟩, gm_80, gm_83, gm_84, gm_81, gm_82, by decide +kernel⟩
theorem gm_85 : Cond.methodLink RL 15 yX9_putIfAbsent ∈ gw := gwm 562 (by decide +kernel) rfl
theorem gm_86 : Cond.code yX9_putIfAbsent cX9_putIfAbsent 5 (some .int) ∈ gw := gwm 565 (by decide +kernel) rfl
theorem gm_87 : Cond.instanceMethod yX9_putIfAbsent ∈ gw := gwm 563 (by decide +kernel) rfl
theorem gm_88 : Cond.selects RX9 yX9_putIfAbsent yX9_putIfAbsent ∈ gw := gwm 564 (by decide +kernel) rfl
theorem kL_15 : jLV RL 15 9 yX9_putIfAbsent cX9_putIfAbsent 5 (some .int) 3 := ⟨⟨_, _, rfl⟩, gm_85, gm_87, gm_88, gm_81, gm_86, by decide +kernel⟩
theorem gm_89 : Cond.methodLink RL 18 yX9_get ∈ gw := gwm 574 (by decide +kernel) rfl
theorem gm_90 : Cond.code yX9_get cX9_get 4 (some .int) ∈ gw := gwm 577 (by decide +kernel) rfl
theorem gm_91 : Cond.instanceMethod yX9_get ∈ gw := gwm 575 (by decide +kernel) rfl
theorem gm_92 : Cond.selects RX9 yX9_get yX9_get ∈ gw := gwm 576 (by decide +kernel) rfl
theorem kL_18 : jLV RL 18 9 yX9_get cX9_get 4 (some .int) 2 := ⟨⟨_, _, rfl⟩, gm_89, gm_91, gm_92, gm_81, gm_90, by decide +kernel⟩
theorem gm_93 : Cond.methodLink RL 22 yX9_getOrDefault ∈ gw := gwm 585 (by decide +kernel) rfl
theorem gm_94 : Cond.code yX9_getOrDefault cX9_getOrDefault 6 (some .int) ∈ gw := gwm 588 (by decide +kernel) rfl
theorem gm_95 : Cond.instanceMethod yX9_getOrDefault ∈ gw := gwm 586 (by decide +kernel) rfl
theorem gm_96 : Cond.selects RX9 yX9_getOrDefault yX9_getOrDefault ∈ gw := gwm 587 (by decide +kernel) rfl
theorem kL_22 : jLV RL 22 9 yX9_getOrDefault cX9_getOrDefault 6 (some .int) 3 := ⟨⟨_, _, rfl⟩, gm_93, gm_95, gm_96, gm_81, gm_94, by decide +kernel⟩
theorem gm_97 : Cond.methodLink RL 25 yX9_remove ∈ gw := gwm 592 (by decide +kernel) rfl
theorem gm_98 : Cond.code yX9_remove cX9_remove 4 (some .int) ∈ gw := gwm 595 (by decide +kernel) rfl
theorem gm_99 : Cond.instanceMethod yX9_remove ∈ gw := gwm 593 (by decide +kernel) rfl
theorem gm_100 : Cond.selects RX9 yX9_remove yX9_remove ∈ gw := gwm 594 (by decide +kernel) rfl
theorem kL_25 : jLV RL 25 9 yX9_remove cX9_remove 4 (some .int) 2 := ⟨⟨_, _, rfl⟩, gm_97, gm_99, gm_100, gm_81, gm_98, by decide +kernel⟩
theorem gm_101 : Cond.methodLink RL 28 yX9_clear ∈ gw := gwm 605 (by decide +kernel) rfl
theorem gm_102 : Cond.code yX9_clear cX9_clear 2 (some .int) ∈ gw := gwm 608 (by decide +kernel) rfl
theorem gm_103 : Cond.instanceMethod yX9_clear ∈ gw := gwm 606 (by decide +kernel) rfl
theorem gm_104 : Cond.selects RX9 yX9_clear yX9_clear ∈ gw := gwm 607 (by decide +kernel) rfl
theorem kL_28 : jLV RL 28 9 yX9_clear cX9_clear 2 (some .int) 1 := ⟨⟨_, _, rfl⟩, gm_101, gm_103, gm_104, gm_81, gm_102, by decide +kernel⟩
theorem gm_105 : Cond.methodLink RL 32 yX9_setBound ∈ gw := gwm 618 (by decide +kernel) rfl
theorem gm_106 : Cond.code yX9_setBound cX9_setBound 2 (some .int) ∈ gw := gwm 621 (by decide +kernel) rfl
theorem gm_107 : Cond.instanceMethod yX9_setBound ∈ gw := gwm 619 (by decide +kernel) rfl
theorem gm_108 : Cond.selects RX9 yX9_setBound yX9_setBound ∈ gw := gwm 620 (by decide +kernel) rfl
theorem kL_32 : jLV RL 32 9 yX9_setBound cX9_setBound 2 (some .int) 1 := ⟨⟨_, _, rfl⟩, gm_105, gm_107, gm_108, gm_81, gm_106, by decide +kernel⟩
theorem gm_109 : Cond.methodLink RL 35 yX9_hasKey ∈ gw := gwm 630 (by decide +kernel) rfl
theorem gm_110 : Cond.code yX9_hasKey cX9_hasKey 4 (some .boolean) ∈ gw := gwm 633 (by decide +kernel) rfl
theorem gm_111 : Cond.instanceMethod yX9_hasKey ∈ gw := gwm 631 (by decide +kernel) rfl
theorem gm_112 : Cond.selects RX9 yX9_hasKey yX9_hasKey ∈ gw := gwm 632 (by decide +kernel) rfl
theorem kL_35 : jLV RL 35 9 yX9_hasKey cX9_hasKey 4 (some .boolean) 2 := ⟨⟨_, _, rfl⟩, gm_109, gm_111, gm_112, gm_81, gm_110, by decide +kernel⟩
theorem gm_113 : Cond.methodLink RL 39 yX9_hasValue ∈ gw := gwm 638 (by decide +kernel) rfl
theorem gm_114 : Cond.code yX9_hasValue cX9_hasValue 4 (some .boolean) ∈ gw := gwm 641 (by decide +kernel) rfl
theorem gm_115 : Cond.instanceMethod yX9_hasValue ∈ gw := gwm 639 (by decide +kernel) rfl
theorem gm_116 : Cond.selects RX9 yX9_hasValue yX9_hasValue ∈ gw := gwm 640 (by decide +kernel) rfl
theorem kL_39 : jLV RL 39 9 yX9_hasValue cX9_hasValue 4 (some .boolean) 2 := ⟨⟨_, _, rfl⟩, gm_113, gm_115, gm_116, gm_81, gm_114, by decide +kernel⟩
theorem gm_117 : Cond.methodLink RL 42 yX9_size ∈ gw := gwm 654 (by decide +kernel) rfl
theorem gm_118 : Cond.code yX9_size cX9_size 2 (some .int) ∈ gw := gwm 657 (by decide +kernel) rfl
theorem gm_119 : Cond.instanceMethod yX9_size ∈ gw := gwm 655 (by decide +kernel) rfl
theorem gm_120 : Cond.selects RX9 yX9_size yX9_size ∈ gw := gwm 656 (by decide +kernel) rfl
theorem kL_42 : jLV RL 42 9 yX9_size cX9_size 2 (some .int) 1 := ⟨⟨_, _, rfl⟩, gm_117, gm_119, gm_120, gm_81, gm_118, by decide +kernel⟩
theorem gm_121 : Cond.methodLink RL 45 yX9_keyAt ∈ gw := gwm 666 (by decide +kernel) rfl
theorem gm_122 : Cond.code yX9_keyAt cX9_keyAt 4 (some .int) ∈ gw := gwm 669 (by decide +kernel) rfl
theorem gm_123 : Cond.instanceMethod yX9_keyAt ∈ gw := gwm 667 (by decide +kernel) rfl
theorem gm_124 : Cond.selects RX9 yX9_keyAt yX9_keyAt ∈ gw := gwm 668 (by decide +kernel) rfl
theorem kL_45 : jLV RL 45 9 yX9_keyAt cX9_keyAt 4 (some .int) 2 := ⟨⟨_, _, rfl⟩, gm_121, gm_123, gm_124, gm_81, gm_122, by decide +kernel⟩
theorem gm_125 : Cond.methodLink RL 50 yX9_valueAt ∈ gw := gwm 692 (by decide +kernel) rfl
theorem gm_126 : Cond.code yX9_valueAt cX9_valueAt 4 (some .int) ∈ gw := gwm 695 (by decide +kernel) rfl
theorem gm_127 : Cond.instanceMethod yX9_valueAt ∈ gw := gwm 693 (by decide +kernel) rfl
theorem gm_128 : Cond.selects RX9 yX9_valueAt yX9_valueAt ∈ gw := gwm 694 (by decide +kernel) rfl
theorem kL_50 : jLV RL 50 9 yX9_valueAt cX9_valueAt 4 (some .int) 2 := ⟨⟨_, _, rfl⟩, gm_125, gm_127, gm_128, gm_81, gm_126, by decide +kernel⟩
theorem gm_129 : Cond.methodLink RL 53 yX9_placeOf ∈ gw := gwm 700 (by decide +kernel) rfl
theorem gm_130 : Cond.code yX9_placeOf cX9_placeOf 4 (some .int) ∈ gw := gwm 703 (by decide +kernel) rfl
theorem gm_131 : Cond.instanceMethod yX9_placeOf ∈ gw := gwm 701 (by decide +kernel) rfl
theorem gm_132 : Cond.selects RX9 yX9_placeOf yX9_placeOf ∈ gw := gwm 702 (by decide +kernel) rfl
theorem kL_53 : jLV RL 53 9 yX9_placeOf cX9_placeOf 4 (some .int) 2 := ⟨⟨_, _, rfl⟩, gm_129, gm_131, gm_132, gm_81, gm_130, by decide +kernel⟩
theorem gm_133 : Cond.methodLink RL 56 yX9_sum ∈ gw := gwm 708 (by decide +kernel) rfl
theorem gm_134 : Cond.code yX9_sum cX9_sum 2 (some .int) ∈ gw := gwm 711 (by decide +kernel) rfl
theorem gm_135 : Cond.instanceMethod yX9_sum ∈ gw := gwm 709 (by decide +kernel) rfl
theorem gm_136 : Cond.selects RX9 yX9_sum yX9_sum ∈ gw := gwm 710 (by decide +kernel) rfl
theorem kL_56 : jLV RL 56 9 yX9_sum cX9_sum 2 (some .int) 1 := ⟨⟨_, _, rfl⟩, gm_133, gm_135, gm_136, gm_81, gm_134, by decide +kernel⟩
theorem gm_137 : Cond.methodLink RL 59 yX9_beginCursor ∈ gw := gwm 719 (by decide +kernel) rfl
theorem gm_138 : Cond.code yX9_beginCursor cX9_beginCursor 3 (some .int) ∈ gw := gwm 722 (by decide +kernel) rfl
theorem gm_139 : Cond.instanceMethod yX9_beginCursor ∈ gw := gwm 720 (by decide +kernel) rfl
theorem gm_140 : Cond.selects RX9 yX9_beginCursor yX9_beginCursor ∈ gw := gwm 721 (by decide +kernel) rfl
theorem kL_59 : jLV RL 59 9 yX9_beginCursor cX9_beginCursor 3 (some .int) 1 := ⟨⟨_, _, rfl⟩, gm_137, gm_139, gm_140, gm_81, gm_138, by decide +kernel⟩
theorem gm_141 : Cond.methodLink RL 62 yX9_hasNext ∈ gw := gwm 734 (by decide +kernel) rfl
theorem gm_142 : Cond.code yX9_hasNext cX9_hasNext 3 (some .boolean) ∈ gw := gwm 737 (by decide +kernel) rfl
theorem gm_143 : Cond.instanceMethod yX9_hasNext ∈ gw := gwm 735 (by decide +kernel) rfl
theorem gm_144 : Cond.selects RX9 yX9_hasNext yX9_hasNext ∈ gw := gwm 736 (by decide +kernel) rfl
theorem kL_62 : jLV RL 62 9 yX9_hasNext cX9_hasNext 3 (some .boolean) 1 := ⟨⟨_, _, rfl⟩, gm_141, gm_143, gm_144, gm_81, gm_142, by decide +kernel⟩
theorem gm_145 : Cond.methodLink RL 66 yX9_next ∈ gw := gwm 747 (by decide +kernel) rfl
theorem gm_146 : Cond.code yX9_next cX9_next 4 (some .int) ∈ gw := gwm 750 (by decide +kernel) rfl
theorem gm_147 : Cond.instanceMethod yX9_next ∈ gw := gwm 748 (by decide +kernel) rfl
theorem gm_148 : Cond.selects RX9 yX9_next yX9_next ∈ gw := gwm 749 (by decide +kernel) rfl
theorem kL_66 : jLV RL 66 9 yX9_next cX9_next 4 (some .int) 1 := ⟨⟨_, _, rfl⟩, gm_145, gm_147, gm_148, gm_81, gm_146, by decide +kernel⟩
theorem gm_149 : Cond.methodLink RL 73 yX9_takeOut ∈ gw := gwm 794 (by decide +kernel) rfl
theorem gm_150 : Cond.code yX9_takeOut cX9_takeOut 3 (some .int) ∈ gw := gwm 797 (by decide +kernel) rfl
theorem gm_151 : Cond.instanceMethod yX9_takeOut ∈ gw := gwm 795 (by decide +kernel) rfl
theorem gm_152 : Cond.selects RX9 yX9_takeOut yX9_takeOut ∈ gw := gwm 796 (by decide +kernel) rfl
theorem kL_73 : jLV RL 73 9 yX9_takeOut cX9_takeOut 3 (some .int) 1 := ⟨⟨_, _, rfl⟩, gm_149, gm_151, gm_152, gm_81, gm_150, by decide +kernel⟩
theorem gm_153 : Cond.methodLink RL 76 yX9_request ∈ gw := gwm 811 (by decide +kernel) rfl
theorem gm_154 : Cond.code yX9_request cX9_request 2 (some .int) ∈ gw := gwm 814 (by decide +kernel) rfl
theorem gm_155 : Cond.instanceMethod yX9_request ∈ gw := gwm 812 (by decide +kernel) rfl
theorem gm_156 : Cond.selects RX9 yX9_request yX9_request ∈ gw := gwm 813 (by decide +kernel) rfl
theorem kL_76 : jLV RL 76 9 yX9_request cX9_request 2 (some .int) 1 := ⟨⟨_, _, rfl⟩, gm_153, gm_155, gm_156, gm_81, gm_154, by decide +kernel⟩
theorem gm_157 : Cond.methodLink RL 79 yX9_hits ∈ gw := gwm 840 (by decide +kernel) rfl
theorem gm_158 : Cond.code yX9_hits cX9_hits 2 (some .int) ∈ gw := gwm 843 (by decide +kernel) rfl
theorem gm_159 : Cond.instanceMethod yX9_hits ∈ gw := gwm 841 (by decide +kernel) rfl
theorem gm_160 : Cond.selects RX9 yX9_hits yX9_hits ∈ gw := gwm 842 (by decide +kernel) rfl
theorem kL_79 : jLV RL 79 9 yX9_hits cX9_hits 2 (some .int) 1 := ⟨⟨_, _, rfl⟩, gm_157, gm_159, gm_160, gm_81, gm_158, by decide +kernel⟩
theorem gm_161 : Cond.methodLink RL 82 yX9_cached ∈ gw := gwm 851 (by decide +kernel) rfl
theorem gm_162 : Cond.code yX9_cached cX9_cached 2 (some .int) ∈ gw := gwm 854 (by decide +kernel) rfl
theorem gm_163 : Cond.instanceMethod yX9_cached ∈ gw := gwm 852 (by decide +kernel) rfl
theorem gm_164 : Cond.selects RX9 yX9_cached yX9_cached ∈ gw := gwm 853 (by decide +kernel) rfl
theorem kL_82 : jLV RL 82 9 yX9_cached cX9_cached 2 (some .int) 1 := ⟨⟨_, _, rfl⟩, gm_161, gm_163, gm_164, gm_81, gm_162, by decide +kernel⟩
theorem gm_165 : Cond.methodLink RL 85 yX9_isCached ∈ gw := gwm 858 (by decide +kernel) rfl
theorem gm_166 : Cond.code yX9_isCached cX9_isCached 4 (some .boolean) ∈ gw := gwm 861 (by decide +kernel) rfl
theorem gm_167 : Cond.instanceMethod yX9_isCached ∈ gw := gwm 859 (by decide +kernel) rfl
theorem gm_168 : Cond.selects RX9 yX9_isCached yX9_isCached ∈ gw := gwm 860 (by decide +kernel) rfl
theorem kL_85 : jLV RL 85 9 yX9_isCached cX9_isCached 4 (some .boolean) 2 := ⟨⟨_, _, rfl⟩, gm_165, gm_167, gm_168, gm_81, gm_166, by decide +kernel⟩
theorem gm_169 : Cond.methodLink RL 88 yX9_cachedAt ∈ gw := gwm 865 (by decide +kernel) rfl
theorem gm_170 : Cond.code yX9_cachedAt cX9_cachedAt 4 (some .int) ∈ gw := gwm 868 (by decide +kernel) rfl
theorem gm_171 : Cond.instanceMethod yX9_cachedAt ∈ gw := gwm 866 (by decide +kernel) rfl
theorem gm_172 : Cond.selects RX9 yX9_cachedAt yX9_cachedAt ∈ gw := gwm 867 (by decide +kernel) rfl
theorem kL_88 : jLV RL 88 9 yX9_cachedAt cX9_cachedAt 4 (some .int) 2 := ⟨⟨_, _, rfl⟩, gm_169, gm_171, gm_172, gm_81, gm_170, by decide +kernel⟩
theorem gm_173 : Cond.methodLink RL 91 yX9_requestAt ∈ gw := gwm 872 (by decide +kernel) rfl
theorem gm_174 : Cond.code yX9_requestAt cX9_requestAt 2 (some .int) ∈ gw := gwm 875 (by decide +kernel) rfl
theorem gm_175 : Cond.instanceMethod yX9_requestAt ∈ gw := gwm 873 (by decide +kernel) rfl
theorem gm_176 : Cond.selects RX9 yX9_requestAt yX9_requestAt ∈ gw := gwm 874 (by decide +kernel) rfl
theorem kL_91 : jLV RL 91 9 yX9_requestAt cX9_requestAt 2 (some .int) 1 := ⟨⟨_, _, rfl⟩, gm_173, gm_175, gm_176, gm_81, gm_174, by decide +kernel⟩
theorem gm_177 : Cond.methodLink RL 94 yX9_distanceOf ∈ gw := gwm 883 (by decide +kernel) rfl
theorem gm_178 : Cond.code yX9_distanceOf cX9_distanceOf 2 (some .int) ∈ gw := gwm 886 (by decide +kernel) rfl
theorem gm_179 : Cond.instanceMethod yX9_distanceOf ∈ gw := gwm 884 (by decide +kernel) rfl
theorem gm_180 : Cond.selects RX9 yX9_distanceOf yX9_distanceOf ∈ gw := gwm 885 (by decide +kernel) rfl
theorem kL_94 : jLV RL 94 9 yX9_distanceOf cX9_distanceOf 2 (some .int) 1 := ⟨⟨_, _, rfl⟩, gm_177, gm_179, gm_180, gm_81, gm_178, by decide +kernel⟩
theorem gm_181 : Cond.methodLink RL 97 yX9_nearer ∈ gw := gwm 894 (by decide +kernel) rfl
theorem gm_182 : Cond.code yX9_nearer cX9_nearer 2 (some .int) ∈ gw := gwm 897 (by decide +kernel) rfl
theorem gm_183 : Cond.instanceMethod yX9_nearer ∈ gw := gwm 895 (by decide +kernel) rfl
theorem gm_184 : Cond.selects RX9 yX9_nearer yX9_nearer ∈ gw := gwm 896 (by decide +kernel) rfl
theorem kL_97 : jLV RL 97 9 yX9_nearer cX9_nearer 2 (some .int) 1 := ⟨⟨_, _, rfl⟩, gm_181, gm_183, gm_184, gm_81, gm_182, by decide +kernel⟩
theorem gm_185 : Cond.methodLink RL 100 yX9_leastCache ∈ gw := gwm 901 (by decide +kernel) rfl
theorem gm_186 : Cond.code yX9_leastCache cX9_leastCache 3 (some .int) ∈ gw := gwm 904 (by decide +kernel) rfl
theorem gm_187 : Cond.instanceMethod yX9_leastCache ∈ gw := gwm 902 (by decide +kernel) rfl
theorem gm_188 : Cond.selects RX9 yX9_leastCache yX9_leastCache ∈ gw := gwm 903 (by decide +kernel) rfl
theorem kL_100 : jLV RL 100 9 yX9_leastCache cX9_leastCache 3 (some .int) 1 := ⟨⟨_, _, rfl⟩, gm_185, gm_187, gm_188, gm_81, gm_186, by decide +kernel⟩
theorem gm_189 : Cond.methodLink RL 103 yX9_append ∈ gw := gwm 909 (by decide +kernel) rfl
theorem gm_190 : Cond.code yX9_append cX9_append 8 (some .int) ∈ gw := gwm 912 (by decide +kernel) rfl
theorem gm_191 : Cond.instanceMethod yX9_append ∈ gw := gwm 910 (by decide +kernel) rfl
theorem gm_192 : Cond.selects RX9 yX9_append yX9_append ∈ gw := gwm 911 (by decide +kernel) rfl
theorem kL_103 : jLV RL 103 9 yX9_append cX9_append 8 (some .int) 5 := ⟨⟨_, _, rfl⟩, gm_189, gm_191, gm_192, gm_81, gm_190, by decide +kernel⟩
theorem gm_193 : Cond.methodLink RL 107 yX9_run ∈ gw := gwm 928 (by decide +kernel) rfl
theorem gm_194 : Cond.code yX9_run cX9_run 3 (some .int) ∈ gw := gwm 931 (by decide +kernel) rfl
theorem gm_195 : Cond.instanceMethod yX9_run ∈ gw := gwm 929 (by decide +kernel) rfl
theorem gm_196 : Cond.selects RX9 yX9_run yX9_run ∈ gw := gwm 930 (by decide +kernel) rfl
theorem kL_107 : jLV RL 107 9 yX9_run cX9_run 3 (some .int) 0 := ⟨⟨_, _, rfl⟩, gm_193, gm_195, gm_196, gm_81, gm_194, by decide +kernel⟩
theorem gm_197 : Cond.methodLink RL 111 yX9_setFrames ∈ gw := gwm 1050 (by decide +kernel) rfl
theorem gm_198 : Cond.code yX9_setFrames cX9_setFrames 2 (some .int) ∈ gw := gwm 1053 (by decide +kernel) rfl
theorem gm_199 : Cond.instanceMethod yX9_setFrames ∈ gw := gwm 1051 (by decide +kernel) rfl
theorem gm_200 : Cond.selects RX9 yX9_setFrames yX9_setFrames ∈ gw := gwm 1052 (by decide +kernel) rfl
theorem kL_111 : jLV RL 111 9 yX9_setFrames cX9_setFrames 2 (some .int) 1 := ⟨⟨_, _, rfl⟩, gm_197, gm_199, gm_200, gm_81, gm_198, by decide +kernel⟩
theorem gm_201 : Cond.methodLink RL 114 yX9_wordAt ∈ gw := gwm 1063 (by decide +kernel) rfl
theorem gm_202 : Cond.code yX9_wordAt cX9_wordAt 2 (some .int) ∈ gw := gwm 1066 (by decide +kernel) rfl
theorem gm_203 : Cond.instanceMethod yX9_wordAt ∈ gw := gwm 1064 (by decide +kernel) rfl
theorem gm_204 : Cond.selects RX9 yX9_wordAt yX9_wordAt ∈ gw := gwm 1065 (by decide +kernel) rfl
theorem kL_114 : jLV RL 114 9 yX9_wordAt cX9_wordAt 2 (some .int) 1 := ⟨⟨_, _, rfl⟩, gm_201, gm_203, gm_204, gm_81, gm_202, by decide +kernel⟩
theorem gm_205 : Cond.methodLink RL 117 yX9_discAt ∈ gw := gwm 1071 (by decide +kernel) rfl
theorem gm_206 : Cond.code yX9_discAt cX9_discAt 2 (some .int) ∈ gw := gwm 1074 (by decide +kernel) rfl
theorem gm_207 : Cond.instanceMethod yX9_discAt ∈ gw := gwm 1072 (by decide +kernel) rfl
theorem gm_208 : Cond.selects RX9 yX9_discAt yX9_discAt ∈ gw := gwm 1073 (by decide +kernel) rfl
theorem kL_117 : jLV RL 117 9 yX9_discAt cX9_discAt 2 (some .int) 1 := ⟨⟨_, _, rfl⟩, gm_205, gm_207, gm_208, gm_81, gm_206, by decide +kernel⟩
theorem gm_209 : Cond.methodLink RL 120 yX9_residentAt ∈ gw := gwm 1082 (by decide +kernel) rfl
theorem gm_210 : Cond.code yX9_residentAt cX9_residentAt 2 (some .int) ∈ gw := gwm 1085 (by decide +kernel) rfl
theorem gm_211 : Cond.instanceMethod yX9_residentAt ∈ gw := gwm 1083 (by decide +kernel) rfl
theorem gm_212 : Cond.selects RX9 yX9_residentAt yX9_residentAt ∈ gw := gwm 1084 (by decide +kernel) rfl
theorem kL_120 : jLV RL 120 9 yX9_residentAt cX9_residentAt 2 (some .int) 1 := ⟨⟨_, _, rfl⟩, gm_209, gm_211, gm_212, gm_81, gm_210, by decide +kernel⟩
theorem gm_213 : Cond.methodLink RL 123 yX9_isDirty ∈ gw := gwm 1089 (by decide +kernel) rfl
theorem gm_214 : Cond.code yX9_isDirty cX9_isDirty 2 (some .boolean) ∈ gw := gwm 1092 (by decide +kernel) rfl
theorem gm_215 : Cond.instanceMethod yX9_isDirty ∈ gw := gwm 1090 (by decide +kernel) rfl
theorem gm_216 : Cond.selects RX9 yX9_isDirty yX9_isDirty ∈ gw := gwm 1091 (by decide +kernel) rfl
theorem kL_123 : jLV RL 123 9 yX9_isDirty cX9_isDirty 2 (some .boolean) 1 := ⟨⟨_, _, rfl⟩, gm_213, gm_215, gm_216, gm_81, gm_214, by decide +kernel⟩
theorem gm_217 : Cond.methodLink RL 126 yX9_hitShare ∈ gw := gwm 1097 (by decide +kernel) rfl
theorem gm_218 : Cond.code yX9_hitShare cX9_hitShare 4 (some .float) ∈ gw := gwm 1100 (by decide +kernel) rfl
theorem gm_219 : Cond.instanceMethod yX9_hitShare ∈ gw := gwm 1098 (by decide +kernel) rfl
theorem gm_220 : Cond.selects RX9 yX9_hitShare yX9_hitShare ∈ gw := gwm 1099 (by decide +kernel) rfl
theorem kL_126 : jLV RL 126 9 yX9_hitShare cX9_hitShare 4 (some .float) 1 := ⟨⟨_, _, rfl⟩, gm_217, gm_219, gm_220, gm_81, gm_218, by decide +kernel⟩
theorem gm_221 : Cond.methodLink RL 139 yX10_put ∈ gw := gwm 1220 (by decide +kernel) rfl
theorem gm_222 : Cond.initialized RX10 ∈ gw := gwm 62 (by decide +kernel) rfl
theorem gm_223 : Cond.code yX10_put cX10_put 6 (some .int) ∈ gw := gwm 1223 (by decide +kernel) rfl
theorem gm_224 : Cond.instanceMethod yX10_put ∈ gw := gwm 1221 (by decide +kernel) rfl
theorem gm_225 : Cond.selects RX10 yX10_put yX10_put ∈ gw := gwm 1222 (by decide +kernel) rfl
theorem kL_139 : jLV RL 139 10 yX10_put cX10_put 6 (some .int) 3 := ⟨⟨_, _, rfl⟩, gm_221, gm_224, gm_225, gm_222, gm_223, by decide +kernel⟩
theorem gm_226 : Cond.methodLink RL 140 yX10_thrown ∈ gw := gwm 1101 (by decide +kernel) rfl
theorem gm_227 : Cond.code yX10_thrown cX10_thrown 1 (some .int) ∈ gw := gwm 1104 (by decide +kernel) rfl
theorem gm_228 : Cond.instanceMethod yX10_thrown ∈ gw := gwm 1102 (by decide +kernel) rfl
theorem gm_229 : Cond.selects RX10 yX10_thrown yX10_thrown ∈ gw := gwm 1103 (by decide +kernel) rfl
theorem kL_140 : jLV RL 140 10 yX10_thrown cX10_thrown 1 (some .int) 0 := ⟨⟨_, _, rfl⟩, gm_226, gm_228, gm_229, gm_222, gm_227, by decide +kernel⟩
theorem gm_230 : Cond.methodLink RL 145 yX10_putIfAbsent ∈ gw := gwm 1259 (by decide +kernel) rfl
theorem gm_231 : Cond.code yX10_putIfAbsent cX10_putIfAbsent 5 (some .int) ∈ gw := gwm 1262 (by decide +kernel) rfl
theorem gm_232 : Cond.instanceMethod yX10_putIfAbsent ∈ gw := gwm 1260 (by decide +kernel) rfl
theorem gm_233 : Cond.selects RX10 yX10_putIfAbsent yX10_putIfAbsent ∈ gw := gwm 1261 (by decide +kernel) rfl
theorem kL_145 : jLV RL 145 10 yX10_putIfAbsent cX10_putIfAbsent 5 (some .int) 3 := ⟨⟨_, _, rfl⟩, gm_230, gm_232, gm_233, gm_222, gm_231, by decide +kernel⟩
theorem gm_234 : Cond.methodLink RL 149 yX10_get ∈ gw := gwm 1267 (by decide +kernel) rfl
theorem gm_235 : Cond.code yX10_get cX10_get 3 (some .int) ∈ gw := gwm 1270 (by decide +kernel) rfl
theorem gm_236 : Cond.instanceMethod yX10_get ∈ gw := gwm 1268 (by decide +kernel) rfl
theorem gm_237 : Cond.selects RX10 yX10_get yX10_get ∈ gw := gwm 1269 (by decide +kernel) rfl
theorem kL_149 : jLV RL 149 10 yX10_get cX10_get 3 (some .int) 2 := ⟨⟨_, _, rfl⟩, gm_234, gm_236, gm_237, gm_222, gm_235, by decide +kernel⟩
theorem gm_238 : Cond.methodLink RL 152 yX10_getOrDefault ∈ gw := gwm 1271 (by decide +kernel) rfl
theorem gm_239 : Cond.code yX10_getOrDefault cX10_getOrDefault 5 (some .int) ∈ gw := gwm 1274 (by decide +kernel) rfl
theorem gm_240 : Cond.instanceMethod yX10_getOrDefault ∈ gw := gwm 1272 (by decide +kernel) rfl
theorem gm_241 : Cond.selects RX10 yX10_getOrDefault yX10_getOrDefault ∈ gw := gwm 1273 (by decide +kernel) rfl
theorem kL_152 : jLV RL 152 10 yX10_getOrDefault cX10_getOrDefault 5 (some .int) 3 := ⟨⟨_, _, rfl⟩, gm_238, gm_240, gm_241, gm_222, gm_239, by decide +kernel⟩
theorem gm_242 : Cond.methodLink RL 155 yX10_remove ∈ gw := gwm 1275 (by decide +kernel) rfl
theorem gm_243 : Cond.code yX10_remove cX10_remove 4 (some .int) ∈ gw := gwm 1278 (by decide +kernel) rfl
theorem gm_244 : Cond.instanceMethod yX10_remove ∈ gw := gwm 1276 (by decide +kernel) rfl
theorem gm_245 : Cond.selects RX10 yX10_remove yX10_remove ∈ gw := gwm 1277 (by decide +kernel) rfl
theorem kL_155 : jLV RL 155 10 yX10_remove cX10_remove 4 (some .int) 2 := ⟨⟨_, _, rfl⟩, gm_242, gm_244, gm_245, gm_222, gm_243, by decide +kernel⟩
theorem gm_246 : Cond.methodLink RL 159 yX10_clear ∈ gw := gwm 1279 (by decide +kernel) rfl
theorem gm_247 : Cond.code yX10_clear cX10_clear 3 (some .int) ∈ gw := gwm 1282 (by decide +kernel) rfl
theorem gm_248 : Cond.instanceMethod yX10_clear ∈ gw := gwm 1280 (by decide +kernel) rfl
theorem gm_249 : Cond.selects RX10 yX10_clear yX10_clear ∈ gw := gwm 1281 (by decide +kernel) rfl
theorem kL_159 : jLV RL 159 10 yX10_clear cX10_clear 3 (some .int) 1 := ⟨⟨_, _, rfl⟩, gm_246, gm_248, gm_249, gm_222, gm_247, by decide +kernel⟩
theorem gm_250 : Cond.methodLink RL 162 yX10_setBound ∈ gw := gwm 1283 (by decide +kernel) rfl
theorem gm_251 : Cond.code yX10_setBound cX10_setBound 3 (some .int) ∈ gw := gwm 1286 (by decide +kernel) rfl
theorem gm_252 : Cond.instanceMethod yX10_setBound ∈ gw := gwm 1284 (by decide +kernel) rfl
theorem gm_253 : Cond.selects RX10 yX10_setBound yX10_setBound ∈ gw := gwm 1285 (by decide +kernel) rfl
theorem kL_162 : jLV RL 162 10 yX10_setBound cX10_setBound 3 (some .int) 1 := ⟨⟨_, _, rfl⟩, gm_250, gm_252, gm_253, gm_222, gm_251, by decide +kernel⟩
theorem gm_254 : Cond.methodLink RL 165 yX10_hasKey ∈ gw := gwm 1287 (by decide +kernel) rfl
theorem gm_255 : Cond.code yX10_hasKey cX10_hasKey 3 (some .boolean) ∈ gw := gwm 1290 (by decide +kernel) rfl
theorem gm_256 : Cond.instanceMethod yX10_hasKey ∈ gw := gwm 1288 (by decide +kernel) rfl
theorem gm_257 : Cond.selects RX10 yX10_hasKey yX10_hasKey ∈ gw := gwm 1289 (by decide +kernel) rfl
theorem kL_165 : jLV RL 165 10 yX10_hasKey cX10_hasKey 3 (some .boolean) 2 := ⟨⟨_, _, rfl⟩, gm_254, gm_256, gm_257, gm_222, gm_255, by decide +kernel⟩
theorem gm_258 : Cond.methodLink RL 168 yX10_hasValue ∈ gw := gwm 1291 (by decide +kernel) rfl
theorem gm_259 : Cond.code yX10_hasValue cX10_hasValue 4 (some .boolean) ∈ gw := gwm 1294 (by decide +kernel) rfl
theorem gm_260 : Cond.instanceMethod yX10_hasValue ∈ gw := gwm 1292 (by decide +kernel) rfl
theorem gm_261 : Cond.selects RX10 yX10_hasValue yX10_hasValue ∈ gw := gwm 1293 (by decide +kernel) rfl
theorem kL_168 : jLV RL 168 10 yX10_hasValue cX10_hasValue 4 (some .boolean) 2 := ⟨⟨_, _, rfl⟩, gm_258, gm_260, gm_261, gm_222, gm_259, by decide +kernel⟩
theorem gm_262 : Cond.methodLink RL 171 yX10_size ∈ gw := gwm 1295 (by decide +kernel) rfl
theorem gm_263 : Cond.code yX10_size cX10_size 2 (some .int) ∈ gw := gwm 1298 (by decide +kernel) rfl
theorem gm_264 : Cond.instanceMethod yX10_size ∈ gw := gwm 1296 (by decide +kernel) rfl
theorem gm_265 : Cond.selects RX10 yX10_size yX10_size ∈ gw := gwm 1297 (by decide +kernel) rfl
theorem kL_171 : jLV RL 171 10 yX10_size cX10_size 2 (some .int) 1 := ⟨⟨_, _, rfl⟩, gm_262, gm_264, gm_265, gm_222, gm_263, by decide +kernel⟩
theorem gm_266 : Cond.methodLink RL 174 yX10_keyAt ∈ gw := gwm 1299 (by decide +kernel) rfl
theorem gm_267 : Cond.code yX10_keyAt cX10_keyAt 3 (some .int) ∈ gw := gwm 1302 (by decide +kernel) rfl
theorem gm_268 : Cond.instanceMethod yX10_keyAt ∈ gw := gwm 1300 (by decide +kernel) rfl
theorem gm_269 : Cond.selects RX10 yX10_keyAt yX10_keyAt ∈ gw := gwm 1301 (by decide +kernel) rfl
theorem kL_174 : jLV RL 174 10 yX10_keyAt cX10_keyAt 3 (some .int) 2 := ⟨⟨_, _, rfl⟩, gm_266, gm_268, gm_269, gm_222, gm_267, by decide +kernel⟩
theorem gm_270 : Cond.methodLink RL 177 yX10_valueAt ∈ gw := gwm 1307 (by decide +kernel) rfl
theorem gm_271 : Cond.code yX10_valueAt cX10_valueAt 3 (some .int) ∈ gw := gwm 1310 (by decide +kernel) rfl
theorem gm_272 : Cond.instanceMethod yX10_valueAt ∈ gw := gwm 1308 (by decide +kernel) rfl
theorem gm_273 : Cond.selects RX10 yX10_valueAt yX10_valueAt ∈ gw := gwm 1309 (by decide +kernel) rfl
theorem kL_177 : jLV RL 177 10 yX10_valueAt cX10_valueAt 3 (some .int) 2 := ⟨⟨_, _, rfl⟩, gm_270, gm_272, gm_273, gm_222, gm_271, by decide +kernel⟩
theorem gm_274 : Cond.methodLink RL 180 yX10_placeOf ∈ gw := gwm 1311 (by decide +kernel) rfl
theorem gm_275 : Cond.code yX10_placeOf cX10_placeOf 3 (some .int) ∈ gw := gwm 1314 (by decide +kernel) rfl
theorem gm_276 : Cond.instanceMethod yX10_placeOf ∈ gw := gwm 1312 (by decide +kernel) rfl
theorem gm_277 : Cond.selects RX10 yX10_placeOf yX10_placeOf ∈ gw := gwm 1313 (by decide +kernel) rfl
theorem kL_180 : jLV RL 180 10 yX10_placeOf cX10_placeOf 3 (some .int) 2 := ⟨⟨_, _, rfl⟩, gm_274, gm_276, gm_277, gm_222, gm_275, by decide +kernel⟩
theorem gm_278 : Cond.methodLink RL 183 yX10_sum ∈ gw := gwm 1315 (by decide +kernel) rfl
theorem gm_279 : Cond.code yX10_sum cX10_sum 4 (some .int) ∈ gw := gwm 1318 (by decide +kernel) rfl
theorem gm_280 : Cond.instanceMethod yX10_sum ∈ gw := gwm 1316 (by decide +kernel) rfl
theorem gm_281 : Cond.selects RX10 yX10_sum yX10_sum ∈ gw := gwm 1317 (by decide +kernel) rfl
theorem kL_183 : jLV RL 183 10 yX10_sum cX10_sum 4 (some .int) 1 := ⟨⟨_, _, rfl⟩, gm_278, gm_280, gm_281, gm_222, gm_279, by decide +kernel⟩
theorem gm_282 : Cond.methodLink RL 184 yX9_putOut ∈ gw := gwm 283 (by decide +kernel) rfl
theorem gm_283 : Cond.code yX9_putOut cX9_putOut 1 (some .int) ∈ gw := gwm 286 (by decide +kernel) rfl
theorem gm_284 : Cond.instanceMethod yX9_putOut ∈ gw := gwm 284 (by decide +kernel) rfl
theorem gm_285 : Cond.selects RX9 yX9_putOut yX9_putOut ∈ gw := gwm 285 (by decide +kernel) rfl
theorem kL_184 : jLV RL 184 9 yX9_putOut cX9_putOut 1 (some .int) 0 := ⟨⟨_, _, rfl⟩, gm_282, gm_284, gm_285, gm_81, gm_283, by decide +kernel⟩
theorem gm_286 : Cond.methodLink RL 187 yX10_putOut ∈ gw := gwm 1319 (by decide +kernel) rfl
theorem gm_287 : Cond.code yX10_putOut cX10_putOut 1 (some .int) ∈ gw := gwm 1322 (by decide +kernel) rfl
theorem gm_288 : Cond.instanceMethod yX10_putOut ∈ gw := gwm 1320 (by decide +kernel) rfl
theorem gm_289 : Cond.selects RX10 yX10_putOut yX10_putOut ∈ gw := gwm 1321 (by decide +kernel) rfl
theorem kL_187 : jLV RL 187 10 yX10_putOut cX10_putOut 1 (some .int) 0 := ⟨⟨_, _, rfl⟩, gm_286, gm_288, gm_289, gm_222, gm_287, by decide +kernel⟩
theorem gm_290 : Cond.methodLink RL 188 yX9_lastPutOut ∈ gw := gwm 291 (by decide +kernel) rfl
theorem gm_291 : Cond.code yX9_lastPutOut cX9_lastPutOut 1 (some .int) ∈ gw := gwm 294 (by decide +kernel) rfl
theorem gm_292 : Cond.instanceMethod yX9_lastPutOut ∈ gw := gwm 292 (by decide +kernel) rfl
theorem gm_293 : Cond.selects RX9 yX9_lastPutOut yX9_lastPutOut ∈ gw := gwm 293 (by decide +kernel) rfl
theorem kL_188 : jLV RL 188 9 yX9_lastPutOut cX9_lastPutOut 1 (some .int) 0 := ⟨⟨_, _, rfl⟩, gm_290, gm_292, gm_293, gm_81, gm_291, by decide +kernel⟩
theorem gm_294 : Cond.methodLink RL 191 yX10_lastPutOut ∈ gw := gwm 1323 (by decide +kernel) rfl
theorem gm_295 : Cond.code yX10_lastPutOut cX10_lastPutOut 1 (some .int) ∈ gw := gwm 1326 (by decide +kernel) rfl
theorem gm_296 : Cond.instanceMethod yX10_lastPutOut ∈ gw := gwm 1324 (by decide +kernel) rfl
theorem gm_297 : Cond.selects RX10 yX10_lastPutOut yX10_lastPutOut ∈ gw := gwm 1325 (by decide +kernel) rfl
theorem kL_191 : jLV RL 191 10 yX10_lastPutOut cX10_lastPutOut 1 (some .int) 0 := ⟨⟨_, _, rfl⟩, gm_294, gm_296, gm_297, gm_222, gm_295, by decide +kernel⟩
theorem gm_298 : Cond.methodLink RL 194 yX10_beginCursor ∈ gw := gwm 1327 (by decide +kernel) rfl
theorem gm_299 : Cond.code yX10_beginCursor cX10_beginCursor 2 (some .int) ∈ gw := gwm 1330 (by decide +kernel) rfl
theorem gm_300 : Cond.instanceMethod yX10_beginCursor ∈ gw := gwm 1328 (by decide +kernel) rfl
theorem gm_301 : Cond.selects RX10 yX10_beginCursor yX10_beginCursor ∈ gw := gwm 1329 (by decide +kernel) rfl
theorem kL_194 : jLV RL 194 10 yX10_beginCursor cX10_beginCursor 2 (some .int) 1 := ⟨⟨_, _, rfl⟩, gm_298, gm_300, gm_301, gm_222, gm_299, by decide +kernel⟩
theorem gm_302 : Cond.methodLink RL 197 yX10_hasNext ∈ gw := gwm 1331 (by decide +kernel) rfl
theorem gm_303 : Cond.code yX10_hasNext cX10_hasNext 2 (some .boolean) ∈ gw := gwm 1334 (by decide +kernel) rfl
theorem gm_304 : Cond.instanceMethod yX10_hasNext ∈ gw := gwm 1332 (by decide +kernel) rfl
theorem gm_305 : Cond.selects RX10 yX10_hasNext yX10_hasNext ∈ gw := gwm 1333 (by decide +kernel) rfl
theorem kL_197 : jLV RL 197 10 yX10_hasNext cX10_hasNext 2 (some .boolean) 1 := ⟨⟨_, _, rfl⟩, gm_302, gm_304, gm_305, gm_222, gm_303, by decide +kernel⟩
theorem gm_306 : Cond.methodLink RL 200 yX10_next ∈ gw := gwm 1335 (by decide +kernel) rfl
theorem gm_307 : Cond.code yX10_next cX10_next 3 (some .int) ∈ gw := gwm 1338 (by decide +kernel) rfl
theorem gm_308 : Cond.instanceMethod yX10_next ∈ gw := gwm 1336 (by decide +kernel) rfl
theorem gm_309 : Cond.selects RX10 yX10_next yX10_next ∈ gw := gwm 1337 (by decide +kernel) rfl
theorem kL_200 : jLV RL 200 10 yX10_next cX10_next 3 (some .int) 1 := ⟨⟨_, _, rfl⟩, gm_306, gm_308, gm_309, gm_222, gm_307, by decide +kernel⟩
theorem gm_310 : Cond.methodLink RL 203 yX10_takeOut ∈ gw := gwm 1339 (by decide +kernel) rfl
theorem gm_311 : Cond.code yX10_takeOut cX10_takeOut 2 (some .int) ∈ gw := gwm 1342 (by decide +kernel) rfl
theorem gm_312 : Cond.instanceMethod yX10_takeOut ∈ gw := gwm 1340 (by decide +kernel) rfl
theorem gm_313 : Cond.selects RX10 yX10_takeOut yX10_takeOut ∈ gw := gwm 1341 (by decide +kernel) rfl
theorem kL_203 : jLV RL 203 10 yX10_takeOut cX10_takeOut 2 (some .int) 1 := ⟨⟨_, _, rfl⟩, gm_310, gm_312, gm_313, gm_222, gm_311, by decide +kernel⟩
theorem gm_314 : Cond.methodLink RL 206 yX10_request ∈ gw := gwm 1343 (by decide +kernel) rfl
theorem gm_315 : Cond.code yX10_request cX10_request 2 (some .int) ∈ gw := gwm 1346 (by decide +kernel) rfl
theorem gm_316 : Cond.instanceMethod yX10_request ∈ gw := gwm 1344 (by decide +kernel) rfl
theorem gm_317 : Cond.selects RX10 yX10_request yX10_request ∈ gw := gwm 1345 (by decide +kernel) rfl
theorem kL_206 : jLV RL 206 10 yX10_request cX10_request 2 (some .int) 1 := ⟨⟨_, _, rfl⟩, gm_314, gm_316, gm_317, gm_222, gm_315, by decide +kernel⟩
theorem gm_318 : Cond.methodLink RL 207 yX9_clearCaches ∈ gw := gwm 299 (by decide +kernel) rfl
theorem gm_319 : Cond.code yX9_clearCaches cX9_clearCaches 3 (some .int) ∈ gw := gwm 302 (by decide +kernel) rfl
theorem gm_320 : Cond.instanceMethod yX9_clearCaches ∈ gw := gwm 300 (by decide +kernel) rfl
theorem gm_321 : Cond.selects RX9 yX9_clearCaches yX9_clearCaches ∈ gw := gwm 301 (by decide +kernel) rfl
theorem kL_207 : jLV RL 207 9 yX9_clearCaches cX9_clearCaches 3 (some .int) 0 := ⟨⟨_, _, rfl⟩, gm_318, gm_320, gm_321, gm_81, gm_319, by decide +kernel⟩
theorem gm_322 : Cond.methodLink RL 210 yX10_clearCaches ∈ gw := gwm 1359 (by decide +kernel) rfl
theorem gm_323 : Cond.code yX10_clearCaches cX10_clearCaches 3 (some .int) ∈ gw := gwm 1362 (by decide +kernel) rfl
theorem gm_324 : Cond.instanceMethod yX10_clearCaches ∈ gw := gwm 1360 (by decide +kernel) rfl
theorem gm_325 : Cond.selects RX10 yX10_clearCaches yX10_clearCaches ∈ gw := gwm 1361 (by decide +kernel) rfl
theorem kL_210 : jLV RL 210 10 yX10_clearCaches cX10_clearCaches 3 (some .int) 0 := ⟨⟨_, _, rfl⟩, gm_322, gm_324, gm_325, gm_222, gm_323, by decide +kernel⟩
theorem gm_326 : Cond.methodLink RL 213 yX10_hits ∈ gw := gwm 1363 (by decide +kernel) rfl
theorem gm_327 : Cond.code yX10_hits cX10_hits 2 (some .int) ∈ gw := gwm 1366 (by decide +kernel) rfl
theorem gm_328 : Cond.instanceMethod yX10_hits ∈ gw := gwm 1364 (by decide +kernel) rfl
theorem gm_329 : Cond.selects RX10 yX10_hits yX10_hits ∈ gw := gwm 1365 (by decide +kernel) rfl
theorem kL_213 : jLV RL 213 10 yX10_hits cX10_hits 2 (some .int) 1 := ⟨⟨_, _, rfl⟩, gm_326, gm_328, gm_329, gm_222, gm_327, by decide +kernel⟩
theorem gm_330 : Cond.methodLink RL 216 yX10_cached ∈ gw := gwm 1371 (by decide +kernel) rfl
theorem gm_331 : Cond.code yX10_cached cX10_cached 2 (some .int) ∈ gw := gwm 1374 (by decide +kernel) rfl
theorem gm_332 : Cond.instanceMethod yX10_cached ∈ gw := gwm 1372 (by decide +kernel) rfl
theorem gm_333 : Cond.selects RX10 yX10_cached yX10_cached ∈ gw := gwm 1373 (by decide +kernel) rfl
theorem kL_216 : jLV RL 216 10 yX10_cached cX10_cached 2 (some .int) 1 := ⟨⟨_, _, rfl⟩, gm_330, gm_332, gm_333, gm_222, gm_331, by decide +kernel⟩
theorem gm_334 : Cond.methodLink RL 219 yX10_isCached ∈ gw := gwm 1375 (by decide +kernel) rfl
theorem gm_335 : Cond.code yX10_isCached cX10_isCached 3 (some .boolean) ∈ gw := gwm 1378 (by decide +kernel) rfl
theorem gm_336 : Cond.instanceMethod yX10_isCached ∈ gw := gwm 1376 (by decide +kernel) rfl
theorem gm_337 : Cond.selects RX10 yX10_isCached yX10_isCached ∈ gw := gwm 1377 (by decide +kernel) rfl
theorem kL_219 : jLV RL 219 10 yX10_isCached cX10_isCached 3 (some .boolean) 2 := ⟨⟨_, _, rfl⟩, gm_334, gm_336, gm_337, gm_222, gm_335, by decide +kernel⟩
theorem gm_338 : Cond.methodLink RL 222 yX10_cachedAt ∈ gw := gwm 1379 (by decide +kernel) rfl
theorem gm_339 : Cond.code yX10_cachedAt cX10_cachedAt 3 (some .int) ∈ gw := gwm 1382 (by decide +kernel) rfl
theorem gm_340 : Cond.instanceMethod yX10_cachedAt ∈ gw := gwm 1380 (by decide +kernel) rfl
theorem gm_341 : Cond.selects RX10 yX10_cachedAt yX10_cachedAt ∈ gw := gwm 1381 (by decide +kernel) rfl
theorem kL_222 : jLV RL 222 10 yX10_cachedAt cX10_cachedAt 3 (some .int) 2 := ⟨⟨_, _, rfl⟩, gm_338, gm_340, gm_341, gm_222, gm_339, by decide +kernel⟩
theorem gm_342 : Cond.methodLink RL 223 yX9_requests ∈ gw := gwm 320 (by decide +kernel) rfl
theorem gm_343 : Cond.code yX9_requests cX9_requests 1 (some .int) ∈ gw := gwm 323 (by decide +kernel) rfl
theorem gm_344 : Cond.instanceMethod yX9_requests ∈ gw := gwm 321 (by decide +kernel) rfl
theorem gm_345 : Cond.selects RX9 yX9_requests yX9_requests ∈ gw := gwm 322 (by decide +kernel) rfl
theorem kL_223 : jLV RL 223 9 yX9_requests cX9_requests 1 (some .int) 0 := ⟨⟨_, _, rfl⟩, gm_342, gm_344, gm_345, gm_81, gm_343, by decide +kernel⟩
theorem gm_346 : Cond.methodLink RL 226 yX10_requests ∈ gw := gwm 1383 (by decide +kernel) rfl
theorem gm_347 : Cond.code yX10_requests cX10_requests 1 (some .int) ∈ gw := gwm 1386 (by decide +kernel) rfl
theorem gm_348 : Cond.instanceMethod yX10_requests ∈ gw := gwm 1384 (by decide +kernel) rfl
theorem gm_349 : Cond.selects RX10 yX10_requests yX10_requests ∈ gw := gwm 1385 (by decide +kernel) rfl
theorem kL_226 : jLV RL 226 10 yX10_requests cX10_requests 1 (some .int) 0 := ⟨⟨_, _, rfl⟩, gm_346, gm_348, gm_349, gm_222, gm_347, by decide +kernel⟩
theorem gm_350 : Cond.methodLink RL 229 yX10_requestAt ∈ gw := gwm 1387 (by decide +kernel) rfl
theorem gm_351 : Cond.code yX10_requestAt cX10_requestAt 2 (some .int) ∈ gw := gwm 1390 (by decide +kernel) rfl
theorem gm_352 : Cond.instanceMethod yX10_requestAt ∈ gw := gwm 1388 (by decide +kernel) rfl
theorem gm_353 : Cond.selects RX10 yX10_requestAt yX10_requestAt ∈ gw := gwm 1389 (by decide +kernel) rfl
theorem kL_229 : jLV RL 229 10 yX10_requestAt cX10_requestAt 2 (some .int) 1 := ⟨⟨_, _, rfl⟩, gm_350, gm_352, gm_353, gm_222, gm_351, by decide +kernel⟩
theorem gm_354 : Cond.methodLink RL 232 yX10_distanceOf ∈ gw := gwm 1395 (by decide +kernel) rfl
theorem gm_355 : Cond.code yX10_distanceOf cX10_distanceOf 2 (some .int) ∈ gw := gwm 1398 (by decide +kernel) rfl
theorem gm_356 : Cond.instanceMethod yX10_distanceOf ∈ gw := gwm 1396 (by decide +kernel) rfl
theorem gm_357 : Cond.selects RX10 yX10_distanceOf yX10_distanceOf ∈ gw := gwm 1397 (by decide +kernel) rfl
theorem kL_232 : jLV RL 232 10 yX10_distanceOf cX10_distanceOf 2 (some .int) 1 := ⟨⟨_, _, rfl⟩, gm_354, gm_356, gm_357, gm_222, gm_355, by decide +kernel⟩
theorem gm_358 : Cond.methodLink RL 235 yX10_nearer ∈ gw := gwm 1403 (by decide +kernel) rfl
theorem gm_359 : Cond.code yX10_nearer cX10_nearer 2 (some .int) ∈ gw := gwm 1406 (by decide +kernel) rfl
theorem gm_360 : Cond.instanceMethod yX10_nearer ∈ gw := gwm 1404 (by decide +kernel) rfl
theorem gm_361 : Cond.selects RX10 yX10_nearer yX10_nearer ∈ gw := gwm 1405 (by decide +kernel) rfl
theorem kL_235 : jLV RL 235 10 yX10_nearer cX10_nearer 2 (some .int) 1 := ⟨⟨_, _, rfl⟩, gm_358, gm_360, gm_361, gm_222, gm_359, by decide +kernel⟩
theorem gm_362 : Cond.methodLink RL 238 yX10_leastCache ∈ gw := gwm 1411 (by decide +kernel) rfl
theorem gm_363 : Cond.code yX10_leastCache cX10_leastCache 3 (some .int) ∈ gw := gwm 1414 (by decide +kernel) rfl
theorem gm_364 : Cond.instanceMethod yX10_leastCache ∈ gw := gwm 1412 (by decide +kernel) rfl
theorem gm_365 : Cond.selects RX10 yX10_leastCache yX10_leastCache ∈ gw := gwm 1413 (by decide +kernel) rfl
theorem kL_238 : jLV RL 238 10 yX10_leastCache cX10_leastCache 3 (some .int) 1 := ⟨⟨_, _, rfl⟩, gm_362, gm_364, gm_365, gm_222, gm_363, by decide +kernel⟩
theorem gm_366 : Cond.methodLink RL 242 yX10_append ∈ gw := gwm 1415 (by decide +kernel) rfl
theorem gm_367 : Cond.code yX10_append cX10_append 7 (some .int) ∈ gw := gwm 1418 (by decide +kernel) rfl
theorem gm_368 : Cond.instanceMethod yX10_append ∈ gw := gwm 1416 (by decide +kernel) rfl
theorem gm_369 : Cond.selects RX10 yX10_append yX10_append ∈ gw := gwm 1417 (by decide +kernel) rfl
theorem kL_242 : jLV RL 242 10 yX10_append cX10_append 7 (some .int) 5 := ⟨⟨_, _, rfl⟩, gm_366, gm_368, gm_369, gm_222, gm_367, by decide +kernel⟩
theorem gm_370 : Cond.methodLink RL 243 yX9_clearTape ∈ gw := gwm 324 (by decide +kernel) rfl
theorem gm_371 : Cond.code yX9_clearTape cX9_clearTape 1 (some .int) ∈ gw := gwm 327 (by decide +kernel) rfl
theorem gm_372 : Cond.instanceMethod yX9_clearTape ∈ gw := gwm 325 (by decide +kernel) rfl
theorem gm_373 : Cond.selects RX9 yX9_clearTape yX9_clearTape ∈ gw := gwm 326 (by decide +kernel) rfl
theorem kL_243 : jLV RL 243 9 yX9_clearTape cX9_clearTape 1 (some .int) 0 := ⟨⟨_, _, rfl⟩, gm_370, gm_372, gm_373, gm_81, gm_371, by decide +kernel⟩
theorem gm_374 : Cond.methodLink RL 246 yX10_clearTape ∈ gw := gwm 1426 (by decide +kernel) rfl
theorem gm_375 : Cond.code yX10_clearTape cX10_clearTape 2 (some .int) ∈ gw := gwm 1429 (by decide +kernel) rfl
theorem gm_376 : Cond.instanceMethod yX10_clearTape ∈ gw := gwm 1427 (by decide +kernel) rfl
theorem gm_377 : Cond.selects RX10 yX10_clearTape yX10_clearTape ∈ gw := gwm 1428 (by decide +kernel) rfl
theorem kL_246 : jLV RL 246 10 yX10_clearTape cX10_clearTape 2 (some .int) 0 := ⟨⟨_, _, rfl⟩, gm_374, gm_376, gm_377, gm_222, gm_375, by decide +kernel⟩
theorem gm_378 : Cond.methodLink RL 250 yX10_run ∈ gw := gwm 1430 (by decide +kernel) rfl
theorem gm_379 : Cond.code yX10_run cX10_run 2 (some .int) ∈ gw := gwm 1433 (by decide +kernel) rfl
theorem gm_380 : Cond.instanceMethod yX10_run ∈ gw := gwm 1431 (by decide +kernel) rfl
theorem gm_381 : Cond.selects RX10 yX10_run yX10_run ∈ gw := gwm 1432 (by decide +kernel) rfl
theorem kL_250 : jLV RL 250 10 yX10_run cX10_run 2 (some .int) 0 := ⟨⟨_, _, rfl⟩, gm_378, gm_380, gm_381, gm_222, gm_379, by decide +kernel⟩
theorem gm_382 : Cond.methodLink RL 251 yX9_errorPosition ∈ gw := gwm 336 (by decide +kernel) rfl
theorem gm_383 : Cond.code yX9_errorPosition cX9_errorPosition 1 (some .int) ∈ gw := gwm 339 (by decide +kernel) rfl
theorem gm_384 : Cond.instanceMethod yX9_errorPosition ∈ gw := gwm 337 (by decide +kernel) rfl
theorem gm_385 : Cond.selects RX9 yX9_errorPosition yX9_errorPosition ∈ gw := gwm 338 (by decide +kernel) rfl
theorem kL_251 : jLV RL 251 9 yX9_errorPosition cX9_errorPosition 1 (some .int) 0 := ⟨⟨_, _, rfl⟩, gm_382, gm_384, gm_385, gm_81, gm_383, by decide +kernel⟩
theorem gm_386 : Cond.methodLink RL 254 yX10_errorPosition ∈ gw := gwm 1481 (by decide +kernel) rfl
theorem gm_387 : Cond.code yX10_errorPosition cX10_errorPosition 1 (some .int) ∈ gw := gwm 1484 (by decide +kernel) rfl
theorem gm_388 : Cond.instanceMethod yX10_errorPosition ∈ gw := gwm 1482 (by decide +kernel) rfl
theorem gm_389 : Cond.selects RX10 yX10_errorPosition yX10_errorPosition ∈ gw := gwm 1483 (by decide +kernel) rfl
theorem kL_254 : jLV RL 254 10 yX10_errorPosition cX10_errorPosition 1 (some .int) 0 := ⟨⟨_, _, rfl⟩, gm_386, gm_388, gm_389, gm_222, gm_387, by decide +kernel⟩
theorem gm_390 : Cond.methodLink RL 257 yX10_setFrames ∈ gw := gwm 1485 (by decide +kernel) rfl
theorem gm_391 : Cond.code yX10_setFrames cX10_setFrames 3 (some .int) ∈ gw := gwm 1488 (by decide +kernel) rfl
theorem gm_392 : Cond.instanceMethod yX10_setFrames ∈ gw := gwm 1486 (by decide +kernel) rfl
theorem gm_393 : Cond.selects RX10 yX10_setFrames yX10_setFrames ∈ gw := gwm 1487 (by decide +kernel) rfl
theorem kL_257 : jLV RL 257 10 yX10_setFrames cX10_setFrames 3 (some .int) 1 := ⟨⟨_, _, rfl⟩, gm_390, gm_392, gm_393, gm_222, gm_391, by decide +kernel⟩
theorem gm_394 : Cond.methodLink RL 258 yX9_flush ∈ gw := gwm 340 (by decide +kernel) rfl
theorem gm_395 : Cond.code yX9_flush cX9_flush 1 (some .int) ∈ gw := gwm 343 (by decide +kernel) rfl
theorem gm_396 : Cond.instanceMethod yX9_flush ∈ gw := gwm 341 (by decide +kernel) rfl
theorem gm_397 : Cond.selects RX9 yX9_flush yX9_flush ∈ gw := gwm 342 (by decide +kernel) rfl
theorem kL_258 : jLV RL 258 9 yX9_flush cX9_flush 1 (some .int) 0 := ⟨⟨_, _, rfl⟩, gm_394, gm_396, gm_397, gm_81, gm_395, by decide +kernel⟩
theorem gm_398 : Cond.methodLink RL 261 yX10_flush ∈ gw := gwm 1493 (by decide +kernel) rfl
theorem gm_399 : Cond.code yX10_flush cX10_flush 1 (some .int) ∈ gw := gwm 1496 (by decide +kernel) rfl
theorem gm_400 : Cond.instanceMethod yX10_flush ∈ gw := gwm 1494 (by decide +kernel) rfl
theorem gm_401 : Cond.selects RX10 yX10_flush yX10_flush ∈ gw := gwm 1495 (by decide +kernel) rfl
theorem kL_261 : jLV RL 261 10 yX10_flush cX10_flush 1 (some .int) 0 := ⟨⟨_, _, rfl⟩, gm_398, gm_400, gm_401, gm_222, gm_399, by decide +kernel⟩
theorem gm_402 : Cond.methodLink RL 262 yX9_accumulator ∈ gw := gwm 359 (by decide +kernel) rfl
theorem gm_403 : Cond.code yX9_accumulator cX9_accumulator 1 (some .int) ∈ gw := gwm 362 (by decide +kernel) rfl
theorem gm_404 : Cond.instanceMethod yX9_accumulator ∈ gw := gwm 360 (by decide +kernel) rfl
theorem gm_405 : Cond.selects RX9 yX9_accumulator yX9_accumulator ∈ gw := gwm 361 (by decide +kernel) rfl
theorem kL_262 : jLV RL 262 9 yX9_accumulator cX9_accumulator 1 (some .int) 0 := ⟨⟨_, _, rfl⟩, gm_402, gm_404, gm_405, gm_81, gm_403, by decide +kernel⟩
theorem gm_406 : Cond.methodLink RL 265 yX10_accumulator ∈ gw := gwm 1497 (by decide +kernel) rfl
theorem gm_407 : Cond.code yX10_accumulator cX10_accumulator 1 (some .int) ∈ gw := gwm 1500 (by decide +kernel) rfl
theorem gm_408 : Cond.instanceMethod yX10_accumulator ∈ gw := gwm 1498 (by decide +kernel) rfl
theorem gm_409 : Cond.selects RX10 yX10_accumulator yX10_accumulator ∈ gw := gwm 1499 (by decide +kernel) rfl
theorem kL_265 : jLV RL 265 10 yX10_accumulator cX10_accumulator 1 (some .int) 0 := ⟨⟨_, _, rfl⟩, gm_406, gm_408, gm_409, gm_222, gm_407, by decide +kernel⟩
theorem gm_410 : Cond.methodLink RL 268 yX10_wordAt ∈ gw := gwm 1501 (by decide +kernel) rfl
theorem gm_411 : Cond.code yX10_wordAt cX10_wordAt 2 (some .int) ∈ gw := gwm 1504 (by decide +kernel) rfl
theorem gm_412 : Cond.instanceMethod yX10_wordAt ∈ gw := gwm 1502 (by decide +kernel) rfl
theorem gm_413 : Cond.selects RX10 yX10_wordAt yX10_wordAt ∈ gw := gwm 1503 (by decide +kernel) rfl
theorem kL_268 : jLV RL 268 10 yX10_wordAt cX10_wordAt 2 (some .int) 1 := ⟨⟨_, _, rfl⟩, gm_410, gm_412, gm_413, gm_222, gm_411, by decide +kernel⟩
theorem gm_414 : Cond.methodLink RL 271 yX10_discAt ∈ gw := gwm 1509 (by decide +kernel) rfl
theorem gm_415 : Cond.code yX10_discAt cX10_discAt 2 (some .int) ∈ gw := gwm 1512 (by decide +kernel) rfl
theorem gm_416 : Cond.instanceMethod yX10_discAt ∈ gw := gwm 1510 (by decide +kernel) rfl
theorem gm_417 : Cond.selects RX10 yX10_discAt yX10_discAt ∈ gw := gwm 1511 (by decide +kernel) rfl
theorem kL_271 : jLV RL 271 10 yX10_discAt cX10_discAt 2 (some .int) 1 := ⟨⟨_, _, rfl⟩, gm_414, gm_416, gm_417, gm_222, gm_415, by decide +kernel⟩
theorem gm_418 : Cond.methodLink RL 272 yX9_resident ∈ gw := gwm 367 (by decide +kernel) rfl
theorem gm_419 : Cond.code yX9_resident cX9_resident 1 (some .int) ∈ gw := gwm 370 (by decide +kernel) rfl
theorem gm_420 : Cond.instanceMethod yX9_resident ∈ gw := gwm 368 (by decide +kernel) rfl
theorem gm_421 : Cond.selects RX9 yX9_resident yX9_resident ∈ gw := gwm 369 (by decide +kernel) rfl
theorem kL_272 : jLV RL 272 9 yX9_resident cX9_resident 1 (some .int) 0 := ⟨⟨_, _, rfl⟩, gm_418, gm_420, gm_421, gm_81, gm_419, by decide +kernel⟩
theorem gm_422 : Cond.methodLink RL 275 yX10_resident ∈ gw := gwm 1513 (by decide +kernel) rfl
theorem gm_423 : Cond.code yX10_resident cX10_resident 1 (some .int) ∈ gw := gwm 1516 (by decide +kernel) rfl
theorem gm_424 : Cond.instanceMethod yX10_resident ∈ gw := gwm 1514 (by decide +kernel) rfl
theorem gm_425 : Cond.selects RX10 yX10_resident yX10_resident ∈ gw := gwm 1515 (by decide +kernel) rfl
theorem kL_275 : jLV RL 275 10 yX10_resident cX10_resident 1 (some .int) 0 := ⟨⟨_, _, rfl⟩, gm_422, gm_424, gm_425, gm_222, gm_423, by decide +kernel⟩
theorem gm_426 : Cond.methodLink RL 278 yX10_residentAt ∈ gw := gwm 1517 (by decide +kernel) rfl
theorem gm_427 : Cond.code yX10_residentAt cX10_residentAt 2 (some .int) ∈ gw := gwm 1520 (by decide +kernel) rfl
theorem gm_428 : Cond.instanceMethod yX10_residentAt ∈ gw := gwm 1518 (by decide +kernel) rfl
theorem gm_429 : Cond.selects RX10 yX10_residentAt yX10_residentAt ∈ gw := gwm 1519 (by decide +kernel) rfl
theorem kL_278 : jLV RL 278 10 yX10_residentAt cX10_residentAt 2 (some .int) 1 := ⟨⟨_, _, rfl⟩, gm_426, gm_428, gm_429, gm_222, gm_427, by decide +kernel⟩
theorem gm_430 : Cond.methodLink RL 281 yX10_isDirty ∈ gw := gwm 1521 (by decide +kernel) rfl
theorem gm_431 : Cond.code yX10_isDirty cX10_isDirty 2 (some .boolean) ∈ gw := gwm 1524 (by decide +kernel) rfl
theorem gm_432 : Cond.instanceMethod yX10_isDirty ∈ gw := gwm 1522 (by decide +kernel) rfl
theorem gm_433 : Cond.selects RX10 yX10_isDirty yX10_isDirty ∈ gw := gwm 1523 (by decide +kernel) rfl
theorem kL_281 : jLV RL 281 10 yX10_isDirty cX10_isDirty 2 (some .boolean) 1 := ⟨⟨_, _, rfl⟩, gm_430, gm_432, gm_433, gm_222, gm_431, by decide +kernel⟩
theorem gm_434 : Cond.methodLink RL 282 yX9_faults ∈ gw := gwm 379 (by decide +kernel) rfl
theorem gm_435 : Cond.code yX9_faults cX9_faults 1 (some .int) ∈ gw := gwm 382 (by decide +kernel) rfl
theorem gm_436 : Cond.instanceMethod yX9_faults ∈ gw := gwm 380 (by decide +kernel) rfl
theorem gm_437 : Cond.selects RX9 yX9_faults yX9_faults ∈ gw := gwm 381 (by decide +kernel) rfl
theorem kL_282 : jLV RL 282 9 yX9_faults cX9_faults 1 (some .int) 0 := ⟨⟨_, _, rfl⟩, gm_434, gm_436, gm_437, gm_81, gm_435, by decide +kernel⟩
theorem gm_438 : Cond.methodLink RL 285 yX10_faults ∈ gw := gwm 1525 (by decide +kernel) rfl
theorem gm_439 : Cond.code yX10_faults cX10_faults 1 (some .int) ∈ gw := gwm 1528 (by decide +kernel) rfl
theorem gm_440 : Cond.instanceMethod yX10_faults ∈ gw := gwm 1526 (by decide +kernel) rfl
theorem gm_441 : Cond.selects RX10 yX10_faults yX10_faults ∈ gw := gwm 1527 (by decide +kernel) rfl
theorem kL_285 : jLV RL 285 10 yX10_faults cX10_faults 1 (some .int) 0 := ⟨⟨_, _, rfl⟩, gm_438, gm_440, gm_441, gm_222, gm_439, by decide +kernel⟩
theorem gm_442 : Cond.methodLink RL 286 yX9_writes ∈ gw := gwm 387 (by decide +kernel) rfl
theorem gm_443 : Cond.code yX9_writes cX9_writes 1 (some .int) ∈ gw := gwm 390 (by decide +kernel) rfl
theorem gm_444 : Cond.instanceMethod yX9_writes ∈ gw := gwm 388 (by decide +kernel) rfl
theorem gm_445 : Cond.selects RX9 yX9_writes yX9_writes ∈ gw := gwm 389 (by decide +kernel) rfl
theorem kL_286 : jLV RL 286 9 yX9_writes cX9_writes 1 (some .int) 0 := ⟨⟨_, _, rfl⟩, gm_442, gm_444, gm_445, gm_81, gm_443, by decide +kernel⟩
theorem gm_446 : Cond.methodLink RL 289 yX10_writes ∈ gw := gwm 1529 (by decide +kernel) rfl
theorem gm_447 : Cond.code yX10_writes cX10_writes 1 (some .int) ∈ gw := gwm 1532 (by decide +kernel) rfl
theorem gm_448 : Cond.instanceMethod yX10_writes ∈ gw := gwm 1530 (by decide +kernel) rfl
theorem gm_449 : Cond.selects RX10 yX10_writes yX10_writes ∈ gw := gwm 1531 (by decide +kernel) rfl
theorem kL_289 : jLV RL 289 10 yX10_writes cX10_writes 1 (some .int) 0 := ⟨⟨_, _, rfl⟩, gm_446, gm_448, gm_449, gm_222, gm_447, by decide +kernel⟩
theorem gm_450 : Cond.methodLink RL 293 yX10_hitShare ∈ gw := gwm 1533 (by decide +kernel) rfl
theorem gm_451 : Cond.code yX10_hitShare cX10_hitShare 2 (some .float) ∈ gw := gwm 1536 (by decide +kernel) rfl
theorem gm_452 : Cond.instanceMethod yX10_hitShare ∈ gw := gwm 1534 (by decide +kernel) rfl
theorem gm_453 : Cond.selects RX10 yX10_hitShare yX10_hitShare ∈ gw := gwm 1535 (by decide +kernel) rfl
theorem kL_293 : jLV RL 293 10 yX10_hitShare cX10_hitShare 2 (some .float) 1 := ⟨⟨_, _, rfl⟩, gm_450, gm_452, gm_453, gm_222, gm_451, by decide +kernel⟩
theorem gm_454 : Cond.methodLink RL 294 yX9_meanDistance ∈ gw := gwm 395 (by decide +kernel) rfl
theorem gm_455 : Cond.code yX9_meanDistance cX9_meanDistance 2 (some .double) ∈ gw := gwm 398 (by decide +kernel) rfl
theorem gm_456 : Cond.instanceMethod yX9_meanDistance ∈ gw := gwm 396 (by decide +kernel) rfl
theorem gm_457 : Cond.selects RX9 yX9_meanDistance yX9_meanDistance ∈ gw := gwm 397 (by decide +kernel) rfl
theorem kL_294 : jLV RL 294 9 yX9_meanDistance cX9_meanDistance 2 (some .double) 0 := ⟨⟨_, _, rfl⟩, gm_454, gm_456, gm_457, gm_81, gm_455, by decide +kernel⟩
theorem gm_458 : Cond.methodLink RL 298 yX10_meanDistance ∈ gw := gwm 1537 (by decide +kernel) rfl
theorem gm_459 : Cond.code yX10_meanDistance cX10_meanDistance 5 (some .double) ∈ gw := gwm 1540 (by decide +kernel) rfl
theorem gm_460 : Cond.instanceMethod yX10_meanDistance ∈ gw := gwm 1538 (by decide +kernel) rfl
theorem gm_461 : Cond.selects RX10 yX10_meanDistance yX10_meanDistance ∈ gw := gwm 1539 (by decide +kernel) rfl
theorem kL_298 : jLV RL 298 10 yX10_meanDistance cX10_meanDistance 5 (some .double) 0 := ⟨⟨_, _, rfl⟩, gm_458, gm_460, gm_461, gm_222, gm_459, by decide +kernel⟩
theorem gm_462 : Cond.methodLink RL 299 yX9_errors ∈ gw := gwm 407 (by decide +kernel) rfl
theorem gm_463 : Cond.code yX9_errors cX9_errors 3 (some .int) ∈ gw := gwm 410 (by decide +kernel) rfl
theorem gm_464 : Cond.instanceMethod yX9_errors ∈ gw := gwm 408 (by decide +kernel) rfl
theorem gm_465 : Cond.selects RX9 yX9_errors yX9_errors ∈ gw := gwm 409 (by decide +kernel) rfl
theorem kL_299 : jLV RL 299 9 yX9_errors cX9_errors 3 (some .int) 0 := ⟨⟨_, _, rfl⟩, gm_462, gm_464, gm_465, gm_81, gm_463, by decide +kernel⟩
theorem gm_466 : Cond.methodLink RL 302 yX10_errors ∈ gw := gwm 1541 (by decide +kernel) rfl
theorem gm_467 : Cond.code yX10_errors cX10_errors 5 (some .int) ∈ gw := gwm 1544 (by decide +kernel) rfl
theorem gm_468 : Cond.instanceMethod yX10_errors ∈ gw := gwm 1542 (by decide +kernel) rfl
theorem gm_469 : Cond.selects RX10 yX10_errors yX10_errors ∈ gw := gwm 1543 (by decide +kernel) rfl
theorem kL_302 : jLV RL 302 10 yX10_errors cX10_errors 5 (some .int) 0 := ⟨⟨_, _, rfl⟩, gm_466, gm_468, gm_469, gm_222, gm_467, by decide +kernel⟩
theorem gm_470 : Cond.methodLink RX0 23 yX8_use ∈ gw := gwm 824 (by decide +kernel) rfl
theorem gm_471 : Cond.initialized RX8 ∈ gw := gwm 54 (by decide +kernel) rfl
theorem gm_472 : Cond.code yX8_use cX8_use 3 (some .boolean) ∈ gw := gwm 545 (by decide +kernel) rfl
theorem gm_473 : Cond.instanceMethod yX8_use ∈ gw := gwm 543 (by decide +kernel) rfl
theorem gm_474 : Cond.selects RX8 yX8_use yX8_use ∈ gw := gwm 544 (by decide +kernel) rfl
theorem kX0_23 : jLV RX0 23 8 yX8_use cX8_use 3 (some .boolean) 1 := ⟨⟨_, _, rfl⟩, gm_470, gm_473, gm_474, gm_471, gm_472, by decide +kernel⟩
theorem gm_475 : Cond.methodLink RX0 27 yX8_dropBeyond ∈ gw := gwm 825 (by decide +kernel) rfl
theorem gm_476 : Cond.code yX8_dropBeyond cX8_dropBeyond 3 (some .int) ∈ gw := gwm 553 (by decide +kernel) rfl
theorem gm_477 : Cond.instanceMethod yX8_dropBeyond ∈ gw := gwm 551 (by decide +kernel) rfl
theorem gm_478 : Cond.selects RX8 yX8_dropBeyond yX8_dropBeyond ∈ gw := gwm 552 (by decide +kernel) rfl
theorem kX0_27 : jLV RX0 27 8 yX8_dropBeyond cX8_dropBeyond 3 (some .int) 1 := ⟨⟨_, _, rfl⟩, gm_475, gm_477, gm_478, gm_471, gm_476, by decide +kernel⟩
theorem gm_479 : Cond.methodLink RX0 31 yX8_dropAll ∈ gw := gwm 311 (by decide +kernel) rfl
theorem gm_480 : Cond.code yX8_dropAll cX8_dropAll 1 none ∈ gw := gwm 314 (by decide +kernel) rfl
theorem gm_481 : Cond.instanceMethod yX8_dropAll ∈ gw := gwm 312 (by decide +kernel) rfl
theorem gm_482 : Cond.selects RX8 yX8_dropAll yX8_dropAll ∈ gw := gwm 313 (by decide +kernel) rfl
theorem kX0_31 : jLV RX0 31 8 yX8_dropAll cX8_dropAll 1 none 0 := ⟨⟨_, _, rfl⟩, gm_479, gm_481, gm_482, gm_471, gm_480, by decide +kernel⟩
theorem gm_483 : Cond.methodLink RX10 84 yX10_in ∈ gw := gwm 1236 (by decide +kernel) rfl
theorem gm_484 : Cond.code yX10_in cX10_in 3 (some .boolean) ∈ gw := gwm 1238 (by decide +kernel) rfl
theorem gm_485 : Cond.static yX10_in ∈ gw := gwm 1237 (by decide +kernel) rfl
theorem kX10_84 : jLS RX10 84 yX10_in cX10_in 3 (some .boolean) 3 := ⟨gm_483, gm_485, gm_222, gm_484, by decide +kernel⟩
theorem gm_486 : Cond.methodLink RX10 88 yX10_fails ∈ gw := gwm 1239 (by decide +kernel) rfl
theorem gm_487 : Cond.code yX10_fails cX10_fails 3 (some .boolean) ∈ gw := gwm 1242 (by decide +kernel) rfl
theorem gm_488 : Cond.instanceMethod yX10_fails ∈ gw := gwm 1241 (by decide +kernel) rfl
theorem gm_489 : Cond.selects RX10 yX10_fails yX10_fails ∈ gw := gwm 23 (by decide +kernel) rfl
theorem kX10_88 : jLV RX10 88 10 yX10_fails cX10_fails 3 (some .boolean) 2 := ⟨⟨_, _, rfl⟩, gm_486, gm_488, gm_489, gm_222, gm_487, by decide +kernel⟩
theorem gm_490 : Cond.methodLink RX10 92 yX10_noMap ∈ gw := gwm 1232 (by decide +kernel) rfl
theorem gm_491 : Cond.code yX10_noMap cX10_noMap 2 (some .boolean) ∈ gw := gwm 1235 (by decide +kernel) rfl
theorem gm_492 : Cond.instanceMethod yX10_noMap ∈ gw := gwm 1234 (by decide +kernel) rfl
theorem gm_493 : Cond.selects RX10 yX10_noMap yX10_noMap ∈ gw := gwm 22 (by decide +kernel) rfl
theorem kX10_92 : jLV RX10 92 10 yX10_noMap cX10_noMap 2 (some .boolean) 1 := ⟨⟨_, _, rfl⟩, gm_490, gm_492, gm_493, gm_222, gm_491, by decide +kernel⟩
theorem gm_494 : Cond.methodLink RX10 99 yX10_takes ∈ gw := gwm 1251 (by decide +kernel) rfl
theorem gm_495 : Cond.code yX10_takes cX10_takes 5 (some .int) ∈ gw := gwm 1254 (by decide +kernel) rfl
theorem gm_496 : Cond.instanceMethod yX10_takes ∈ gw := gwm 1253 (by decide +kernel) rfl
theorem gm_497 : Cond.selects RX10 yX10_takes yX10_takes ∈ gw := gwm 26 (by decide +kernel) rfl
theorem kX10_99 : jLV RX10 99 10 yX10_takes cX10_takes 5 (some .int) 2 := ⟨⟨_, _, rfl⟩, gm_494, gm_496, gm_497, gm_222, gm_495, by decide +kernel⟩
theorem gm_498 : Cond.methodLink RX10 103 yX10_noKey ∈ gw := gwm 1228 (by decide +kernel) rfl
theorem gm_499 : Cond.code yX10_noKey cX10_noKey 3 (some .boolean) ∈ gw := gwm 1231 (by decide +kernel) rfl
theorem gm_500 : Cond.instanceMethod yX10_noKey ∈ gw := gwm 1230 (by decide +kernel) rfl
theorem gm_501 : Cond.selects RX10 yX10_noKey yX10_noKey ∈ gw := gwm 21 (by decide +kernel) rfl
theorem kX10_103 : jLV RX10 103 10 yX10_noKey cX10_noKey 3 (some .boolean) 2 := ⟨⟨_, _, rfl⟩, gm_498, gm_500, gm_501, gm_222, gm_499, by decide +kernel⟩
theorem gm_502 : Cond.methodLink RX10 107 yX10_noPair ∈ gw := gwm 1224 (by decide +kernel) rfl
theorem gm_503 : Cond.code yX10_noPair cX10_noPair 4 (some .boolean) ∈ gw := gwm 1227 (by decide +kernel) rfl
theorem gm_504 : Cond.instanceMethod yX10_noPair ∈ gw := gwm 1226 (by decide +kernel) rfl
theorem gm_505 : Cond.selects RX10 yX10_noPair yX10_noPair ∈ gw := gwm 20 (by decide +kernel) rfl
theorem kX10_107 : jLV RX10 107 10 yX10_noPair cX10_noPair 4 (some .boolean) 3 := ⟨⟨_, _, rfl⟩, gm_502, gm_504, gm_505, gm_222, gm_503, by decide +kernel⟩
theorem gm_506 : Cond.methodLink RX10 110 yX10_ends ∈ gw := gwm 1243 (by decide +kernel) rfl
theorem gm_507 : Cond.code yX10_ends cX10_ends 2 none ∈ gw := gwm 1246 (by decide +kernel) rfl
theorem gm_508 : Cond.instanceMethod yX10_ends ∈ gw := gwm 1245 (by decide +kernel) rfl
theorem gm_509 : Cond.selects RX10 yX10_ends yX10_ends ∈ gw := gwm 24 (by decide +kernel) rfl
theorem kX10_110 : jLV RX10 110 10 yX10_ends cX10_ends 2 none 1 := ⟨⟨_, _, rfl⟩, gm_506, gm_508, gm_509, gm_222, gm_507, by decide +kernel⟩
theorem gm_510 : Cond.methodLink RX10 114 yX10_placeIn ∈ gw := gwm 1247 (by decide +kernel) rfl
theorem gm_511 : Cond.code yX10_placeIn cX10_placeIn 4 (some .int) ∈ gw := gwm 1250 (by decide +kernel) rfl
theorem gm_512 : Cond.instanceMethod yX10_placeIn ∈ gw := gwm 1249 (by decide +kernel) rfl
theorem gm_513 : Cond.selects RX10 yX10_placeIn yX10_placeIn ∈ gw := gwm 25 (by decide +kernel) rfl
theorem kX10_114 : jLV RX10 114 10 yX10_placeIn cX10_placeIn 4 (some .int) 2 := ⟨⟨_, _, rfl⟩, gm_510, gm_512, gm_513, gm_222, gm_511, by decide +kernel⟩
theorem gm_514 : Cond.methodLink RX10 117 yX10_comes ∈ gw := gwm 1255 (by decide +kernel) rfl
theorem gm_515 : Cond.code yX10_comes cX10_comes 4 none ∈ gw := gwm 1258 (by decide +kernel) rfl
theorem gm_516 : Cond.instanceMethod yX10_comes ∈ gw := gwm 1257 (by decide +kernel) rfl
theorem gm_517 : Cond.selects RX10 yX10_comes yX10_comes ∈ gw := gwm 27 (by decide +kernel) rfl
theorem kX10_117 : jLV RX10 117 10 yX10_comes cX10_comes 4 none 3 := ⟨⟨_, _, rfl⟩, gm_514, gm_516, gm_517, gm_222, gm_515, by decide +kernel⟩
theorem gm_518 : Cond.methodLink RX10 121 yX10_uses ∈ gw := gwm 1263 (by decide +kernel) rfl
theorem gm_519 : Cond.code yX10_uses cX10_uses 5 (some .int) ∈ gw := gwm 1266 (by decide +kernel) rfl
theorem gm_520 : Cond.instanceMethod yX10_uses ∈ gw := gwm 1265 (by decide +kernel) rfl
theorem gm_521 : Cond.selects RX10 yX10_uses yX10_uses ∈ gw := gwm 28 (by decide +kernel) rfl
theorem kX10_121 : jLV RX10 121 10 yX10_uses cX10_uses 5 (some .int) 2 := ⟨⟨_, _, rfl⟩, gm_518, gm_520, gm_521, gm_222, gm_519, by decide +kernel⟩
theorem gm_522 : Cond.methodLink RX10 124 yX10_noPlace ∈ gw := gwm 1303 (by decide +kernel) rfl
theorem gm_523 : Cond.code yX10_noPlace cX10_noPlace 3 (some .boolean) ∈ gw := gwm 1306 (by decide +kernel) rfl
theorem gm_524 : Cond.instanceMethod yX10_noPlace ∈ gw := gwm 1305 (by decide +kernel) rfl
theorem gm_525 : Cond.selects RX10 yX10_noPlace yX10_noPlace ∈ gw := gwm 29 (by decide +kernel) rfl
theorem kX10_124 : jLV RX10 124 10 yX10_noPlace cX10_noPlace 3 (some .boolean) 2 := ⟨⟨_, _, rfl⟩, gm_522, gm_524, gm_525, gm_222, gm_523, by decide +kernel⟩
theorem gm_526 : Cond.methodLink RX10 130 yX10_cachePlace ∈ gw := gwm 1351 (by decide +kernel) rfl
theorem gm_527 : Cond.code yX10_cachePlace cX10_cachePlace 4 (some .int) ∈ gw := gwm 1354 (by decide +kernel) rfl
theorem gm_528 : Cond.instanceMethod yX10_cachePlace ∈ gw := gwm 1353 (by decide +kernel) rfl
theorem gm_529 : Cond.selects RX10 yX10_cachePlace yX10_cachePlace ∈ gw := gwm 31 (by decide +kernel) rfl
theorem kX10_130 : jLV RX10 130 10 yX10_cachePlace cX10_cachePlace 4 (some .int) 2 := ⟨⟨_, _, rfl⟩, gm_526, gm_528, gm_529, gm_222, gm_527, by decide +kernel⟩
theorem gm_530 : Cond.methodLink RX10 133 yX10_leaves ∈ gw := gwm 1355 (by decide +kernel) rfl
theorem gm_531 : Cond.code yX10_leaves cX10_leaves 4 none ∈ gw := gwm 1358 (by decide +kernel) rfl
theorem gm_532 : Cond.instanceMethod yX10_leaves ∈ gw := gwm 1357 (by decide +kernel) rfl
theorem gm_533 : Cond.selects RX10 yX10_leaves yX10_leaves ∈ gw := gwm 32 (by decide +kernel) rfl
theorem kX10_133 : jLV RX10 133 10 yX10_leaves cX10_leaves 4 none 2 := ⟨⟨_, _, rfl⟩, gm_530, gm_532, gm_533, gm_222, gm_531, by decide +kernel⟩
theorem gm_534 : Cond.methodLink RX10 137 yX10_asks ∈ gw := gwm 1347 (by decide +kernel) rfl
theorem gm_535 : Cond.code yX10_asks cX10_asks 5 (some .int) ∈ gw := gwm 1350 (by decide +kernel) rfl
theorem gm_536 : Cond.instanceMethod yX10_asks ∈ gw := gwm 1349 (by decide +kernel) rfl
theorem gm_537 : Cond.selects RX10 yX10_asks yX10_asks ∈ gw := gwm 30 (by decide +kernel) rfl
theorem kX10_137 : jLV RX10 137 10 yX10_asks cX10_asks 5 (some .int) 1 := ⟨⟨_, _, rfl⟩, gm_534, gm_536, gm_537, gm_222, gm_535, by decide +kernel⟩
theorem gm_538 : Cond.methodLink RX10 141 yX10_noCache ∈ gw := gwm 1367 (by decide +kernel) rfl
theorem gm_539 : Cond.code yX10_noCache cX10_noCache 2 (some .boolean) ∈ gw := gwm 1370 (by decide +kernel) rfl
theorem gm_540 : Cond.instanceMethod yX10_noCache ∈ gw := gwm 1369 (by decide +kernel) rfl
theorem gm_541 : Cond.selects RX10 yX10_noCache yX10_noCache ∈ gw := gwm 33 (by decide +kernel) rfl
theorem kX10_141 : jLV RX10 141 10 yX10_noCache cX10_noCache 2 (some .boolean) 1 := ⟨⟨_, _, rfl⟩, gm_538, gm_540, gm_541, gm_222, gm_539, by decide +kernel⟩
theorem gm_542 : Cond.methodLink RX10 144 yX10_noRequest ∈ gw := gwm 1391 (by decide +kernel) rfl
theorem gm_543 : Cond.code yX10_noRequest cX10_noRequest 2 (some .boolean) ∈ gw := gwm 1394 (by decide +kernel) rfl
theorem gm_544 : Cond.instanceMethod yX10_noRequest ∈ gw := gwm 1393 (by decide +kernel) rfl
theorem gm_545 : Cond.selects RX10 yX10_noRequest yX10_noRequest ∈ gw := gwm 34 (by decide +kernel) rfl
theorem kX10_144 : jLV RX10 144 10 yX10_noRequest cX10_noRequest 2 (some .boolean) 1 := ⟨⟨_, _, rfl⟩, gm_542, gm_544, gm_545, gm_222, gm_543, by decide +kernel⟩
theorem gm_546 : Cond.methodLink RX10 147 yX10_distance ∈ gw := gwm 1399 (by decide +kernel) rfl
theorem gm_547 : Cond.code yX10_distance cX10_distance 4 (some .int) ∈ gw := gwm 1402 (by decide +kernel) rfl
theorem gm_548 : Cond.instanceMethod yX10_distance ∈ gw := gwm 1401 (by decide +kernel) rfl
theorem gm_549 : Cond.selects RX10 yX10_distance yX10_distance ∈ gw := gwm 35 (by decide +kernel) rfl
theorem kX10_147 : jLV RX10 147 10 yX10_distance cX10_distance 4 (some .int) 1 := ⟨⟨_, _, rfl⟩, gm_546, gm_548, gm_549, gm_222, gm_547, by decide +kernel⟩
theorem gm_550 : Cond.methodLink RX10 150 yX10_nearerThan ∈ gw := gwm 1407 (by decide +kernel) rfl
theorem gm_551 : Cond.code yX10_nearerThan cX10_nearerThan 5 (some .int) ∈ gw := gwm 1410 (by decide +kernel) rfl
theorem gm_552 : Cond.instanceMethod yX10_nearerThan ∈ gw := gwm 1409 (by decide +kernel) rfl
theorem gm_553 : Cond.selects RX10 yX10_nearerThan yX10_nearerThan ∈ gw := gwm 36 (by decide +kernel) rfl
theorem kX10_150 : jLV RX10 150 10 yX10_nearerThan cX10_nearerThan 5 (some .int) 1 := ⟨⟨_, _, rfl⟩, gm_550, gm_552, gm_553, gm_222, gm_551, by decide +kernel⟩
theorem gm_554 : Cond.methodLink RX10 156 yX10_bytesIn ∈ gw := gwm 1419 (by decide +kernel) rfl
theorem gm_555 : Cond.code yX10_bytesIn cX10_bytesIn 3 (some .int) ∈ gw := gwm 1421 (by decide +kernel) rfl
theorem gm_556 : Cond.static yX10_bytesIn ∈ gw := gwm 1420 (by decide +kernel) rfl
theorem kX10_156 : jLS RX10 156 yX10_bytesIn cX10_bytesIn 3 (some .int) 1 := ⟨gm_554, gm_556, gm_222, gm_555, by decide +kernel⟩
theorem gm_557 : Cond.methodLink RX10 159 yX10_takesBytes ∈ gw := gwm 1422 (by decide +kernel) rfl
theorem gm_558 : Cond.code yX10_takesBytes cX10_takesBytes 4 none ∈ gw := gwm 1425 (by decide +kernel) rfl
theorem gm_559 : Cond.instanceMethod yX10_takesBytes ∈ gw := gwm 1424 (by decide +kernel) rfl
theorem gm_560 : Cond.selects RX10 yX10_takesBytes yX10_takesBytes ∈ gw := gwm 37 (by decide +kernel) rfl
theorem kX10_159 : jLV RX10 159 10 yX10_takesBytes cX10_takesBytes 4 none 1 := ⟨⟨_, _, rfl⟩, gm_557, gm_559, gm_560, gm_222, gm_558, by decide +kernel⟩
theorem gm_561 : Cond.methodLink RX10 174 yX10_isSign ∈ gw := gwm 1442 (by decide +kernel) rfl
theorem gm_562 : Cond.code yX10_isSign cX10_isSign 1 (some .boolean) ∈ gw := gwm 1444 (by decide +kernel) rfl
theorem gm_563 : Cond.static yX10_isSign ∈ gw := gwm 1443 (by decide +kernel) rfl
theorem kX10_174 : jLS RX10 174 yX10_isSign cX10_isSign 1 (some .boolean) 1 := ⟨gm_561, gm_563, gm_222, gm_562, by decide +kernel⟩
theorem gm_564 : Cond.methodLink RX10 180 yX10_reads ∈ gw := gwm 1438 (by decide +kernel) rfl
theorem gm_565 : Cond.code yX10_reads cX10_reads 2 none ∈ gw := gwm 1441 (by decide +kernel) rfl
theorem gm_566 : Cond.instanceMethod yX10_reads ∈ gw := gwm 1440 (by decide +kernel) rfl
theorem gm_567 : Cond.selects RX10 yX10_reads yX10_reads ∈ gw := gwm 39 (by decide +kernel) rfl
theorem kX10_180 : jLV RX10 180 10 yX10_reads cX10_reads 2 none 0 := ⟨⟨_, _, rfl⟩, gm_564, gm_566, gm_567, gm_222, gm_565, by decide +kernel⟩
theorem gm_568 : Cond.methodLink RX10 183 yX10_takesNumber ∈ gw := gwm 1453 (by decide +kernel) rfl
theorem gm_569 : Cond.code yX10_takesNumber cX10_takesNumber 3 (some .boolean) ∈ gw := gwm 1456 (by decide +kernel) rfl
theorem gm_570 : Cond.instanceMethod yX10_takesNumber ∈ gw := gwm 1455 (by decide +kernel) rfl
theorem gm_571 : Cond.selects RX10 yX10_takesNumber yX10_takesNumber ∈ gw := gwm 42 (by decide +kernel) rfl
theorem kX10_183 : jLV RX10 183 10 yX10_takesNumber cX10_takesNumber 3 (some .boolean) 2 := ⟨⟨_, _, rfl⟩, gm_568, gm_570, gm_571, gm_222, gm_569, by decide +kernel⟩
theorem gm_572 : Cond.methodLink RX10 186 yX10_isSignNow ∈ gw := gwm 1445 (by decide +kernel) rfl
theorem gm_573 : Cond.code yX10_isSignNow cX10_isSignNow 2 (some .boolean) ∈ gw := gwm 1448 (by decide +kernel) rfl
theorem gm_574 : Cond.instanceMethod yX10_isSignNow ∈ gw := gwm 1447 (by decide +kernel) rfl
theorem gm_575 : Cond.selects RX10 yX10_isSignNow yX10_isSignNow ∈ gw := gwm 40 (by decide +kernel) rfl
theorem kX10_186 : jLV RX10 186 10 yX10_isSignNow cX10_isSignNow 2 (some .boolean) 1 := ⟨⟨_, _, rfl⟩, gm_572, gm_574, gm_575, gm_222, gm_573, by decide +kernel⟩
theorem gm_576 : Cond.methodLink RX10 189 yX10_readsItem ∈ gw := gwm 1449 (by decide +kernel) rfl
theorem gm_577 : Cond.code yX10_readsItem cX10_readsItem 4 (some .boolean) ∈ gw := gwm 1452 (by decide +kernel) rfl
theorem gm_578 : Cond.instanceMethod yX10_readsItem ∈ gw := gwm 1451 (by decide +kernel) rfl
theorem gm_579 : Cond.selects RX10 yX10_readsItem yX10_readsItem ∈ gw := gwm 41 (by decide +kernel) rfl
theorem kX10_189 : jLV RX10 189 10 yX10_readsItem cX10_readsItem 4 (some .boolean) 1 := ⟨⟨_, _, rfl⟩, gm_576, gm_578, gm_579, gm_222, gm_577, by decide +kernel⟩
theorem gm_580 : Cond.methodLink RX10 192 yX10_does ∈ gw := gwm 1461 (by decide +kernel) rfl
theorem gm_581 : Cond.code yX10_does cX10_does 3 none ∈ gw := gwm 1464 (by decide +kernel) rfl
theorem gm_582 : Cond.instanceMethod yX10_does ∈ gw := gwm 1463 (by decide +kernel) rfl
theorem gm_583 : Cond.selects RX10 yX10_does yX10_does ∈ gw := gwm 44 (by decide +kernel) rfl
theorem kX10_192 : jLV RX10 192 10 yX10_does cX10_does 3 none 2 := ⟨⟨_, _, rfl⟩, gm_580, gm_582, gm_583, gm_222, gm_581, by decide +kernel⟩
theorem gm_584 : Cond.methodLink RX10 195 yX10_readsAll ∈ gw := gwm 1434 (by decide +kernel) rfl
theorem gm_585 : Cond.code yX10_readsAll cX10_readsAll 2 (some .boolean) ∈ gw := gwm 1437 (by decide +kernel) rfl
theorem gm_586 : Cond.instanceMethod yX10_readsAll ∈ gw := gwm 1436 (by decide +kernel) rfl
theorem gm_587 : Cond.selects RX10 yX10_readsAll yX10_readsAll ∈ gw := gwm 38 (by decide +kernel) rfl
theorem kX10_195 : jLV RX10 195 10 yX10_readsAll cX10_readsAll 2 (some .boolean) 0 := ⟨⟨_, _, rfl⟩, gm_584, gm_586, gm_587, gm_222, gm_585, by decide +kernel⟩
theorem gm_588 : Cond.methodLink RX10 199 yX10_runs ∈ gw := gwm 1457 (by decide +kernel) rfl
theorem gm_589 : Cond.code yX10_runs cX10_runs 5 (some .int) ∈ gw := gwm 1460 (by decide +kernel) rfl
theorem gm_590 : Cond.instanceMethod yX10_runs ∈ gw := gwm 1459 (by decide +kernel) rfl
theorem gm_591 : Cond.selects RX10 yX10_runs yX10_runs ∈ gw := gwm 43 (by decide +kernel) rfl
theorem kX10_199 : jLV RX10 199 10 yX10_runs cX10_runs 5 (some .int) 0 := ⟨⟨_, _, rfl⟩, gm_588, gm_590, gm_591, gm_222, gm_589, by decide +kernel⟩
theorem gm_592 : Cond.methodLink RX10 209 yX10_pagePlace ∈ gw := gwm 1469 (by decide +kernel) rfl
theorem gm_593 : Cond.code yX10_pagePlace cX10_pagePlace 3 (some .int) ∈ gw := gwm 1472 (by decide +kernel) rfl
theorem gm_594 : Cond.instanceMethod yX10_pagePlace ∈ gw := gwm 1471 (by decide +kernel) rfl
theorem gm_595 : Cond.selects RX10 yX10_pagePlace yX10_pagePlace ∈ gw := gwm 46 (by decide +kernel) rfl
theorem kX10_209 : jLV RX10 209 10 yX10_pagePlace cX10_pagePlace 3 (some .int) 1 := ⟨⟨_, _, rfl⟩, gm_592, gm_594, gm_595, gm_222, gm_593, by decide +kernel⟩
theorem gm_596 : Cond.methodLink RX10 212 yX10_out ∈ gw := gwm 1473 (by decide +kernel) rfl
theorem gm_597 : Cond.code yX10_out cX10_out 3 none ∈ gw := gwm 1476 (by decide +kernel) rfl
theorem gm_598 : Cond.instanceMethod yX10_out ∈ gw := gwm 1475 (by decide +kernel) rfl
theorem gm_599 : Cond.selects RX10 yX10_out yX10_out ∈ gw := gwm 47 (by decide +kernel) rfl
theorem kX10_212 : jLV RX10 212 10 yX10_out cX10_out 3 none 1 := ⟨⟨_, _, rfl⟩, gm_596, gm_598, gm_599, gm_222, gm_597, by decide +kernel⟩
theorem gm_600 : Cond.methodLink RX10 218 yX10_writesPage ∈ gw := gwm 1477 (by decide +kernel) rfl
theorem gm_601 : Cond.code yX10_writesPage cX10_writesPage 3 (some .int) ∈ gw := gwm 1480 (by decide +kernel) rfl
theorem gm_602 : Cond.instanceMethod yX10_writesPage ∈ gw := gwm 1479 (by decide +kernel) rfl
theorem gm_603 : Cond.selects RX10 yX10_writesPage yX10_writesPage ∈ gw := gwm 48 (by decide +kernel) rfl
theorem kX10_218 : jLV RX10 218 10 yX10_writesPage cX10_writesPage 3 (some .int) 1 := ⟨⟨_, _, rfl⟩, gm_600, gm_602, gm_603, gm_222, gm_601, by decide +kernel⟩
theorem gm_604 : Cond.methodLink RX10 224 yX10_accesses ∈ gw := gwm 1465 (by decide +kernel) rfl
theorem gm_605 : Cond.code yX10_accesses cX10_accesses 4 none ∈ gw := gwm 1468 (by decide +kernel) rfl
theorem gm_606 : Cond.instanceMethod yX10_accesses ∈ gw := gwm 1467 (by decide +kernel) rfl
theorem gm_607 : Cond.selects RX10 yX10_accesses yX10_accesses ∈ gw := gwm 45 (by decide +kernel) rfl
theorem kX10_224 : jLV RX10 224 10 yX10_accesses cX10_accesses 4 none 1 := ⟨⟨_, _, rfl⟩, gm_604, gm_606, gm_607, gm_222, gm_605, by decide +kernel⟩
theorem gm_608 : Cond.methodLink RX10 227 yX10_writesAll ∈ gw := gwm 1489 (by decide +kernel) rfl
theorem gm_609 : Cond.code yX10_writesAll cX10_writesAll 3 (some .int) ∈ gw := gwm 1492 (by decide +kernel) rfl
theorem gm_610 : Cond.instanceMethod yX10_writesAll ∈ gw := gwm 1491 (by decide +kernel) rfl
theorem gm_611 : Cond.selects RX10 yX10_writesAll yX10_writesAll ∈ gw := gwm 49 (by decide +kernel) rfl
theorem kX10_227 : jLV RX10 227 10 yX10_writesAll cX10_writesAll 3 (some .int) 0 := ⟨⟨_, _, rfl⟩, gm_608, gm_610, gm_611, gm_222, gm_609, by decide +kernel⟩
theorem gm_612 : Cond.methodLink RX10 230 yX10_noAddress ∈ gw := gwm 1505 (by decide +kernel) rfl
theorem gm_613 : Cond.code yX10_noAddress cX10_noAddress 2 (some .boolean) ∈ gw := gwm 1508 (by decide +kernel) rfl
theorem gm_614 : Cond.instanceMethod yX10_noAddress ∈ gw := gwm 1507 (by decide +kernel) rfl
theorem gm_615 : Cond.selects RX10 yX10_noAddress yX10_noAddress ∈ gw := gwm 50 (by decide +kernel) rfl
theorem kX10_230 : jLV RX10 230 10 yX10_noAddress cX10_noAddress 2 (some .boolean) 1 := ⟨⟨_, _, rfl⟩, gm_612, gm_614, gm_615, gm_222, gm_613, by decide +kernel⟩
theorem gm_616 : Cond.methodLink RX2 42 yX8_holds ∈ gw := gwm 1042 (by decide +kernel) rfl
theorem gm_617 : Cond.code yX8_holds cX8_holds 2 (some .boolean) ∈ gw := gwm 434 (by decide +kernel) rfl
theorem gm_618 : Cond.instanceMethod yX8_holds ∈ gw := gwm 432 (by decide +kernel) rfl
theorem gm_619 : Cond.selects RX8 yX8_holds yX8_holds ∈ gw := gwm 433 (by decide +kernel) rfl
theorem kX2_42 : jLV RX2 42 8 yX8_holds cX8_holds 2 (some .boolean) 1 := ⟨⟨_, _, rfl⟩, gm_616, gm_618, gm_619, gm_471, gm_617, by decide +kernel⟩
theorem gm_620 : Cond.methodLink RX2 46 yX2_access ∈ gw := gwm 1032 (by decide +kernel) rfl
theorem gm_621 : Cond.initialized RX2 ∈ gw := gwm 60 (by decide +kernel) rfl
theorem gm_622 : Cond.code yX2_access cX2_access 2 none ∈ gw := gwm 1035 (by decide +kernel) rfl
theorem gm_623 : Cond.instanceMethod yX2_access ∈ gw := gwm 1034 (by decide +kernel) rfl
theorem gm_624 : Cond.selects RX2 yX2_access yX2_access ∈ gw := gwm 18 (by decide +kernel) rfl
theorem kX2_46 : jLV RX2 46 2 yX2_access cX2_access 2 none 1 := ⟨⟨_, _, rfl⟩, gm_620, gm_623, gm_624, gm_621, gm_622, by decide +kernel⟩
theorem gm_625 : Cond.methodLink RX2 50 yX2_wordIn ∈ gw := gwm 1038 (by decide +kernel) rfl
theorem gm_626 : Cond.code yX2_wordIn cX2_wordIn 2 (some .int) ∈ gw := gwm 1041 (by decide +kernel) rfl
theorem gm_627 : Cond.instanceMethod yX2_wordIn ∈ gw := gwm 1039 (by decide +kernel) rfl
theorem gm_628 : Cond.selects RX2 yX2_wordIn yX2_wordIn ∈ gw := gwm 1040 (by decide +kernel) rfl
theorem kX2_50 : jLV RX2 50 2 yX2_wordIn cX2_wordIn 2 (some .int) 1 := ⟨⟨_, _, rfl⟩, gm_625, gm_627, gm_628, gm_621, gm_626, by decide +kernel⟩
theorem gm_629 : Cond.methodLink RX2 54 yX2_storeWord ∈ gw := gwm 1043 (by decide +kernel) rfl
theorem gm_630 : Cond.code yX2_storeWord cX2_storeWord 3 none ∈ gw := gwm 1046 (by decide +kernel) rfl
theorem gm_631 : Cond.instanceMethod yX2_storeWord ∈ gw := gwm 1045 (by decide +kernel) rfl
theorem gm_632 : Cond.selects RX2 yX2_storeWord yX2_storeWord ∈ gw := gwm 19 (by decide +kernel) rfl
theorem kX2_54 : jLV RX2 54 2 yX2_storeWord cX2_storeWord 3 none 2 := ⟨⟨_, _, rfl⟩, gm_629, gm_631, gm_632, gm_621, gm_630, by decide +kernel⟩
theorem gm_633 : Cond.methodLink RX2 58 yX2_writeAll ∈ gw := gwm 1058 (by decide +kernel) rfl
theorem gm_634 : Cond.code yX2_writeAll cX2_writeAll 3 (some .int) ∈ gw := gwm 347 (by decide +kernel) rfl
theorem gm_635 : Cond.instanceMethod yX2_writeAll ∈ gw := gwm 345 (by decide +kernel) rfl
theorem gm_636 : Cond.selects RX2 yX2_writeAll yX2_writeAll ∈ gw := gwm 346 (by decide +kernel) rfl
theorem kX2_58 : jLV RX2 58 2 yX2_writeAll cX2_writeAll 3 (some .int) 0 := ⟨⟨_, _, rfl⟩, gm_633, gm_635, gm_636, gm_621, gm_634, by decide +kernel⟩
theorem gm_637 : Cond.methodLink RX2 62 yX8_dropAll ∈ gw := gwm 1059 (by decide +kernel) rfl
theorem kX2_62 : jLV RX2 62 8 yX8_dropAll cX8_dropAll 1 none 0 := ⟨⟨_, _, rfl⟩, gm_637, gm_481, gm_482, gm_471, gm_480, by decide +kernel⟩
theorem gm_638 : Cond.methodLink RX2 65 yX2_writeIfDirty ∈ gw := gwm 348 (by decide +kernel) rfl
theorem gm_639 : Cond.code yX2_writeIfDirty cX2_writeIfDirty 2 none ∈ gw := gwm 351 (by decide +kernel) rfl
theorem gm_640 : Cond.instanceMethod yX2_writeIfDirty ∈ gw := gwm 350 (by decide +kernel) rfl
theorem gm_641 : Cond.selects RX2 yX2_writeIfDirty yX2_writeIfDirty ∈ gw := gwm 0 (by decide +kernel) rfl
theorem kX2_65 : jLV RX2 65 2 yX2_writeIfDirty cX2_writeIfDirty 2 none 1 := ⟨⟨_, _, rfl⟩, gm_638, gm_640, gm_641, gm_621, gm_639, by decide +kernel⟩
theorem gm_642 : Cond.methodLink RX2 68 yX8_use ∈ gw := gwm 1036 (by decide +kernel) rfl
theorem kX2_68 : jLV RX2 68 8 yX8_use cX8_use 3 (some .boolean) 1 := ⟨⟨_, _, rfl⟩, gm_642, gm_473, gm_474, gm_471, gm_472, by decide +kernel⟩
theorem gm_643 : Cond.methodLink RX2 71 yX2_copyPage ∈ gw := gwm 356 (by decide +kernel) rfl
theorem gm_644 : Cond.code yX2_copyPage cX2_copyPage 4 none ∈ gw := gwm 358 (by decide +kernel) rfl
theorem gm_645 : Cond.static yX2_copyPage ∈ gw := gwm 357 (by decide +kernel) rfl
theorem kX2_71 : jLS RX2 71 yX2_copyPage cX2_copyPage 4 none 3 := ⟨gm_643, gm_645, gm_621, gm_644, by decide +kernel⟩
theorem gm_646 : Cond.methodLink RX2 75 yX8_dropBeyond ∈ gw := gwm 1037 (by decide +kernel) rfl
theorem kX2_75 : jLV RX2 75 8 yX8_dropBeyond cX8_dropBeyond 3 (some .int) 1 := ⟨⟨_, _, rfl⟩, gm_646, gm_477, gm_478, gm_471, gm_476, by decide +kernel⟩
theorem gm_647 : Cond.methodLink RX2 78 yX2_hasChanged ∈ gw := gwm 352 (by decide +kernel) rfl
theorem gm_648 : Cond.code yX2_hasChanged cX2_hasChanged 2 (some .boolean) ∈ gw := gwm 355 (by decide +kernel) rfl
theorem gm_649 : Cond.instanceMethod yX2_hasChanged ∈ gw := gwm 353 (by decide +kernel) rfl
theorem gm_650 : Cond.selects RX2 yX2_hasChanged yX2_hasChanged ∈ gw := gwm 354 (by decide +kernel) rfl
theorem kX2_78 : jLV RX2 78 2 yX2_hasChanged cX2_hasChanged 2 (some .boolean) 1 := ⟨⟨_, _, rfl⟩, gm_647, gm_649, gm_650, gm_621, gm_648, by decide +kernel⟩
theorem gm_651 : Cond.methodLink RX3 31 yX3_letterIn ∈ gw := gwm 1004 (by decide +kernel) rfl
theorem gm_652 : Cond.initialized RX3 ∈ gw := gwm 59 (by decide +kernel) rfl
theorem gm_653 : Cond.code yX3_letterIn cX3_letterIn 2 (some .int) ∈ gw := gwm 1007 (by decide +kernel) rfl
theorem gm_654 : Cond.instanceMethod yX3_letterIn ∈ gw := gwm 1005 (by decide +kernel) rfl
theorem gm_655 : Cond.selects RX3 yX3_letterIn yX3_letterIn ∈ gw := gwm 1006 (by decide +kernel) rfl
theorem kX3_31 : jLV RX3 31 3 yX3_letterIn cX3_letterIn 2 (some .int) 1 := ⟨⟨_, _, rfl⟩, gm_651, gm_654, gm_655, gm_652, gm_653, by decide +kernel⟩
theorem gm_656 : Cond.methodLink RX3 35 yX3_numberIn ∈ gw := gwm 1008 (by decide +kernel) rfl
theorem gm_657 : Cond.code yX3_numberIn cX3_numberIn 2 (some .int) ∈ gw := gwm 1011 (by decide +kernel) rfl
theorem gm_658 : Cond.instanceMethod yX3_numberIn ∈ gw := gwm 1009 (by decide +kernel) rfl
theorem gm_659 : Cond.selects RX3 yX3_numberIn yX3_numberIn ∈ gw := gwm 1010 (by decide +kernel) rfl
theorem kX3_35 : jLV RX3 35 3 yX3_numberIn cX3_numberIn 2 (some .int) 1 := ⟨⟨_, _, rfl⟩, gm_656, gm_658, gm_659, gm_652, gm_657, by decide +kernel⟩
theorem gm_660 : Cond.methodLink RX3 38 yX3_addStep ∈ gw := gwm 1012 (by decide +kernel) rfl
theorem gm_661 : Cond.code yX3_addStep cX3_addStep 3 none ∈ gw := gwm 979 (by decide +kernel) rfl
theorem gm_662 : Cond.instanceMethod yX3_addStep ∈ gw := gwm 977 (by decide +kernel) rfl
theorem gm_663 : Cond.selects RX3 yX3_addStep yX3_addStep ∈ gw := gwm 978 (by decide +kernel) rfl
theorem kX3_38 : jLV RX3 38 3 yX3_addStep cX3_addStep 3 none 2 := ⟨⟨_, _, rfl⟩, gm_660, gm_662, gm_663, gm_652, gm_661, by decide +kernel⟩
theorem gm_664 : Cond.methodLink RX4 29 yX3_restart ∈ gw := gwm 937 (by decide +kernel) rfl
theorem gm_665 : Cond.code yX3_restart cX3_restart 1 none ∈ gw := gwm 940 (by decide +kernel) rfl
theorem gm_666 : Cond.instanceMethod yX3_restart ∈ gw := gwm 938 (by decide +kernel) rfl
theorem gm_667 : Cond.selects RX3 yX3_restart yX3_restart ∈ gw := gwm 939 (by decide +kernel) rfl
theorem kX4_29 : jLV RX4 29 3 yX3_restart cX3_restart 1 none 0 := ⟨⟨_, _, rfl⟩, gm_664, gm_666, gm_667, gm_652, gm_665, by decide +kernel⟩
theorem gm_668 : Cond.methodLink RX4 32 yX4_pass ∈ gw := gwm 941 (by decide +kernel) rfl
theorem gm_669 : Cond.initialized RX4 ∈ gw := gwm 57 (by decide +kernel) rfl
theorem gm_670 : Cond.code yX4_pass cX4_pass 2 none ∈ gw := gwm 944 (by decide +kernel) rfl
theorem gm_671 : Cond.instanceMethod yX4_pass ∈ gw := gwm 943 (by decide +kernel) rfl
theorem gm_672 : Cond.selects RX4 yX4_pass yX4_pass ∈ gw := gwm 9 (by decide +kernel) rfl
theorem kX4_32 : jLV RX4 32 4 yX4_pass cX4_pass 2 none 1 := ⟨⟨_, _, rfl⟩, gm_668, gm_671, gm_672, gm_669, gm_670, by decide +kernel⟩
theorem gm_673 : Cond.methodLink RX4 36 yX6_length ∈ gw := gwm 945 (by decide +kernel) rfl
theorem gm_674 : Cond.initialized RX6 ∈ gw := gwm 58 (by decide +kernel) rfl
theorem gm_675 : Cond.code yX6_length cX6_length 1 (some .int) ∈ gw := gwm 919 (by decide +kernel) rfl
theorem gm_676 : Cond.instanceMethod yX6_length ∈ gw := gwm 917 (by decide +kernel) rfl
theorem gm_677 : Cond.selects RX6 yX6_length yX6_length ∈ gw := gwm 918 (by decide +kernel) rfl
theorem kX4_36 : jLV RX4 36 6 yX6_length cX6_length 1 (some .int) 0 := ⟨⟨_, _, rfl⟩, gm_673, gm_676, gm_677, gm_674, gm_675, by decide +kernel⟩
theorem gm_678 : Cond.methodLink RX4 40 yX4_readPart ∈ gw := gwm 953 (by decide +kernel) rfl
theorem gm_679 : Cond.code yX4_readPart cX4_readPart 1 (some .boolean) ∈ gw := gwm 956 (by decide +kernel) rfl
theorem gm_680 : Cond.instanceMethod yX4_readPart ∈ gw := gwm 955 (by decide +kernel) rfl
theorem gm_681 : Cond.selects RX4 yX4_readPart yX4_readPart ∈ gw := gwm 10 (by decide +kernel) rfl
theorem kX4_40 : jLV RX4 40 4 yX4_readPart cX4_readPart 1 (some .boolean) 0 := ⟨⟨_, _, rfl⟩, gm_678, gm_680, gm_681, gm_669, gm_679, by decide +kernel⟩
theorem gm_682 : Cond.methodLink RX4 44 yX3_isInLoop ∈ gw := gwm 996 (by decide +kernel) rfl
theorem gm_683 : Cond.code yX3_isInLoop cX3_isInLoop 1 (some .boolean) ∈ gw := gwm 999 (by decide +kernel) rfl
theorem gm_684 : Cond.instanceMethod yX3_isInLoop ∈ gw := gwm 997 (by decide +kernel) rfl
theorem gm_685 : Cond.selects RX3 yX3_isInLoop yX3_isInLoop ∈ gw := gwm 998 (by decide +kernel) rfl
theorem kX4_44 : jLV RX4 44 3 yX3_isInLoop cX3_isInLoop 1 (some .boolean) 0 := ⟨⟨_, _, rfl⟩, gm_682, gm_684, gm_685, gm_652, gm_683, by decide +kernel⟩
theorem gm_686 : Cond.methodLink RX4 47 yX6_byteIn ∈ gw := gwm 946 (by decide +kernel) rfl
theorem gm_687 : Cond.code yX6_byteIn cX6_byteIn 2 (some .int) ∈ gw := gwm 949 (by decide +kernel) rfl
theorem gm_688 : Cond.instanceMethod yX6_byteIn ∈ gw := gwm 947 (by decide +kernel) rfl
theorem gm_689 : Cond.selects RX6 yX6_byteIn yX6_byteIn ∈ gw := gwm 948 (by decide +kernel) rfl
theorem kX4_47 : jLV RX4 47 6 yX6_byteIn cX6_byteIn 2 (some .int) 1 := ⟨⟨_, _, rfl⟩, gm_686, gm_688, gm_689, gm_674, gm_687, by decide +kernel⟩
theorem gm_690 : Cond.methodLink RX4 51 yX4_readStep ∈ gw := gwm 957 (by decide +kernel) rfl
theorem gm_691 : Cond.code yX4_readStep cX4_readStep 4 (some .boolean) ∈ gw := gwm 960 (by decide +kernel) rfl
theorem gm_692 : Cond.instanceMethod yX4_readStep ∈ gw := gwm 959 (by decide +kernel) rfl
theorem gm_693 : Cond.selects RX4 yX4_readStep yX4_readStep ∈ gw := gwm 11 (by decide +kernel) rfl
theorem kX4_51 : jLV RX4 51 4 yX4_readStep cX4_readStep 4 (some .boolean) 1 := ⟨⟨_, _, rfl⟩, gm_690, gm_692, gm_693, gm_669, gm_691, by decide +kernel⟩
theorem gm_694 : Cond.methodLink RX4 55 yX4_readLoopStart ∈ gw := gwm 980 (by decide +kernel) rfl
theorem gm_695 : Cond.code yX4_readLoopStart cX4_readLoopStart 2 (some .boolean) ∈ gw := gwm 983 (by decide +kernel) rfl
theorem gm_696 : Cond.instanceMethod yX4_readLoopStart ∈ gw := gwm 982 (by decide +kernel) rfl
theorem gm_697 : Cond.selects RX4 yX4_readLoopStart yX4_readLoopStart ∈ gw := gwm 15 (by decide +kernel) rfl
theorem kX4_55 : jLV RX4 55 4 yX4_readLoopStart cX4_readLoopStart 2 (some .boolean) 0 := ⟨⟨_, _, rfl⟩, gm_694, gm_696, gm_697, gm_669, gm_695, by decide +kernel⟩
theorem gm_698 : Cond.methodLink RX4 58 yX4_readLoopEnd ∈ gw := gwm 992 (by decide +kernel) rfl
theorem gm_699 : Cond.code yX4_readLoopEnd cX4_readLoopEnd 1 (some .boolean) ∈ gw := gwm 995 (by decide +kernel) rfl
theorem gm_700 : Cond.instanceMethod yX4_readLoopEnd ∈ gw := gwm 994 (by decide +kernel) rfl
theorem gm_701 : Cond.selects RX4 yX4_readLoopEnd yX4_readLoopEnd ∈ gw := gwm 16 (by decide +kernel) rfl
theorem kX4_58 : jLV RX4 58 4 yX4_readLoopEnd cX4_readLoopEnd 1 (some .boolean) 0 := ⟨⟨_, _, rfl⟩, gm_698, gm_700, gm_701, gm_669, gm_699, by decide +kernel⟩
theorem gm_702 : Cond.methodLink RX4 61 yX4_readNumber ∈ gw := gwm 961 (by decide +kernel) rfl
theorem gm_703 : Cond.code yX4_readNumber cX4_readNumber 6 (some .int) ∈ gw := gwm 964 (by decide +kernel) rfl
theorem gm_704 : Cond.instanceMethod yX4_readNumber ∈ gw := gwm 963 (by decide +kernel) rfl
theorem gm_705 : Cond.selects RX4 yX4_readNumber yX4_readNumber ∈ gw := gwm 12 (by decide +kernel) rfl
theorem kX4_61 : jLV RX4 61 4 yX4_readNumber cX4_readNumber 6 (some .int) 2 := ⟨⟨_, _, rfl⟩, gm_702, gm_704, gm_705, gm_669, gm_703, by decide +kernel⟩
theorem gm_706 : Cond.methodLink RX4 65 yX4_readSign ∈ gw := gwm 972 (by decide +kernel) rfl
theorem gm_707 : Cond.code yX4_readSign cX4_readSign 2 (some .boolean) ∈ gw := gwm 975 (by decide +kernel) rfl
theorem gm_708 : Cond.instanceMethod yX4_readSign ∈ gw := gwm 974 (by decide +kernel) rfl
theorem gm_709 : Cond.selects RX4 yX4_readSign yX4_readSign ∈ gw := gwm 14 (by decide +kernel) rfl
theorem kX4_65 : jLV RX4 65 4 yX4_readSign cX4_readSign 2 (some .boolean) 1 := ⟨⟨_, _, rfl⟩, gm_706, gm_708, gm_709, gm_669, gm_707, by decide +kernel⟩
theorem gm_710 : Cond.methodLink RX4 68 yX3_addStep ∈ gw := gwm 976 (by decide +kernel) rfl
theorem kX4_68 : jLV RX4 68 3 yX3_addStep cX3_addStep 3 none 2 := ⟨⟨_, _, rfl⟩, gm_710, gm_662, gm_663, gm_652, gm_661, by decide +kernel⟩
theorem gm_711 : Cond.methodLink RX4 72 yX3_canOpenLoop ∈ gw := gwm 984 (by decide +kernel) rfl
theorem gm_712 : Cond.code yX3_canOpenLoop cX3_canOpenLoop 1 (some .boolean) ∈ gw := gwm 987 (by decide +kernel) rfl
theorem gm_713 : Cond.instanceMethod yX3_canOpenLoop ∈ gw := gwm 985 (by decide +kernel) rfl
theorem gm_714 : Cond.selects RX3 yX3_canOpenLoop yX3_canOpenLoop ∈ gw := gwm 986 (by decide +kernel) rfl
theorem kX4_72 : jLV RX4 72 3 yX3_canOpenLoop cX3_canOpenLoop 1 (some .boolean) 0 := ⟨⟨_, _, rfl⟩, gm_711, gm_713, gm_714, gm_652, gm_712, by decide +kernel⟩
theorem gm_715 : Cond.methodLink RX4 75 yX3_openLoop ∈ gw := gwm 988 (by decide +kernel) rfl
theorem gm_716 : Cond.code yX3_openLoop cX3_openLoop 2 none ∈ gw := gwm 991 (by decide +kernel) rfl
theorem gm_717 : Cond.instanceMethod yX3_openLoop ∈ gw := gwm 989 (by decide +kernel) rfl
theorem gm_718 : Cond.selects RX3 yX3_openLoop yX3_openLoop ∈ gw := gwm 990 (by decide +kernel) rfl
theorem kX4_75 : jLV RX4 75 3 yX3_openLoop cX3_openLoop 2 none 1 := ⟨⟨_, _, rfl⟩, gm_715, gm_717, gm_718, gm_652, gm_716, by decide +kernel⟩
theorem gm_719 : Cond.methodLink RX4 78 yX3_closeLoop ∈ gw := gwm 1000 (by decide +kernel) rfl
theorem gm_720 : Cond.code yX3_closeLoop cX3_closeLoop 5 none ∈ gw := gwm 1003 (by decide +kernel) rfl
theorem gm_721 : Cond.instanceMethod yX3_closeLoop ∈ gw := gwm 1001 (by decide +kernel) rfl
theorem gm_722 : Cond.selects RX3 yX3_closeLoop yX3_closeLoop ∈ gw := gwm 1002 (by decide +kernel) rfl
theorem kX4_78 : jLV RX4 78 3 yX3_closeLoop cX3_closeLoop 5 none 0 := ⟨⟨_, _, rfl⟩, gm_719, gm_721, gm_722, gm_652, gm_720, by decide +kernel⟩
theorem gm_723 : Cond.methodLink RX4 81 yX4_countDigits ∈ gw := gwm 965 (by decide +kernel) rfl
theorem gm_724 : Cond.code yX4_countDigits cX4_countDigits 2 (some .int) ∈ gw := gwm 968 (by decide +kernel) rfl
theorem gm_725 : Cond.instanceMethod yX4_countDigits ∈ gw := gwm 967 (by decide +kernel) rfl
theorem gm_726 : Cond.selects RX4 yX4_countDigits yX4_countDigits ∈ gw := gwm 13 (by decide +kernel) rfl
theorem kX4_81 : jLV RX4 81 4 yX4_countDigits cX4_countDigits 2 (some .int) 0 := ⟨⟨_, _, rfl⟩, gm_723, gm_725, gm_726, gm_669, gm_724, by decide +kernel⟩
theorem gm_727 : Cond.methodLink RX4 84 yX4_isDigit ∈ gw := gwm 969 (by decide +kernel) rfl
theorem gm_728 : Cond.code yX4_isDigit cX4_isDigit 1 (some .boolean) ∈ gw := gwm 971 (by decide +kernel) rfl
theorem gm_729 : Cond.static yX4_isDigit ∈ gw := gwm 970 (by decide +kernel) rfl
theorem kX4_84 : jLS RX4 84 yX4_isDigit cX4_isDigit 1 (some .boolean) 1 := ⟨gm_727, gm_729, gm_669, gm_728, by decide +kernel⟩
theorem gm_730 : Cond.methodLink RX4 87 yX4_isBlank ∈ gw := gwm 950 (by decide +kernel) rfl
theorem gm_731 : Cond.code yX4_isBlank cX4_isBlank 1 (some .boolean) ∈ gw := gwm 952 (by decide +kernel) rfl
theorem gm_732 : Cond.static yX4_isBlank ∈ gw := gwm 951 (by decide +kernel) rfl
theorem kX4_87 : jLS RX4 87 yX4_isBlank cX4_isBlank 1 (some .boolean) 1 := ⟨gm_730, gm_732, gm_669, gm_731, by decide +kernel⟩
theorem gm_733 : Cond.methodLink RX5 29 yX5_distanceTo ∈ gw := gwm 830 (by decide +kernel) rfl
theorem gm_734 : Cond.initialized RX5 ∈ gw := gwm 56 (by decide +kernel) rfl
theorem gm_735 : Cond.code yX5_distanceTo cX5_distanceTo 3 (some .int) ∈ gw := gwm 833 (by decide +kernel) rfl
theorem gm_736 : Cond.instanceMethod yX5_distanceTo ∈ gw := gwm 832 (by decide +kernel) rfl
theorem gm_737 : Cond.selects RX5 yX5_distanceTo yX5_distanceTo ∈ gw := gwm 7 (by decide +kernel) rfl
theorem kX5_29 : jLV RX5 29 5 yX5_distanceTo cX5_distanceTo 3 (some .int) 1 := ⟨⟨_, _, rfl⟩, gm_733, gm_736, gm_737, gm_734, gm_735, by decide +kernel⟩
theorem gm_738 : Cond.methodLink RX5 33 yX8_use ∈ gw := gwm 836 (by decide +kernel) rfl
theorem kX5_33 : jLV RX5 33 8 yX8_use cX8_use 3 (some .boolean) 1 := ⟨⟨_, _, rfl⟩, gm_738, gm_473, gm_474, gm_471, gm_472, by decide +kernel⟩
theorem gm_739 : Cond.methodLink RX5 37 yX8_dropAll ∈ gw := gwm 319 (by decide +kernel) rfl
theorem kX5_37 : jLV RX5 37 8 yX8_dropAll cX8_dropAll 1 none 0 := ⟨⟨_, _, rfl⟩, gm_739, gm_481, gm_482, gm_471, gm_480, by decide +kernel⟩
theorem gm_740 : Cond.methodLink RX5 40 yX8_find ∈ gw := gwm 834 (by decide +kernel) rfl
theorem gm_741 : Cond.code yX8_find cX8_find 3 (some .int) ∈ gw := gwm 438 (by decide +kernel) rfl
theorem gm_742 : Cond.instanceMethod yX8_find ∈ gw := gwm 436 (by decide +kernel) rfl
theorem gm_743 : Cond.selects RX8 yX8_find yX8_find ∈ gw := gwm 437 (by decide +kernel) rfl
theorem kX5_40 : jLV RX5 40 8 yX8_find cX8_find 3 (some .int) 1 := ⟨⟨_, _, rfl⟩, gm_740, gm_742, gm_743, gm_471, gm_741, by decide +kernel⟩
theorem gm_744 : Cond.methodLink RX5 43 yX8_length ∈ gw := gwm 835 (by decide +kernel) rfl
theorem gm_745 : Cond.code yX8_length cX8_length 1 (some .int) ∈ gw := gwm 378 (by decide +kernel) rfl
theorem gm_746 : Cond.instanceMethod yX8_length ∈ gw := gwm 376 (by decide +kernel) rfl
theorem gm_747 : Cond.selects RX8 yX8_length yX8_length ∈ gw := gwm 377 (by decide +kernel) rfl
theorem kX5_43 : jLV RX5 43 8 yX8_length cX8_length 1 (some .int) 0 := ⟨⟨_, _, rfl⟩, gm_744, gm_746, gm_747, gm_471, gm_745, by decide +kernel⟩
theorem gm_748 : Cond.methodLink RX7 39 yX8_holds ∈ gw := gwm 537 (by decide +kernel) rfl
theorem kX7_39 : jLV RX7 39 8 yX8_holds cX8_holds 2 (some .boolean) 1 := ⟨⟨_, _, rfl⟩, gm_748, gm_618, gm_619, gm_471, gm_617, by decide +kernel⟩
theorem gm_749 : Cond.methodLink RX7 43 yX8_keyIn ∈ gw := gwm 650 (by decide +kernel) rfl
theorem gm_750 : Cond.code yX8_keyIn cX8_keyIn 2 (some .int) ∈ gw := gwm 430 (by decide +kernel) rfl
theorem gm_751 : Cond.instanceMethod yX8_keyIn ∈ gw := gwm 428 (by decide +kernel) rfl
theorem gm_752 : Cond.selects RX8 yX8_keyIn yX8_keyIn ∈ gw := gwm 429 (by decide +kernel) rfl
theorem kX7_43 : jLV RX7 43 8 yX8_keyIn cX8_keyIn 2 (some .int) 1 := ⟨⟨_, _, rfl⟩, gm_749, gm_751, gm_752, gm_471, gm_750, by decide +kernel⟩
theorem gm_753 : Cond.methodLink RX7 47 yX7_lookUp ∈ gw := gwm 533 (by decide +kernel) rfl
theorem gm_754 : Cond.initialized RX7 ∈ gw := gwm 53 (by decide +kernel) rfl
theorem gm_755 : Cond.code yX7_lookUp cX7_lookUp 2 (some .int) ∈ gw := gwm 536 (by decide +kernel) rfl
theorem gm_756 : Cond.instanceMethod yX7_lookUp ∈ gw := gwm 534 (by decide +kernel) rfl
theorem gm_757 : Cond.selects RX7 yX7_lookUp yX7_lookUp ∈ gw := gwm 535 (by decide +kernel) rfl
theorem kX7_47 : jLV RX7 47 7 yX7_lookUp cX7_lookUp 2 (some .int) 1 := ⟨⟨_, _, rfl⟩, gm_753, gm_756, gm_757, gm_754, gm_755, by decide +kernel⟩
theorem gm_758 : Cond.methodLink RX7 50 yX1_end ∈ gw := gwm 538 (by decide +kernel) rfl
theorem gm_759 : Cond.initialized RX1 ∈ gw := gwm 55 (by decide +kernel) rfl
theorem gm_760 : Cond.code yX1_end cX1_end 1 none ∈ gw := gwm 541 (by decide +kernel) rfl
theorem gm_761 : Cond.instanceMethod yX1_end ∈ gw := gwm 539 (by decide +kernel) rfl
theorem gm_762 : Cond.selects RX1 yX1_end yX1_end ∈ gw := gwm 540 (by decide +kernel) rfl
theorem kX7_50 : jLV RX7 50 1 yX1_end cX1_end 1 none 0 := ⟨⟨_, _, rfl⟩, gm_758, gm_761, gm_762, gm_759, gm_760, by decide +kernel⟩
theorem gm_763 : Cond.methodLink RX7 53 yX8_use ∈ gw := gwm 542 (by decide +kernel) rfl
theorem kX7_53 : jLV RX7 53 8 yX8_use cX8_use 3 (some .boolean) 1 := ⟨⟨_, _, rfl⟩, gm_763, gm_473, gm_474, gm_471, gm_472, by decide +kernel⟩
theorem gm_764 : Cond.methodLink RX7 56 yX8_dropBeyond ∈ gw := gwm 550 (by decide +kernel) rfl
theorem kX7_56 : jLV RX7 56 8 yX8_dropBeyond cX8_dropBeyond 3 (some .int) 1 := ⟨⟨_, _, rfl⟩, gm_764, gm_477, gm_478, gm_471, gm_476, by decide +kernel⟩
theorem gm_765 : Cond.methodLink RX7 59 yX7_recordOut ∈ gw := gwm 555 (by decide +kernel) rfl
theorem gm_766 : Cond.code yX7_recordOut cX7_recordOut 2 none ∈ gw := gwm 558 (by decide +kernel) rfl
theorem gm_767 : Cond.instanceMethod yX7_recordOut ∈ gw := gwm 557 (by decide +kernel) rfl
theorem gm_768 : Cond.selects RX7 yX7_recordOut yX7_recordOut ∈ gw := gwm 5 (by decide +kernel) rfl
theorem kX7_59 : jLV RX7 59 7 yX7_recordOut cX7_recordOut 2 none 1 := ⟨⟨_, _, rfl⟩, gm_765, gm_767, gm_768, gm_754, gm_766, by decide +kernel⟩
theorem gm_769 : Cond.methodLink RX7 63 yX7_store ∈ gw := gwm 570 (by decide +kernel) rfl
theorem gm_770 : Cond.code yX7_store cX7_store 4 (some .int) ∈ gw := gwm 532 (by decide +kernel) rfl
theorem gm_771 : Cond.instanceMethod yX7_store ∈ gw := gwm 530 (by decide +kernel) rfl
theorem gm_772 : Cond.selects RX7 yX7_store yX7_store ∈ gw := gwm 531 (by decide +kernel) rfl
theorem kX7_63 : jLV RX7 63 7 yX7_store cX7_store 4 (some .int) 2 := ⟨⟨_, _, rfl⟩, gm_769, gm_771, gm_772, gm_754, gm_770, by decide +kernel⟩
theorem gm_773 : Cond.methodLink RX7 67 yX8_find ∈ gw := gwm 600 (by decide +kernel) rfl
theorem kX7_67 : jLV RX7 67 8 yX8_find cX8_find 3 (some .int) 1 := ⟨⟨_, _, rfl⟩, gm_773, gm_742, gm_743, gm_471, gm_741, by decide +kernel⟩
theorem gm_774 : Cond.methodLink RX7 70 yX8_dropIn ∈ gw := gwm 601 (by decide +kernel) rfl
theorem gm_775 : Cond.code yX8_dropIn cX8_dropIn 3 none ∈ gw := gwm 549 (by decide +kernel) rfl
theorem gm_776 : Cond.instanceMethod yX8_dropIn ∈ gw := gwm 547 (by decide +kernel) rfl
theorem gm_777 : Cond.selects RX8 yX8_dropIn yX8_dropIn ∈ gw := gwm 548 (by decide +kernel) rfl
theorem kX7_70 : jLV RX7 70 8 yX8_dropIn cX8_dropIn 3 none 1 := ⟨⟨_, _, rfl⟩, gm_774, gm_776, gm_777, gm_471, gm_775, by decide +kernel⟩
theorem gm_778 : Cond.methodLink RX7 73 yX8_length ∈ gw := gwm 613 (by decide +kernel) rfl
theorem kX7_73 : jLV RX7 73 8 yX8_length cX8_length 1 (some .int) 0 := ⟨⟨_, _, rfl⟩, gm_778, gm_746, gm_747, gm_471, gm_745, by decide +kernel⟩
theorem gm_779 : Cond.methodLink RX7 77 yX8_dropAll ∈ gw := gwm 614 (by decide +kernel) rfl
theorem kX7_77 : jLV RX7 77 8 yX8_dropAll cX8_dropAll 1 none 0 := ⟨⟨_, _, rfl⟩, gm_779, gm_481, gm_482, gm_471, gm_480, by decide +kernel⟩
theorem gm_780 : Cond.methodLink RX7 80 yX7_dropAll ∈ gw := gwm 626 (by decide +kernel) rfl
theorem gm_781 : Cond.code yX7_dropAll cX7_dropAll 2 (some .int) ∈ gw := gwm 612 (by decide +kernel) rfl
theorem gm_782 : Cond.instanceMethod yX7_dropAll ∈ gw := gwm 610 (by decide +kernel) rfl
theorem gm_783 : Cond.selects RX7 yX7_dropAll yX7_dropAll ∈ gw := gwm 611 (by decide +kernel) rfl
theorem kX7_80 : jLV RX7 80 7 yX7_dropAll cX7_dropAll 2 (some .int) 0 := ⟨⟨_, _, rfl⟩, gm_780, gm_782, gm_783, gm_754, gm_781, by decide +kernel⟩
theorem gm_784 : Cond.methodLink RX7 82 yX7_valueIn ∈ gw := gwm 646 (by decide +kernel) rfl
theorem gm_785 : Cond.code yX7_valueIn cX7_valueIn 2 (some .int) ∈ gw := gwm 649 (by decide +kernel) rfl
theorem gm_786 : Cond.instanceMethod yX7_valueIn ∈ gw := gwm 647 (by decide +kernel) rfl
theorem gm_787 : Cond.selects RX7 yX7_valueIn yX7_valueIn ∈ gw := gwm 648 (by decide +kernel) rfl
theorem kX7_82 : jLV RX7 82 7 yX7_valueIn cX7_valueIn 2 (some .int) 1 := ⟨⟨_, _, rfl⟩, gm_784, gm_786, gm_787, gm_754, gm_785, by decide +kernel⟩
theorem gm_788 : Cond.methodLink RX8 19 yX8_find ∈ gw := gwm 435 (by decide +kernel) rfl
theorem kX8_19 : jLV RX8 19 8 yX8_find cX8_find 3 (some .int) 1 := ⟨⟨_, _, rfl⟩, gm_788, gm_742, gm_743, gm_471, gm_741, by decide +kernel⟩
theorem gm_789 : Cond.methodLink RX8 23 yX8_dropIn ∈ gw := gwm 546 (by decide +kernel) rfl
theorem kX8_23 : jLV RX8 23 8 yX8_dropIn cX8_dropIn 3 none 1 := ⟨⟨_, _, rfl⟩, gm_789, gm_776, gm_777, gm_471, gm_775, by decide +kernel⟩
theorem gm_790 : Cond.methodLink RX8 27 yX8_keyIn ∈ gw := gwm 554 (by decide +kernel) rfl
theorem kX8_27 : jLV RX8 27 8 yX8_keyIn cX8_keyIn 2 (some .int) 1 := ⟨⟨_, _, rfl⟩, gm_790, gm_751, gm_752, gm_471, gm_750, by decide +kernel⟩
theorem gm_791 : Cond.methodLink RX9 53 yX9_chosenMap ∈ gw := gwm 447 (by decide +kernel) rfl
theorem gm_792 : Cond.code yX9_chosenMap cX9_chosenMap 2 (some (.object "LastUseDesk$UseMap")) ∈ gw := gwm 450 (by decide +kernel) rfl
theorem gm_793 : Cond.instanceMethod yX9_chosenMap ∈ gw := gwm 449 (by decide +kernel) rfl
theorem gm_794 : Cond.selects RX9 yX9_chosenMap yX9_chosenMap ∈ gw := gwm 3 (by decide +kernel) rfl
theorem kX9_53 : jLV RX9 53 9 yX9_chosenMap cX9_chosenMap 2 (some (.object "LastUseDesk$UseMap")) 1 := ⟨⟨_, _, rfl⟩, gm_791, gm_793, gm_794, gm_81, gm_792, by decide +kernel⟩
theorem gm_795 : Cond.methodLink RX9 57 yX9_requireKey ∈ gw := gwm 523 (by decide +kernel) rfl
theorem gm_796 : Cond.code yX9_requireKey cX9_requireKey 1 none ∈ gw := gwm 525 (by decide +kernel) rfl
theorem gm_797 : Cond.static yX9_requireKey ∈ gw := gwm 524 (by decide +kernel) rfl
theorem kX9_57 : jLS RX9 57 yX9_requireKey cX9_requireKey 1 none 1 := ⟨gm_795, gm_797, gm_81, gm_796, by decide +kernel⟩
theorem gm_798 : Cond.methodLink RX9 60 yX9_requireValue ∈ gw := gwm 526 (by decide +kernel) rfl
theorem gm_799 : Cond.code yX9_requireValue cX9_requireValue 1 none ∈ gw := gwm 528 (by decide +kernel) rfl
theorem gm_800 : Cond.static yX9_requireValue ∈ gw := gwm 527 (by decide +kernel) rfl
theorem kX9_60 : jLS RX9 60 yX9_requireValue cX9_requireValue 1 none 1 := ⟨gm_798, gm_800, gm_81, gm_799, by decide +kernel⟩
theorem gm_801 : Cond.methodLink RX9 63 yX7_store ∈ gw := gwm 529 (by decide +kernel) rfl
theorem kX9_63 : jLV RX9 63 7 yX7_store cX7_store 4 (some .int) 2 := ⟨⟨_, _, rfl⟩, gm_801, gm_771, gm_772, gm_754, gm_770, by decide +kernel⟩
theorem gm_802 : Cond.methodLink RX9 67 yX7_storeIfMissing ∈ gw := gwm 566 (by decide +kernel) rfl
theorem gm_803 : Cond.code yX7_storeIfMissing cX7_storeIfMissing 4 (some .int) ∈ gw := gwm 569 (by decide +kernel) rfl
theorem gm_804 : Cond.instanceMethod yX7_storeIfMissing ∈ gw := gwm 567 (by decide +kernel) rfl
theorem gm_805 : Cond.selects RX7 yX7_storeIfMissing yX7_storeIfMissing ∈ gw := gwm 568 (by decide +kernel) rfl
theorem kX9_67 : jLV RX9 67 7 yX7_storeIfMissing cX7_storeIfMissing 4 (some .int) 2 := ⟨⟨_, _, rfl⟩, gm_802, gm_804, gm_805, gm_754, gm_803, by decide +kernel⟩
theorem gm_806 : Cond.methodLink RX9 70 yX7_fetch ∈ gw := gwm 578 (by decide +kernel) rfl
theorem gm_807 : Cond.code yX7_fetch cX7_fetch 3 (some .int) ∈ gw := gwm 581 (by decide +kernel) rfl
theorem gm_808 : Cond.instanceMethod yX7_fetch ∈ gw := gwm 579 (by decide +kernel) rfl
theorem gm_809 : Cond.selects RX7 yX7_fetch yX7_fetch ∈ gw := gwm 580 (by decide +kernel) rfl
theorem kX9_70 : jLV RX9 70 7 yX7_fetch cX7_fetch 3 (some .int) 1 := ⟨⟨_, _, rfl⟩, gm_806, gm_808, gm_809, gm_754, gm_807, by decide +kernel⟩
theorem gm_810 : Cond.methodLink RX9 74 yX7_drop ∈ gw := gwm 596 (by decide +kernel) rfl
theorem gm_811 : Cond.code yX7_drop cX7_drop 3 (some .int) ∈ gw := gwm 599 (by decide +kernel) rfl
theorem gm_812 : Cond.instanceMethod yX7_drop ∈ gw := gwm 597 (by decide +kernel) rfl
theorem gm_813 : Cond.selects RX7 yX7_drop yX7_drop ∈ gw := gwm 598 (by decide +kernel) rfl
theorem kX9_74 : jLV RX9 74 7 yX7_drop cX7_drop 3 (some .int) 1 := ⟨⟨_, _, rfl⟩, gm_810, gm_812, gm_813, gm_754, gm_811, by decide +kernel⟩
theorem gm_814 : Cond.methodLink RX9 77 yX7_dropAll ∈ gw := gwm 609 (by decide +kernel) rfl
theorem kX9_77 : jLV RX9 77 7 yX7_dropAll cX7_dropAll 2 (some .int) 0 := ⟨⟨_, _, rfl⟩, gm_814, gm_782, gm_783, gm_754, gm_781, by decide +kernel⟩
theorem gm_815 : Cond.methodLink RX9 81 yX9_requireRange ∈ gw := gwm 451 (by decide +kernel) rfl
theorem gm_816 : Cond.code yX9_requireRange cX9_requireRange 3 none ∈ gw := gwm 453 (by decide +kernel) rfl
theorem gm_817 : Cond.static yX9_requireRange ∈ gw := gwm 452 (by decide +kernel) rfl
theorem kX9_81 : jLS RX9 81 yX9_requireRange cX9_requireRange 3 none 3 := ⟨gm_815, gm_817, gm_81, gm_816, by decide +kernel⟩
theorem gm_818 : Cond.methodLink RX9 85 yX7_changeBound ∈ gw := gwm 622 (by decide +kernel) rfl
theorem gm_819 : Cond.code yX7_changeBound cX7_changeBound 3 (some .int) ∈ gw := gwm 625 (by decide +kernel) rfl
theorem gm_820 : Cond.instanceMethod yX7_changeBound ∈ gw := gwm 623 (by decide +kernel) rfl
theorem gm_821 : Cond.selects RX7 yX7_changeBound yX7_changeBound ∈ gw := gwm 624 (by decide +kernel) rfl
theorem kX9_85 : jLV RX9 85 7 yX7_changeBound cX7_changeBound 3 (some .int) 1 := ⟨⟨_, _, rfl⟩, gm_818, gm_820, gm_821, gm_754, gm_819, by decide +kernel⟩
theorem gm_822 : Cond.methodLink RX9 88 yX7_lookUp ∈ gw := gwm 634 (by decide +kernel) rfl
theorem kX9_88 : jLV RX9 88 7 yX7_lookUp cX7_lookUp 2 (some .int) 1 := ⟨⟨_, _, rfl⟩, gm_822, gm_756, gm_757, gm_754, gm_755, by decide +kernel⟩
theorem gm_823 : Cond.methodLink RX9 91 yX7_holdsValue ∈ gw := gwm 642 (by decide +kernel) rfl
theorem gm_824 : Cond.code yX7_holdsValue cX7_holdsValue 3 (some .boolean) ∈ gw := gwm 645 (by decide +kernel) rfl
theorem gm_825 : Cond.instanceMethod yX7_holdsValue ∈ gw := gwm 643 (by decide +kernel) rfl
theorem gm_826 : Cond.selects RX7 yX7_holdsValue yX7_holdsValue ∈ gw := gwm 644 (by decide +kernel) rfl
theorem kX9_91 : jLV RX9 91 7 yX7_holdsValue cX7_holdsValue 3 (some .boolean) 1 := ⟨⟨_, _, rfl⟩, gm_823, gm_825, gm_826, gm_754, gm_824, by decide +kernel⟩
theorem gm_827 : Cond.methodLink RX9 95 yX7_keys ∈ gw := gwm 658 (by decide +kernel) rfl
theorem gm_828 : Cond.code yX7_keys cX7_keys 1 (some (.object "LastUseDesk$UseOrder")) ∈ gw := gwm 661 (by decide +kernel) rfl
theorem gm_829 : Cond.instanceMethod yX7_keys ∈ gw := gwm 659 (by decide +kernel) rfl
theorem gm_830 : Cond.selects RX7 yX7_keys yX7_keys ∈ gw := gwm 660 (by decide +kernel) rfl
theorem kX9_95 : jLV RX9 95 7 yX7_keys cX7_keys 1 (some (.object "LastUseDesk$UseOrder")) 0 := ⟨⟨_, _, rfl⟩, gm_827, gm_829, gm_830, gm_754, gm_828, by decide +kernel⟩
theorem gm_831 : Cond.methodLink RX9 99 yX8_length ∈ gw := gwm 375 (by decide +kernel) rfl
theorem kX9_99 : jLV RX9 99 8 yX8_length cX8_length 1 (some .int) 0 := ⟨⟨_, _, rfl⟩, gm_831, gm_746, gm_747, gm_471, gm_745, by decide +kernel⟩
theorem gm_832 : Cond.methodLink RX9 104 yX9_requirePlace ∈ gw := gwm 670 (by decide +kernel) rfl
theorem gm_833 : Cond.code yX9_requirePlace cX9_requirePlace 2 none ∈ gw := gwm 672 (by decide +kernel) rfl
theorem gm_834 : Cond.static yX9_requirePlace ∈ gw := gwm 671 (by decide +kernel) rfl
theorem kX9_104 : jLS RX9 104 yX9_requirePlace cX9_requirePlace 2 none 2 := ⟨gm_832, gm_834, gm_81, gm_833, by decide +kernel⟩
theorem gm_835 : Cond.methodLink RX9 108 yX8_keyIn ∈ gw := gwm 427 (by decide +kernel) rfl
theorem kX9_108 : jLV RX9 108 8 yX8_keyIn cX8_keyIn 2 (some .int) 1 := ⟨⟨_, _, rfl⟩, gm_835, gm_751, gm_752, gm_471, gm_750, by decide +kernel⟩
theorem gm_836 : Cond.methodLink RX9 111 yX7_valueIn ∈ gw := gwm 696 (by decide +kernel) rfl
theorem kX9_111 : jLV RX9 111 7 yX7_valueIn cX7_valueIn 2 (some .int) 1 := ⟨⟨_, _, rfl⟩, gm_836, gm_786, gm_787, gm_754, gm_785, by decide +kernel⟩
theorem gm_837 : Cond.methodLink RX9 114 yX8_find ∈ gw := gwm 704 (by decide +kernel) rfl
theorem kX9_114 : jLV RX9 114 8 yX8_find cX8_find 3 (some .int) 1 := ⟨⟨_, _, rfl⟩, gm_837, gm_742, gm_743, gm_471, gm_741, by decide +kernel⟩
theorem gm_838 : Cond.methodLink RX9 117 yX7_total ∈ gw := gwm 712 (by decide +kernel) rfl
theorem gm_839 : Cond.code yX7_total cX7_total 3 (some .int) ∈ gw := gwm 715 (by decide +kernel) rfl
theorem gm_840 : Cond.instanceMethod yX7_total ∈ gw := gwm 713 (by decide +kernel) rfl
theorem gm_841 : Cond.selects RX7 yX7_total yX7_total ∈ gw := gwm 714 (by decide +kernel) rfl
theorem kX9_117 : jLV RX9 117 7 yX7_total cX7_total 3 (some .int) 0 := ⟨⟨_, _, rfl⟩, gm_838, gm_840, gm_841, gm_754, gm_839, by decide +kernel⟩
theorem gm_842 : Cond.methodLink RX9 120 yX7_outCount ∈ gw := gwm 287 (by decide +kernel) rfl
theorem gm_843 : Cond.code yX7_outCount cX7_outCount 1 (some .int) ∈ gw := gwm 290 (by decide +kernel) rfl
theorem gm_844 : Cond.instanceMethod yX7_outCount ∈ gw := gwm 288 (by decide +kernel) rfl
theorem gm_845 : Cond.selects RX7 yX7_outCount yX7_outCount ∈ gw := gwm 289 (by decide +kernel) rfl
theorem kX9_120 : jLV RX9 120 7 yX7_outCount cX7_outCount 1 (some .int) 0 := ⟨⟨_, _, rfl⟩, gm_842, gm_844, gm_845, gm_754, gm_843, by decide +kernel⟩
theorem gm_846 : Cond.methodLink RX9 123 yX7_outLast ∈ gw := gwm 295 (by decide +kernel) rfl
theorem gm_847 : Cond.code yX7_outLast cX7_outLast 1 (some .int) ∈ gw := gwm 298 (by decide +kernel) rfl
theorem gm_848 : Cond.instanceMethod yX7_outLast ∈ gw := gwm 296 (by decide +kernel) rfl
theorem gm_849 : Cond.selects RX7 yX7_outLast yX7_outLast ∈ gw := gwm 297 (by decide +kernel) rfl
theorem kX9_123 : jLV RX9 123 7 yX7_outLast cX7_outLast 1 (some .int) 0 := ⟨⟨_, _, rfl⟩, gm_846, gm_848, gm_849, gm_754, gm_847, by decide +kernel⟩
theorem gm_850 : Cond.methodLink RX9 126 yX7_cursor ∈ gw := gwm 723 (by decide +kernel) rfl
theorem gm_851 : Cond.code yX7_cursor cX7_cursor 1 (some (.object "LastUseDesk$Cursor")) ∈ gw := gwm 726 (by decide +kernel) rfl
theorem gm_852 : Cond.instanceMethod yX7_cursor ∈ gw := gwm 724 (by decide +kernel) rfl
theorem gm_853 : Cond.selects RX7 yX7_cursor yX7_cursor ∈ gw := gwm 725 (by decide +kernel) rfl
theorem kX9_126 : jLV RX9 126 7 yX7_cursor cX7_cursor 1 (some (.object "LastUseDesk$Cursor")) 0 := ⟨⟨_, _, rfl⟩, gm_850, gm_852, gm_853, gm_754, gm_851, by decide +kernel⟩
theorem gm_854 : Cond.methodLink RX9 130 yX1_begin ∈ gw := gwm 727 (by decide +kernel) rfl
theorem gm_855 : Cond.code yX1_begin cX1_begin 1 none ∈ gw := gwm 730 (by decide +kernel) rfl
theorem gm_856 : Cond.instanceMethod yX1_begin ∈ gw := gwm 728 (by decide +kernel) rfl
theorem gm_857 : Cond.selects RX1 yX1_begin yX1_begin ∈ gw := gwm 729 (by decide +kernel) rfl
theorem kX9_130 : jLV RX9 130 1 yX1_begin cX1_begin 1 none 0 := ⟨⟨_, _, rfl⟩, gm_854, gm_856, gm_857, gm_759, gm_855, by decide +kernel⟩
theorem gm_858 : Cond.methodLink RX9 135 yX1_isAheadOf ∈ gw := gwm 738 (by decide +kernel) rfl
theorem gm_859 : Cond.code yX1_isAheadOf cX1_isAheadOf 2 (some .boolean) ∈ gw := gwm 741 (by decide +kernel) rfl
theorem gm_860 : Cond.instanceMethod yX1_isAheadOf ∈ gw := gwm 739 (by decide +kernel) rfl
theorem gm_861 : Cond.selects RX1 yX1_isAheadOf yX1_isAheadOf ∈ gw := gwm 740 (by decide +kernel) rfl
theorem kX9_135 : jLV RX9 135 1 yX1_isAheadOf cX1_isAheadOf 2 (some .boolean) 1 := ⟨⟨_, _, rfl⟩, gm_858, gm_860, gm_861, gm_759, gm_859, by decide +kernel⟩
theorem gm_862 : Cond.methodLink RX9 138 yX1_isBegun ∈ gw := gwm 751 (by decide +kernel) rfl
theorem gm_863 : Cond.code yX1_isBegun cX1_isBegun 1 (some .boolean) ∈ gw := gwm 754 (by decide +kernel) rfl
theorem gm_864 : Cond.instanceMethod yX1_isBegun ∈ gw := gwm 752 (by decide +kernel) rfl
theorem gm_865 : Cond.selects RX1 yX1_isBegun yX1_isBegun ∈ gw := gwm 753 (by decide +kernel) rfl
theorem kX9_138 : jLV RX9 138 1 yX1_isBegun cX1_isBegun 1 (some .boolean) 0 := ⟨⟨_, _, rfl⟩, gm_862, gm_864, gm_865, gm_759, gm_863, by decide +kernel⟩
theorem gm_866 : Cond.methodLink RX9 154 yX1_advance ∈ gw := gwm 787 (by decide +kernel) rfl
theorem gm_867 : Cond.code yX1_advance cX1_advance 2 (some .int) ∈ gw := gwm 790 (by decide +kernel) rfl
theorem gm_868 : Cond.instanceMethod yX1_advance ∈ gw := gwm 788 (by decide +kernel) rfl
theorem gm_869 : Cond.selects RX1 yX1_advance yX1_advance ∈ gw := gwm 789 (by decide +kernel) rfl
theorem kX9_154 : jLV RX9 154 1 yX1_advance cX1_advance 2 (some .int) 0 := ⟨⟨_, _, rfl⟩, gm_866, gm_868, gm_869, gm_759, gm_867, by decide +kernel⟩
theorem gm_870 : Cond.methodLink RX9 157 yX1_canTake ∈ gw := gwm 798 (by decide +kernel) rfl
theorem gm_871 : Cond.code yX1_canTake cX1_canTake 1 (some .boolean) ∈ gw := gwm 801 (by decide +kernel) rfl
theorem gm_872 : Cond.instanceMethod yX1_canTake ∈ gw := gwm 799 (by decide +kernel) rfl
theorem gm_873 : Cond.selects RX1 yX1_canTake yX1_canTake ∈ gw := gwm 800 (by decide +kernel) rfl
theorem kX9_157 : jLV RX9 157 1 yX1_canTake cX1_canTake 1 (some .boolean) 0 := ⟨⟨_, _, rfl⟩, gm_870, gm_872, gm_873, gm_759, gm_871, by decide +kernel⟩
theorem gm_874 : Cond.methodLink RX9 162 yX1_stepBack ∈ gw := gwm 803 (by decide +kernel) rfl
theorem gm_875 : Cond.code yX1_stepBack cX1_stepBack 1 (some .int) ∈ gw := gwm 806 (by decide +kernel) rfl
theorem gm_876 : Cond.instanceMethod yX1_stepBack ∈ gw := gwm 804 (by decide +kernel) rfl
theorem gm_877 : Cond.selects RX1 yX1_stepBack yX1_stepBack ∈ gw := gwm 805 (by decide +kernel) rfl
theorem kX9_162 : jLV RX9 162 1 yX1_stepBack cX1_stepBack 1 (some .int) 0 := ⟨⟨_, _, rfl⟩, gm_874, gm_876, gm_877, gm_759, gm_875, by decide +kernel⟩
theorem gm_878 : Cond.methodLink RX9 165 yX8_dropIn ∈ gw := gwm 807 (by decide +kernel) rfl
theorem kX9_165 : jLV RX9 165 8 yX8_dropIn cX8_dropIn 3 none 1 := ⟨⟨_, _, rfl⟩, gm_878, gm_776, gm_777, gm_471, gm_775, by decide +kernel⟩
theorem gm_879 : Cond.methodLink RX9 168 yX5_length ∈ gw := gwm 303 (by decide +kernel) rfl
theorem gm_880 : Cond.code yX5_length cX5_length 1 (some .int) ∈ gw := gwm 306 (by decide +kernel) rfl
theorem gm_881 : Cond.instanceMethod yX5_length ∈ gw := gwm 304 (by decide +kernel) rfl
theorem gm_882 : Cond.selects RX5 yX5_length yX5_length ∈ gw := gwm 305 (by decide +kernel) rfl
theorem kX9_168 : jLV RX9 168 5 yX5_length cX5_length 1 (some .int) 0 := ⟨⟨_, _, rfl⟩, gm_879, gm_881, gm_882, gm_734, gm_880, by decide +kernel⟩
theorem gm_883 : Cond.methodLink RX9 171 yX9_askCaches ∈ gw := gwm 816 (by decide +kernel) rfl
theorem gm_884 : Cond.code yX9_askCaches cX9_askCaches 4 (some .int) ∈ gw := gwm 819 (by decide +kernel) rfl
theorem gm_885 : Cond.instanceMethod yX9_askCaches ∈ gw := gwm 818 (by decide +kernel) rfl
theorem gm_886 : Cond.selects RX9 yX9_askCaches yX9_askCaches ∈ gw := gwm 6 (by decide +kernel) rfl
theorem kX9_171 : jLV RX9 171 9 yX9_askCaches cX9_askCaches 4 (some .int) 1 := ⟨⟨_, _, rfl⟩, gm_883, gm_885, gm_886, gm_81, gm_884, by decide +kernel⟩
theorem gm_887 : Cond.methodLink RX9 174 yX0_restart ∈ gw := gwm 307 (by decide +kernel) rfl
theorem gm_888 : Cond.initialized RX0 ∈ gw := gwm 61 (by decide +kernel) rfl
theorem gm_889 : Cond.code yX0_restart cX0_restart 1 none ∈ gw := gwm 310 (by decide +kernel) rfl
theorem gm_890 : Cond.instanceMethod yX0_restart ∈ gw := gwm 308 (by decide +kernel) rfl
theorem gm_891 : Cond.selects RX0 yX0_restart yX0_restart ∈ gw := gwm 309 (by decide +kernel) rfl
theorem kX9_174 : jLV RX9 174 0 yX0_restart cX0_restart 1 none 0 := ⟨⟨_, _, rfl⟩, gm_887, gm_890, gm_891, gm_888, gm_889, by decide +kernel⟩
theorem gm_892 : Cond.methodLink RX9 177 yX5_restart ∈ gw := gwm 315 (by decide +kernel) rfl
theorem gm_893 : Cond.code yX5_restart cX5_restart 1 none ∈ gw := gwm 318 (by decide +kernel) rfl
theorem gm_894 : Cond.instanceMethod yX5_restart ∈ gw := gwm 316 (by decide +kernel) rfl
theorem gm_895 : Cond.selects RX5 yX5_restart yX5_restart ∈ gw := gwm 317 (by decide +kernel) rfl
theorem kX9_177 : jLV RX9 177 5 yX5_restart cX5_restart 1 none 0 := ⟨⟨_, _, rfl⟩, gm_892, gm_894, gm_895, gm_734, gm_893, by decide +kernel⟩
theorem gm_896 : Cond.methodLink RX9 178 yX9_chosenCache ∈ gw := gwm 844 (by decide +kernel) rfl
theorem gm_897 : Cond.code yX9_chosenCache cX9_chosenCache 2 (some (.object "LastUseDesk$Cache")) ∈ gw := gwm 847 (by decide +kernel) rfl
theorem gm_898 : Cond.instanceMethod yX9_chosenCache ∈ gw := gwm 846 (by decide +kernel) rfl
theorem gm_899 : Cond.selects RX9 yX9_chosenCache yX9_chosenCache ∈ gw := gwm 8 (by decide +kernel) rfl
theorem kX9_178 : jLV RX9 178 9 yX9_chosenCache cX9_chosenCache 2 (some (.object "LastUseDesk$Cache")) 1 := ⟨⟨_, _, rfl⟩, gm_896, gm_898, gm_899, gm_81, gm_897, by decide +kernel⟩
theorem gm_900 : Cond.methodLink RX9 182 yX0_hitCount ∈ gw := gwm 415 (by decide +kernel) rfl
theorem gm_901 : Cond.code yX0_hitCount cX0_hitCount 1 (some .int) ∈ gw := gwm 418 (by decide +kernel) rfl
theorem gm_902 : Cond.instanceMethod yX0_hitCount ∈ gw := gwm 416 (by decide +kernel) rfl
theorem gm_903 : Cond.selects RX0 yX0_hitCount yX0_hitCount ∈ gw := gwm 417 (by decide +kernel) rfl
theorem kX9_182 : jLV RX9 182 0 yX0_hitCount cX0_hitCount 1 (some .int) 0 := ⟨⟨_, _, rfl⟩, gm_900, gm_902, gm_903, gm_888, gm_901, by decide +kernel⟩
theorem gm_904 : Cond.methodLink RX9 185 yX0_keys ∈ gw := gwm 423 (by decide +kernel) rfl
theorem gm_905 : Cond.code yX0_keys cX0_keys 1 (some (.object "LastUseDesk$UseOrder")) ∈ gw := gwm 426 (by decide +kernel) rfl
theorem gm_906 : Cond.instanceMethod yX0_keys ∈ gw := gwm 424 (by decide +kernel) rfl
theorem gm_907 : Cond.selects RX0 yX0_keys yX0_keys ∈ gw := gwm 425 (by decide +kernel) rfl
theorem kX9_185 : jLV RX9 185 0 yX0_keys cX0_keys 1 (some (.object "LastUseDesk$UseOrder")) 0 := ⟨⟨_, _, rfl⟩, gm_904, gm_906, gm_907, gm_888, gm_905, by decide +kernel⟩
theorem gm_908 : Cond.methodLink RX9 186 yX8_holds ∈ gw := gwm 431 (by decide +kernel) rfl
theorem kX9_186 : jLV RX9 186 8 yX8_holds cX8_holds 2 (some .boolean) 1 := ⟨⟨_, _, rfl⟩, gm_908, gm_618, gm_619, gm_471, gm_617, by decide +kernel⟩
theorem gm_909 : Cond.methodLink RX9 189 yX5_keyIn ∈ gw := gwm 876 (by decide +kernel) rfl
theorem gm_910 : Cond.code yX5_keyIn cX5_keyIn 2 (some .int) ∈ gw := gwm 879 (by decide +kernel) rfl
theorem gm_911 : Cond.instanceMethod yX5_keyIn ∈ gw := gwm 877 (by decide +kernel) rfl
theorem gm_912 : Cond.selects RX5 yX5_keyIn yX5_keyIn ∈ gw := gwm 878 (by decide +kernel) rfl
theorem kX9_189 : jLV RX9 189 5 yX5_keyIn cX5_keyIn 2 (some .int) 1 := ⟨⟨_, _, rfl⟩, gm_909, gm_911, gm_912, gm_734, gm_910, by decide +kernel⟩
theorem gm_913 : Cond.methodLink RX9 190 yX5_distanceIn ∈ gw := gwm 887 (by decide +kernel) rfl
theorem gm_914 : Cond.code yX5_distanceIn cX5_distanceIn 2 (some .int) ∈ gw := gwm 890 (by decide +kernel) rfl
theorem gm_915 : Cond.instanceMethod yX5_distanceIn ∈ gw := gwm 888 (by decide +kernel) rfl
theorem gm_916 : Cond.selects RX5 yX5_distanceIn yX5_distanceIn ∈ gw := gwm 889 (by decide +kernel) rfl
theorem kX9_190 : jLV RX9 190 5 yX5_distanceIn cX5_distanceIn 2 (some .int) 1 := ⟨⟨_, _, rfl⟩, gm_913, gm_915, gm_916, gm_734, gm_914, by decide +kernel⟩
theorem gm_917 : Cond.methodLink RX9 193 yX5_countBelow ∈ gw := gwm 399 (by decide +kernel) rfl
theorem gm_918 : Cond.code yX5_countBelow cX5_countBelow 4 (some .int) ∈ gw := gwm 402 (by decide +kernel) rfl
theorem gm_919 : Cond.instanceMethod yX5_countBelow ∈ gw := gwm 400 (by decide +kernel) rfl
theorem gm_920 : Cond.selects RX5 yX5_countBelow yX5_countBelow ∈ gw := gwm 401 (by decide +kernel) rfl
theorem kX9_193 : jLV RX9 193 5 yX5_countBelow cX5_countBelow 4 (some .int) 1 := ⟨⟨_, _, rfl⟩, gm_917, gm_919, gm_920, gm_734, gm_918, by decide +kernel⟩
theorem gm_921 : Cond.methodLink RX9 199 yX4_tape ∈ gw := gwm 328 (by decide +kernel) rfl
theorem gm_922 : Cond.code yX4_tape cX4_tape 1 (some (.object "LastUseDesk$Tape")) ∈ gw := gwm 331 (by decide +kernel) rfl
theorem gm_923 : Cond.instanceMethod yX4_tape ∈ gw := gwm 329 (by decide +kernel) rfl
theorem gm_924 : Cond.selects RX4 yX4_tape yX4_tape ∈ gw := gwm 330 (by decide +kernel) rfl
theorem kX9_199 : jLV RX9 199 4 yX4_tape cX4_tape 1 (some (.object "LastUseDesk$Tape")) 0 := ⟨⟨_, _, rfl⟩, gm_921, gm_923, gm_924, gm_669, gm_922, by decide +kernel⟩
theorem gm_925 : Cond.methodLink RX9 203 yX6_bytesOf ∈ gw := gwm 913 (by decide +kernel) rfl
theorem gm_926 : Cond.code yX6_bytesOf cX6_bytesOf 3 (some .int) ∈ gw := gwm 915 (by decide +kernel) rfl
theorem gm_927 : Cond.static yX6_bytesOf ∈ gw := gwm 914 (by decide +kernel) rfl
theorem kX9_203 : jLS RX9 203 yX6_bytesOf cX6_bytesOf 3 (some .int) 1 := ⟨gm_925, gm_927, gm_674, gm_926, by decide +kernel⟩
theorem gm_928 : Cond.methodLink RX9 208 yX6_length ∈ gw := gwm 916 (by decide +kernel) rfl
theorem kX9_208 : jLV RX9 208 6 yX6_length cX6_length 1 (some .int) 0 := ⟨⟨_, _, rfl⟩, gm_928, gm_676, gm_677, gm_674, gm_675, by decide +kernel⟩
theorem gm_929 : Cond.methodLink RX9 211 yX6_addBytes ∈ gw := gwm 921 (by decide +kernel) rfl
theorem gm_930 : Cond.code yX6_addBytes cX6_addBytes 4 none ∈ gw := gwm 924 (by decide +kernel) rfl
theorem gm_931 : Cond.instanceMethod yX6_addBytes ∈ gw := gwm 922 (by decide +kernel) rfl
theorem gm_932 : Cond.selects RX6 yX6_addBytes yX6_addBytes ∈ gw := gwm 923 (by decide +kernel) rfl
theorem kX9_211 : jLV RX9 211 6 yX6_addBytes cX6_addBytes 4 none 1 := ⟨⟨_, _, rfl⟩, gm_929, gm_931, gm_932, gm_674, gm_930, by decide +kernel⟩
theorem gm_933 : Cond.methodLink RX9 214 yX6_empty ∈ gw := gwm 332 (by decide +kernel) rfl
theorem gm_934 : Cond.code yX6_empty cX6_empty 2 (some .int) ∈ gw := gwm 335 (by decide +kernel) rfl
theorem gm_935 : Cond.instanceMethod yX6_empty ∈ gw := gwm 333 (by decide +kernel) rfl
theorem gm_936 : Cond.selects RX6 yX6_empty yX6_empty ∈ gw := gwm 334 (by decide +kernel) rfl
theorem kX9_214 : jLV RX9 214 6 yX6_empty cX6_empty 2 (some .int) 0 := ⟨⟨_, _, rfl⟩, gm_933, gm_935, gm_936, gm_674, gm_934, by decide +kernel⟩
theorem gm_937 : Cond.methodLink RX9 219 yX4_read ∈ gw := gwm 933 (by decide +kernel) rfl
theorem gm_938 : Cond.code yX4_read cX4_read 2 (some .int) ∈ gw := gwm 936 (by decide +kernel) rfl
theorem gm_939 : Cond.instanceMethod yX4_read ∈ gw := gwm 934 (by decide +kernel) rfl
theorem gm_940 : Cond.selects RX4 yX4_read yX4_read ∈ gw := gwm 935 (by decide +kernel) rfl
theorem kX9_219 : jLV RX9 219 4 yX4_read cX4_read 2 (some .int) 0 := ⟨⟨_, _, rfl⟩, gm_937, gm_939, gm_940, gm_669, gm_938, by decide +kernel⟩
theorem gm_941 : Cond.methodLink RX9 227 yX4_program ∈ gw := gwm 1014 (by decide +kernel) rfl
theorem gm_942 : Cond.code yX4_program cX4_program 1 (some (.object "LastUseDesk$Program")) ∈ gw := gwm 1017 (by decide +kernel) rfl
theorem gm_943 : Cond.instanceMethod yX4_program ∈ gw := gwm 1015 (by decide +kernel) rfl
theorem gm_944 : Cond.selects RX4 yX4_program yX4_program ∈ gw := gwm 1016 (by decide +kernel) rfl
theorem kX9_227 : jLV RX9 227 4 yX4_program cX4_program 1 (some (.object "LastUseDesk$Program")) 0 := ⟨⟨_, _, rfl⟩, gm_941, gm_943, gm_944, gm_669, gm_942, by decide +kernel⟩
theorem gm_945 : Cond.methodLink RX9 231 yX3_length ∈ gw := gwm 1018 (by decide +kernel) rfl
theorem gm_946 : Cond.code yX3_length cX3_length 1 (some .int) ∈ gw := gwm 1021 (by decide +kernel) rfl
theorem gm_947 : Cond.instanceMethod yX3_length ∈ gw := gwm 1019 (by decide +kernel) rfl
theorem gm_948 : Cond.selects RX3 yX3_length yX3_length ∈ gw := gwm 1020 (by decide +kernel) rfl
theorem kX9_231 : jLV RX9 231 3 yX3_length cX3_length 1 (some .int) 0 := ⟨⟨_, _, rfl⟩, gm_945, gm_947, gm_948, gm_652, gm_946, by decide +kernel⟩
theorem gm_949 : Cond.methodLink RX9 234 yX3_letterIn ∈ gw := gwm 1022 (by decide +kernel) rfl
theorem kX9_234 : jLV RX9 234 3 yX3_letterIn cX3_letterIn 2 (some .int) 1 := ⟨⟨_, _, rfl⟩, gm_949, gm_654, gm_655, gm_652, gm_653, by decide +kernel⟩
theorem gm_950 : Cond.methodLink RX9 237 yX3_numberIn ∈ gw := gwm 1023 (by decide +kernel) rfl
theorem kX9_237 : jLV RX9 237 3 yX3_numberIn cX3_numberIn 2 (some .int) 1 := ⟨⟨_, _, rfl⟩, gm_950, gm_658, gm_659, gm_652, gm_657, by decide +kernel⟩
theorem gm_951 : Cond.methodLink RX9 240 yX9_performStep ∈ gw := gwm 1024 (by decide +kernel) rfl
theorem gm_952 : Cond.code yX9_performStep cX9_performStep 3 none ∈ gw := gwm 1027 (by decide +kernel) rfl
theorem gm_953 : Cond.instanceMethod yX9_performStep ∈ gw := gwm 1026 (by decide +kernel) rfl
theorem gm_954 : Cond.selects RX9 yX9_performStep yX9_performStep ∈ gw := gwm 17 (by decide +kernel) rfl
theorem kX9_240 : jLV RX9 240 9 yX9_performStep cX9_performStep 3 none 2 := ⟨⟨_, _, rfl⟩, gm_951, gm_953, gm_954, gm_81, gm_952, by decide +kernel⟩
theorem gm_955 : Cond.methodLink RX9 243 yX2_changeFrames ∈ gw := gwm 1054 (by decide +kernel) rfl
theorem gm_956 : Cond.code yX2_changeFrames cX2_changeFrames 3 (some .int) ∈ gw := gwm 1057 (by decide +kernel) rfl
theorem gm_957 : Cond.instanceMethod yX2_changeFrames ∈ gw := gwm 1055 (by decide +kernel) rfl
theorem gm_958 : Cond.selects RX2 yX2_changeFrames yX2_changeFrames ∈ gw := gwm 1056 (by decide +kernel) rfl
theorem kX9_243 : jLV RX9 243 2 yX2_changeFrames cX2_changeFrames 3 (some .int) 1 := ⟨⟨_, _, rfl⟩, gm_955, gm_957, gm_958, gm_621, gm_956, by decide +kernel⟩
theorem gm_959 : Cond.methodLink RX9 246 yX2_writeAll ∈ gw := gwm 344 (by decide +kernel) rfl
theorem kX9_246 : jLV RX9 246 2 yX2_writeAll cX2_writeAll 3 (some .int) 0 := ⟨⟨_, _, rfl⟩, gm_959, gm_635, gm_636, gm_621, gm_634, by decide +kernel⟩
theorem gm_960 : Cond.methodLink RX9 249 yX2_accumulated ∈ gw := gwm 363 (by decide +kernel) rfl
theorem gm_961 : Cond.code yX2_accumulated cX2_accumulated 1 (some .int) ∈ gw := gwm 366 (by decide +kernel) rfl
theorem gm_962 : Cond.instanceMethod yX2_accumulated ∈ gw := gwm 364 (by decide +kernel) rfl
theorem gm_963 : Cond.selects RX2 yX2_accumulated yX2_accumulated ∈ gw := gwm 365 (by decide +kernel) rfl
theorem kX9_249 : jLV RX9 249 2 yX2_accumulated cX2_accumulated 1 (some .int) 0 := ⟨⟨_, _, rfl⟩, gm_960, gm_962, gm_963, gm_621, gm_961, by decide +kernel⟩
theorem gm_964 : Cond.methodLink RX9 252 yX2_wordIn ∈ gw := gwm 1067 (by decide +kernel) rfl
theorem kX9_252 : jLV RX9 252 2 yX2_wordIn cX2_wordIn 2 (some .int) 1 := ⟨⟨_, _, rfl⟩, gm_964, gm_627, gm_628, gm_621, gm_626, by decide +kernel⟩
theorem gm_965 : Cond.methodLink RX9 255 yX2_discIn ∈ gw := gwm 1075 (by decide +kernel) rfl
theorem gm_966 : Cond.code yX2_discIn cX2_discIn 2 (some .int) ∈ gw := gwm 1078 (by decide +kernel) rfl
theorem gm_967 : Cond.instanceMethod yX2_discIn ∈ gw := gwm 1076 (by decide +kernel) rfl
theorem gm_968 : Cond.selects RX2 yX2_discIn yX2_discIn ∈ gw := gwm 1077 (by decide +kernel) rfl
theorem kX9_255 : jLV RX9 255 2 yX2_discIn cX2_discIn 2 (some .int) 1 := ⟨⟨_, _, rfl⟩, gm_965, gm_967, gm_968, gm_621, gm_966, by decide +kernel⟩
theorem gm_969 : Cond.methodLink RX9 258 yX2_pages ∈ gw := gwm 371 (by decide +kernel) rfl
theorem gm_970 : Cond.code yX2_pages cX2_pages 1 (some (.object "LastUseDesk$UseOrder")) ∈ gw := gwm 374 (by decide +kernel) rfl
theorem gm_971 : Cond.instanceMethod yX2_pages ∈ gw := gwm 372 (by decide +kernel) rfl
theorem gm_972 : Cond.selects RX2 yX2_pages yX2_pages ∈ gw := gwm 373 (by decide +kernel) rfl
theorem kX9_258 : jLV RX9 258 2 yX2_pages cX2_pages 1 (some (.object "LastUseDesk$UseOrder")) 0 := ⟨⟨_, _, rfl⟩, gm_969, gm_971, gm_972, gm_621, gm_970, by decide +kernel⟩
theorem gm_973 : Cond.methodLink RX9 261 yX2_hasChanged ∈ gw := gwm 1093 (by decide +kernel) rfl
theorem kX9_261 : jLV RX9 261 2 yX2_hasChanged cX2_hasChanged 2 (some .boolean) 1 := ⟨⟨_, _, rfl⟩, gm_973, gm_649, gm_650, gm_621, gm_648, by decide +kernel⟩
theorem gm_974 : Cond.methodLink RX9 264 yX2_faultCount ∈ gw := gwm 383 (by decide +kernel) rfl
theorem gm_975 : Cond.code yX2_faultCount cX2_faultCount 1 (some .int) ∈ gw := gwm 386 (by decide +kernel) rfl
theorem gm_976 : Cond.instanceMethod yX2_faultCount ∈ gw := gwm 384 (by decide +kernel) rfl
theorem gm_977 : Cond.selects RX2 yX2_faultCount yX2_faultCount ∈ gw := gwm 385 (by decide +kernel) rfl
theorem kX9_264 : jLV RX9 264 2 yX2_faultCount cX2_faultCount 1 (some .int) 0 := ⟨⟨_, _, rfl⟩, gm_974, gm_976, gm_977, gm_621, gm_975, by decide +kernel⟩
theorem gm_978 : Cond.methodLink RX9 267 yX2_writeCount ∈ gw := gwm 391 (by decide +kernel) rfl
theorem gm_979 : Cond.code yX2_writeCount cX2_writeCount 1 (some .int) ∈ gw := gwm 394 (by decide +kernel) rfl
theorem gm_980 : Cond.instanceMethod yX2_writeCount ∈ gw := gwm 392 (by decide +kernel) rfl
theorem gm_981 : Cond.selects RX2 yX2_writeCount yX2_writeCount ∈ gw := gwm 393 (by decide +kernel) rfl
theorem kX9_267 : jLV RX9 267 2 yX2_writeCount cX2_writeCount 1 (some .int) 0 := ⟨⟨_, _, rfl⟩, gm_978, gm_980, gm_981, gm_621, gm_979, by decide +kernel⟩
theorem gm_982 : Cond.methodLink RX9 270 yX5_distanceTotal ∈ gw := gwm 403 (by decide +kernel) rfl
theorem gm_983 : Cond.code yX5_distanceTotal cX5_distanceTotal 3 (some .int) ∈ gw := gwm 406 (by decide +kernel) rfl
theorem gm_984 : Cond.instanceMethod yX5_distanceTotal ∈ gw := gwm 404 (by decide +kernel) rfl
theorem gm_985 : Cond.selects RX5 yX5_distanceTotal yX5_distanceTotal ∈ gw := gwm 405 (by decide +kernel) rfl
theorem kX9_270 : jLV RX9 270 5 yX5_distanceTotal cX5_distanceTotal 3 (some .int) 0 := ⟨⟨_, _, rfl⟩, gm_982, gm_984, gm_985, gm_734, gm_983, by decide +kernel⟩
theorem gm_986 : Cond.methodLink RX9 273 yX9_hitsContradictLog ∈ gw := gwm 411 (by decide +kernel) rfl
theorem gm_987 : Cond.code yX9_hitsContradictLog cX9_hitsContradictLog 2 (some .boolean) ∈ gw := gwm 414 (by decide +kernel) rfl
theorem gm_988 : Cond.instanceMethod yX9_hitsContradictLog ∈ gw := gwm 413 (by decide +kernel) rfl
theorem gm_989 : Cond.selects RX9 yX9_hitsContradictLog yX9_hitsContradictLog ∈ gw := gwm 1 (by decide +kernel) rfl
theorem kX9_273 : jLV RX9 273 9 yX9_hitsContradictLog cX9_hitsContradictLog 2 (some .boolean) 1 := ⟨⟨_, _, rfl⟩, gm_986, gm_988, gm_989, gm_81, gm_987, by decide +kernel⟩
theorem gm_990 : Cond.methodLink RX9 276 yX9_hasKeyThatNextLacks ∈ gw := gwm 419 (by decide +kernel) rfl
theorem gm_991 : Cond.code yX9_hasKeyThatNextLacks cX9_hasKeyThatNextLacks 5 (some .boolean) ∈ gw := gwm 422 (by decide +kernel) rfl
theorem gm_992 : Cond.instanceMethod yX9_hasKeyThatNextLacks ∈ gw := gwm 421 (by decide +kernel) rfl
theorem gm_993 : Cond.selects RX9 yX9_hasKeyThatNextLacks yX9_hasKeyThatNextLacks ∈ gw := gwm 2 (by decide +kernel) rfl
theorem kX9_276 : jLV RX9 276 9 yX9_hasKeyThatNextLacks cX9_hasKeyThatNextLacks 5 (some .boolean) 1 := ⟨⟨_, _, rfl⟩, gm_990, gm_992, gm_993, gm_81, gm_991, by decide +kernel⟩
theorem gm_994 : Cond.methodLink RX9 286 yX0_ask ∈ gw := gwm 820 (by decide +kernel) rfl
theorem gm_995 : Cond.code yX0_ask cX0_ask 3 (some .boolean) ∈ gw := gwm 823 (by decide +kernel) rfl
theorem gm_996 : Cond.instanceMethod yX0_ask ∈ gw := gwm 821 (by decide +kernel) rfl
theorem gm_997 : Cond.selects RX0 yX0_ask yX0_ask ∈ gw := gwm 822 (by decide +kernel) rfl
theorem kX9_286 : jLV RX9 286 0 yX0_ask cX0_ask 3 (some .boolean) 1 := ⟨⟨_, _, rfl⟩, gm_994, gm_996, gm_997, gm_888, gm_995, by decide +kernel⟩
theorem gm_998 : Cond.methodLink RX9 289 yX5_note ∈ gw := gwm 826 (by decide +kernel) rfl
theorem gm_999 : Cond.code yX5_note cX5_note 2 none ∈ gw := gwm 829 (by decide +kernel) rfl
theorem gm_1000 : Cond.instanceMethod yX5_note ∈ gw := gwm 827 (by decide +kernel) rfl
theorem gm_1001 : Cond.selects RX5 yX5_note yX5_note ∈ gw := gwm 828 (by decide +kernel) rfl
theorem kX9_289 : jLV RX9 289 5 yX5_note cX5_note 2 none 1 := ⟨⟨_, _, rfl⟩, gm_998, gm_1000, gm_1001, gm_734, gm_999, by decide +kernel⟩
theorem gm_1002 : Cond.methodLink RX9 292 yX2_perform ∈ gw := gwm 1028 (by decide +kernel) rfl
theorem gm_1003 : Cond.code yX2_perform cX2_perform 3 none ∈ gw := gwm 1031 (by decide +kernel) rfl
theorem gm_1004 : Cond.instanceMethod yX2_perform ∈ gw := gwm 1029 (by decide +kernel) rfl
theorem gm_1005 : Cond.selects RX2 yX2_perform yX2_perform ∈ gw := gwm 1030 (by decide +kernel) rfl
theorem kX9_292 : jLV RX9 292 2 yX2_perform cX2_perform 3 none 2 := ⟨⟨_, _, rfl⟩, gm_1002, gm_1004, gm_1005, gm_621, gm_1003, by decide +kernel⟩
end
section
/-! ===== THE WALK'S OWN JUDGEMENT: the heap is kept behind it ===== -/
/-- the arrays' types: int, boolean, Cache, long, double -/
def jT (ay : Nat → ClassId) : List (ClassId × FieldType) := [(ay 0, .int), (ay 1, .boolean), (ay 2, .object RX0), (ay 3, .long), (ay 4, .double)]
/-- what stands still in a walk -/
def jF (p : Program) (s : State) (m : MethodId) (args : Array Value) (meth : Method) (c : Code) (cc : ByteArray) (nL : Nat) (own : String) (ret : Option FieldType) (D : va_G) (ay : Nat → ClassId) (A : Nat → Prop) : Prop :=
  p.tables.exec = Jvm.exec ∧ c.code = cc ∧ c.maxLocals = nL ∧ s.vm.findClass own = some m.cls ∧ (∀ w ∈ gw, w.before args s = true) ∧ va_K D vwCl (jT ay) s ∧ (∀ q, s.heap.size ≤ q → A q) ∧ meth.locks = false ∧ meth.sig.returnType = ret
/-- the walk stands at pc, over any heap that holds the world ws -/
def jJ (p : Program) (l : Launch) (e : Env) (R : Room) (s : State) (m : MethodId) (args : Array Value) (below : List Frame) (meth : Method) (c : Code) (Q : State → Prop) (D : va_G) (A : Nat → Prop) (nL k n : Nat) (ws : va_W) (pc : Nat) (lv : List (Nat × Value)) (st : List Value) : Prop :=
  ∀ (H : Heap) (locs : List Loc) (ls : Array Slot), va_P D vwCl ws H → va_D A ws → va_S A s.heap H locs → lv_has ls nL lv → W p l e R s m args below meth c H locs k n Q (F0 m pc ls st)
/-- a method's end -/
def jQ (post : Option Value → va_W → Prop) (D : va_G) (ay : Nat → ClassId) (A : Nat → Prop) : Array Value → State → Outcome → State → Prop := fun _ st oc t =>
  (∃ (v : Option Value) (w : va_W), oc = .returned v ∧ post v w ∧ va_P D vwCl w t.heap ∧ va_K D vwCl (jT ay) t ∧ va_D A w) ∧ va_F A st t
/-- .. and where it throws -/
def jXQ (postX : String → va_W → Prop) (D : va_G) (ay : Nat → ClassId) (A : Nat → Prop) : String → State → State → Prop := fun E st t =>
  (∃ w : va_W, postX E w ∧ va_P D vwCl w t.heap ∧ va_K D vwCl (jT ay) t ∧ va_D A w) ∧ va_F A st t
/-- a method's start -/
def jPc (av : List Value) (wc : va_W) (sz : Nat) (D : va_G) (ay : Nat → ClassId) (X : State → Prop) : Array Value → State → Prop :=
  va_Pc av (fun U => U.heap.size = sz ∧ va_P D vwCl wc U.heap ∧ va_K D vwCl (jT ay) U ∧ va_D (fun _ => True) wc ∧ X U)
/-- a contract: the method returns -/
def jM (l : Launch) (y : MethodName) (ws : List Cond) (fr lo mc ms : Nat) (D : va_G) (ay : Nat → ClassId) (av : List Value) (wc : va_W) (post : Option Value → va_W → Prop) : Prop :=
  ∀ sz : Nat, Met l y ws ({ frames := fr, cells := mc, slots := ms, locals := lo }) (jPc av wc sz D ay (fun _ => True)) (jQ post D ay (va_A wc sz)) mc ms (va_A wc sz)
/-- the strings of the throws, by their places -/
def jStr (sa : Nat → Nat) (U : State) : Prop := vk_R RX9 144 "the map has no cursor" (sa 0) U ∧ vk_R RX9 151 "the cursor has no next pair" (sa 1) U ∧ vk_R RX9 160 "the cursor has no pair to take out" (sa 2) U ∧ vk_R RX9 169 "the record is full" (sa 3) U ∧ vk_R RX9 209 "the tape has no room" (sa 4) U ∧ vk_R RX9 217 "the record has no room for a run" (sa 5) U ∧ vk_R RX9 224 "the text has an error" (sa 6) U ∧ vk_R RX9 279 "a number is out of range" (sa 7) U ∧ vk_R RX9 283 "there is no such place" (sa 8) U
theorem jStr.warm {sa : Nat → Nat} {s U : State} (hW : s.WarmedH U.vm) (h : jStr sa s) : jStr sa U := by
  obtain ⟨h0, h1, h2, h3, h4, h5, h6, h7, h8⟩ := h
  exact ⟨h0.warm hW, h1.warm hW, h2.warm hW, h3.warm hW, h4.warm hW, h5.warm hW, h6.warm hW, h7.warm hW, h8.warm hW⟩
theorem jStr.same {sa : Nat → Nat} {u U : State} (hv : U.vm = u.vm) (h : jStr sa u) : jStr sa U := by
  obtain ⟨h0, h1, h2, h3, h4, h5, h6, h7, h8⟩ := h
  exact ⟨h0.same hv, h1.same hv, h2.same hv, h3.same hv, h4.same hv, h5.same hv, h6.same hv, h7.same hv, h8.same hv⟩
/-- what a throw needs of the start -/
def jX (sa : Nat → Nat) (A : Nat → Prop) (U : State) (H : Heap) : Prop := vx_Zq Bundle.tN "UNASSIGNED_STACK" Bundle.steD A U H ∧ vx_Zq Bundle.tN "SUPPRESSED_SENTINEL" Bundle.listD A U H ∧ jStr sa U
/-- a contract: the method returns or throws -/
def jMx (l : Launch) (y : MethodName) (ws : List Cond) (fr lo mc ms : Nat) (D : va_G) (ay : Nat → ClassId) (sa : Nat → Nat) (av : List Value) (wc : va_W) (post : Option Value → va_W → Prop) (postX : String → va_W → Prop) : Prop :=
  ∀ sz : Nat, vx_Met l y ws ({ frames := fr, cells := mc, slots := ms, locals := lo }) (jPc av wc sz D ay (fun U => jX sa (va_A wc sz) U U.heap)) (jQ post D ay (va_A wc sz)) (jXQ postX D ay (va_A wc sz)) mc ms (va_A wc sz)
theorem jPc_blind {av : List Value} {wc : va_W} {sz : Nat} {D : va_G} {ay : Nat → ClassId} : FrameBlind (jPc av wc sz D ay (fun _ => True)) := fun a U g mk h => by
  obtain ⟨h0, h1, h2, h3, h4, h5⟩ := h
  exact ⟨h0, h1, h2, va_K.moved (u := U) (U := U.calling g mk a) (Vm.Alike.refl U.vm) h3, h4, h5⟩
theorem jPc_blindX {av : List Value} {wc : va_W} {sz : Nat} {D : va_G} {ay : Nat → ClassId} {sa : Nat → Nat} : FrameBlind (jPc av wc sz D ay (fun U => jX sa (va_A wc sz) U U.heap)) := fun a U g mk h => by
  obtain ⟨h0, h1, h2, h3, h4, h5, h6, h7⟩ := h
  exact ⟨h0, h1, h2, va_K.moved (u := U) (U := U.calling g mk a) (Vm.Alike.refl U.vm) h3, h4, h5.moved (u := U) (U := U.calling g mk a) (Vm.Alike.refl U.vm), h6.moved (u := U) (U := U.calling g mk a) (Vm.Alike.refl U.vm), h7.same rfl⟩
theorem j_fm {α : Type} {is : List Nat} {f : Nat → Option α} {w : List α} (h : is.map f = w.map some) : is.filterMap f = w := by
  have h1 : is.filterMap f = (is.map f).filterMap id := by rw [List.filterMap_map]; rfl
  rw [h1, h, List.filterMap_map]
  show w.filterMap some = w
  exact List.filterMap_some
theorem n_lt {x y : Int32} (a b : Nat) (hx : x = nI a) (hy : y = nI b) (ha : a < 2 ^ 31) (hb : b < 2 ^ 31) : x < y ↔ a < b := by rw [hx, hy]; exact nI_ltI ha hb
theorem n_le {x y : Int32} (a b : Nat) (hx : x = nI a) (hy : y = nI b) (ha : a < 2 ^ 31) (hb : b < 2 ^ 31) : x ≤ y ↔ a ≤ b := by rw [hx, hy]; exact nI_leI ha hb
theorem n_eq {x y : Int32} (a b : Nat) (hx : x = nI a) (hy : y = nI b) (ha : a < 2 ^ 31) (hb : b < 2 ^ 31) : x = y ↔ a = b := by rw [hx, hy]; exact nI_eq ha hb


section JR
variable {p : Program} {l : Launch} {e : Env} {R : Room} {s : State} {m : MethodId} {args : Array Value} {below : List Frame} {meth : Method} {c : Code} {Q : State → Prop} {D : va_G} {A : Nat → Prop} {nL k n : Nat} {ws : va_W} {pc : Nat} {lv : List (Nat × Value)} {st : List Value}
variable {cc : ByteArray} {own : String} {ret : Option FieldType} {ay : Nat → ClassId}
theorem j_iconst (F : jF p s m args meth c cc nL own ret D ay A) {i : Int} {v : Int32} (hdg : decode cc pc = .ok (.iconst i, 1)) (hv : Int32.ofInt i = v) (kk : jJ p l e R s m args below meth c Q D A nL k n ws (pc + 1) lv (.int v :: st)) : jJ p l e R s m args below meth c Q D A nL k n ws pc lv (st) := fun H locs ls hP hD hS hl => lv_iconst F.1 F.2.1 hdg hv (kk H locs ls hP hD hS hl)
theorem j_bipush (F : jF p s m args meth c cc nL own ret D ay A) {i : Int} {v : Int32} (hdg : decode cc pc = .ok (.bipush i, 2)) (hv : (Int8.ofInt i).toInt32 = v) (kk : jJ p l e R s m args below meth c Q D A nL k n ws (pc + 2) lv (.int v :: st)) : jJ p l e R s m args below meth c Q D A nL k n ws pc lv (st) := fun H locs ls hP hD hS hl => lv_bipush F.1 F.2.1 hdg hv (kk H locs ls hP hD hS hl)
theorem j_sipush (F : jF p s m args meth c cc nL own ret D ay A) {i : Int} {v : Int32} (hdg : decode cc pc = .ok (.sipush i, 3)) (hv : (Int16.ofInt i).toInt32 = v) (kk : jJ p l e R s m args below meth c Q D A nL k n ws (pc + 3) lv (.int v :: st)) : jJ p l e R s m args below meth c Q D A nL k n ws pc lv (st) := fun H locs ls hP hD hS hl => lv_sipush F.1 F.2.1 hdg hv (kk H locs ls hP hD hS hl)
theorem j_lconst (F : jF p s m args meth c cc nL own ret D ay A) {i : Fin 2} {v : Int64} (hdg : decode cc pc = .ok (.lconst i, 1)) (hv : Int64.ofNat (i : Nat) = v) (kk : jJ p l e R s m args below meth c Q D A nL k n ws (pc + 1) lv (.long v :: st)) : jJ p l e R s m args below meth c Q D A nL k n ws pc lv (st) := fun H locs ls hP hD hS hl => lv_lconst F.1 F.2.1 hdg hv (kk H locs ls hP hD hS hl)
theorem j_fconst0 (F : jF p s m args meth c cc nL own ret D ay A)  (hdg : decode cc pc = .ok (.fconst 0, 1)) (kk : jJ p l e R s m args below meth c Q D A nL k n ws (pc + 1) lv (.float FP.fconst0 :: st)) : jJ p l e R s m args below meth c Q D A nL k n ws pc lv (st) := fun H locs ls hP hD hS hl => lv_fconst0 F.1 F.2.1 hdg (kk H locs ls hP hD hS hl)
theorem j_dconst0 (F : jF p s m args meth c cc nL own ret D ay A)  (hdg : decode cc pc = .ok (.dconst 0, 1)) (kk : jJ p l e R s m args below meth c Q D A nL k n ws (pc + 1) lv (.double FP.dconst0 :: st)) : jJ p l e R s m args below meth c Q D A nL k n ws pc lv (st) := fun H locs ls hP hD hS hl => lv_dconst0 F.1 F.2.1 hdg (kk H locs ls hP hD hS hl)
theorem j_iload_n (F : jF p s m args meth c cc nL own ret D ay A) {i : Fin 4} {x : Int32} (j : Nat) (hdg : decode cc pc = .ok (.iload_n i, 1)) (hv : lv[j]? = some ((i : Nat), .int x)) (kk : jJ p l e R s m args below meth c Q D A nL k n ws (pc + 1) lv (.int x :: st)) : jJ p l e R s m args below meth c Q D A nL k n ws pc lv st := fun H locs ls hP hD hS hl => lv_iload_n F.1 F.2.1 hdg rfl (lv_at hl j hv) (kk H locs ls hP hD hS hl)
theorem j_iload (F : jF p s m args meth c cc nL own ret D ay A) {i : Nat} {x : Int32} (j : Nat) (hdg : decode cc pc = .ok (.iload i, 2)) (hv : lv[j]? = some (i, .int x)) (kk : jJ p l e R s m args below meth c Q D A nL k n ws (pc + 2) lv (.int x :: st)) : jJ p l e R s m args below meth c Q D A nL k n ws pc lv st := fun H locs ls hP hD hS hl => lv_iload F.1 F.2.1 hdg (lv_at hl j hv) (kk H locs ls hP hD hS hl)
theorem j_istore_n (F : jF p s m args meth c cc nL own ret D ay A) {i9 : Fin 4} {x : Int32} (i : Nat) (lv' : List (Nat × Value)) (hdg : decode cc pc = .ok (.istore_n i9, 1)) (hi : (i9 : Nat) = i) (hn : i < nL) (hv : (i, Value.int x) :: lv.filter (fun q => !(q.1 == i) && !(q.1 + 1 == i && q.2.category == 2)) = lv') (kk : jJ p l e R s m args below meth c Q D A nL k n ws (pc + 1) lv' st) : jJ p l e R s m args below meth c Q D A nL k n ws pc lv (.int x :: st) := fun H locs ls hP hD hS hl => lv_istore_n F.1 F.2.1 hdg hi hl hn hv (fun ls hl => (kk H locs ls hP hD hS hl))
theorem j_istore (F : jF p s m args meth c cc nL own ret D ay A) {x : Int32} (i : Nat) (lv' : List (Nat × Value)) (hdg : decode cc pc = .ok (.istore i, 2)) (hn : i < nL) (hv : (i, Value.int x) :: lv.filter (fun q => !(q.1 == i) && !(q.1 + 1 == i && q.2.category == 2)) = lv') (kk : jJ p l e R s m args below meth c Q D A nL k n ws (pc + 2) lv' st) : jJ p l e R s m args below meth c Q D A nL k n ws pc lv (.int x :: st) := fun H locs ls hP hD hS hl => lv_istore F.1 F.2.1 hdg hl hn hv (fun ls hl => (kk H locs ls hP hD hS hl))
theorem j_aload_n (F : jF p s m args meth c cc nL own ret D ay A) {i : Fin 4} {x : Nat} (j : Nat) (hdg : decode cc pc = .ok (.aload_n i, 1)) (hv : lv[j]? = some ((i : Nat), .ref x)) (kk : jJ p l e R s m args below meth c Q D A nL k n ws (pc + 1) lv (.ref x :: st)) : jJ p l e R s m args below meth c Q D A nL k n ws pc lv st := fun H locs ls hP hD hS hl => lv_aload_n F.1 F.2.1 hdg rfl (lv_at hl j hv) (kk H locs ls hP hD hS hl)
theorem j_aload (F : jF p s m args meth c cc nL own ret D ay A) {i : Nat} {x : Nat} (j : Nat) (hdg : decode cc pc = .ok (.aload i, 2)) (hv : lv[j]? = some (i, .ref x)) (kk : jJ p l e R s m args below meth c Q D A nL k n ws (pc + 2) lv (.ref x :: st)) : jJ p l e R s m args below meth c Q D A nL k n ws pc lv st := fun H locs ls hP hD hS hl => lv_aload F.1 F.2.1 hdg (lv_at hl j hv) (kk H locs ls hP hD hS hl)
theorem j_astore_n (F : jF p s m args meth c cc nL own ret D ay A) {i9 : Fin 4} {x : Nat} (i : Nat) (lv' : List (Nat × Value)) (hdg : decode cc pc = .ok (.astore_n i9, 1)) (hi : (i9 : Nat) = i) (hn : i < nL) (hv : (i, Value.ref x) :: lv.filter (fun q => !(q.1 == i) && !(q.1 + 1 == i && q.2.category == 2)) = lv') (kk : jJ p l e R s m args below meth c Q D A nL k n ws (pc + 1) lv' st) : jJ p l e R s m args below meth c Q D A nL k n ws pc lv (.ref x :: st) := fun H locs ls hP hD hS hl => lv_astore_n F.1 F.2.1 hdg hi hl hn hv (fun ls hl => (kk H locs ls hP hD hS hl))
theorem j_astore (F : jF p s m args meth c cc nL own ret D ay A) {x : Nat} (i : Nat) (lv' : List (Nat × Value)) (hdg : decode cc pc = .ok (.astore i, 2)) (hn : i < nL) (hv : (i, Value.ref x) :: lv.filter (fun q => !(q.1 == i) && !(q.1 + 1 == i && q.2.category == 2)) = lv') (kk : jJ p l e R s m args below meth c Q D A nL k n ws (pc + 2) lv' st) : jJ p l e R s m args below meth c Q D A nL k n ws pc lv (.ref x :: st) := fun H locs ls hP hD hS hl => lv_astore F.1 F.2.1 hdg hl hn hv (fun ls hl => (kk H locs ls hP hD hS hl))
theorem j_fload (F : jF p s m args meth c cc nL own ret D ay A) {i : Nat} {x : UInt32} (j : Nat) (hdg : decode cc pc = .ok (.fload i, 2)) (hv : lv[j]? = some (i, .float x)) (kk : jJ p l e R s m args below meth c Q D A nL k n ws (pc + 2) lv (.float x :: st)) : jJ p l e R s m args below meth c Q D A nL k n ws pc lv st := fun H locs ls hP hD hS hl => lv_fload F.1 F.2.1 hdg (lv_at hl j hv) (kk H locs ls hP hD hS hl)
theorem j_fstore (F : jF p s m args meth c cc nL own ret D ay A) {x : UInt32} (i : Nat) (lv' : List (Nat × Value)) (hdg : decode cc pc = .ok (.fstore i, 2)) (hn : i < nL) (hv : (i, Value.float x) :: lv.filter (fun q => !(q.1 == i) && !(q.1 + 1 == i && q.2.category == 2)) = lv') (kk : jJ p l e R s m args below meth c Q D A nL k n ws (pc + 2) lv' st) : jJ p l e R s m args below meth c Q D A nL k n ws pc lv (.float x :: st) := fun H locs ls hP hD hS hl => lv_fstore F.1 F.2.1 hdg hl hn hv (fun ls hl => (kk H locs ls hP hD hS hl))
theorem j_dload (F : jF p s m args meth c cc nL own ret D ay A) {i : Nat} {x : UInt64} (j : Nat) (hdg : decode cc pc = .ok (.dload i, 2)) (hv : lv[j]? = some (i, .double x)) (kk : jJ p l e R s m args below meth c Q D A nL k n ws (pc + 2) lv (.double x :: st)) : jJ p l e R s m args below meth c Q D A nL k n ws pc lv st := fun H locs ls hP hD hS hl => lv_dload F.1 F.2.1 hdg (lv_at hl j hv) (kk H locs ls hP hD hS hl)
theorem j_dstore (F : jF p s m args meth c cc nL own ret D ay A) {x : UInt64} (i : Nat) (lv' : List (Nat × Value)) (hdg : decode cc pc = .ok (.dstore i, 2)) (hn : i + 1 < nL) (hv : (i, Value.double x) :: lv.filter (fun q => !(q.1 == i) && (!(q.1 == i + 1) && !(q.1 + 1 == i && q.2.category == 2))) = lv') (kk : jJ p l e R s m args below meth c Q D A nL k n ws (pc + 2) lv' st) : jJ p l e R s m args below meth c Q D A nL k n ws pc lv (.double x :: st) := fun H locs ls hP hD hS hl => lv_dstore F.1 F.2.1 hdg hl hn hv (fun ls hl => (kk H locs ls hP hD hS hl))
theorem j_iinc (F : jF p s m args meth c cc nL own ret D ay A) {i : Nat} {z : Int} {x : Int32} (j : Nat) (v : Int32) (lv' : List (Nat × Value)) (hdg : decode cc pc = .ok (.iinc i z, 3)) (hj : lv[j]? = some (i, .int x)) (hx : x + Int32.ofInt z = v) (hn : i < nL) (hv : (i, Value.int v) :: lv.filter (fun q => !(q.1 == i) && !(q.1 + 1 == i && q.2.category == 2)) = lv') (kk : jJ p l e R s m args below meth c Q D A nL k n ws (pc + 3) lv' st) : jJ p l e R s m args below meth c Q D A nL k n ws pc lv st := fun H locs ls hP hD hS hl => lv_iinc F.1 F.2.1 hdg hl hj hx hn hv (fun ls hl => (kk H locs ls hP hD hS hl))
theorem j_iadd (F : jF p s m args meth c cc nL own ret D ay A) {x y : Int32} (hdg : decode cc pc = .ok (.iadd, 1)) (kk : jJ p l e R s m args below meth c Q D A nL k n ws (pc + 1) lv (.int (x + y) :: st)) : jJ p l e R s m args below meth c Q D A nL k n ws pc lv (.int y :: .int x :: st) := fun H locs ls hP hD hS hl => lv_iadd F.1 F.2.1 hdg (kk H locs ls hP hD hS hl)
theorem j_isub (F : jF p s m args meth c cc nL own ret D ay A) {x y : Int32} (hdg : decode cc pc = .ok (.isub, 1)) (kk : jJ p l e R s m args below meth c Q D A nL k n ws (pc + 1) lv (.int (x - y) :: st)) : jJ p l e R s m args below meth c Q D A nL k n ws pc lv (.int y :: .int x :: st) := fun H locs ls hP hD hS hl => lv_isub F.1 F.2.1 hdg (kk H locs ls hP hD hS hl)
theorem j_imul (F : jF p s m args meth c cc nL own ret D ay A) {x y : Int32} (hdg : decode cc pc = .ok (.imul, 1)) (kk : jJ p l e R s m args below meth c Q D A nL k n ws (pc + 1) lv (.int (x * y) :: st)) : jJ p l e R s m args below meth c Q D A nL k n ws pc lv (.int y :: .int x :: st) := fun H locs ls hP hD hS hl => lv_imul F.1 F.2.1 hdg (kk H locs ls hP hD hS hl)
theorem j_iand (F : jF p s m args meth c cc nL own ret D ay A) {x y : Int32} (hdg : decode cc pc = .ok (.iand, 1)) (kk : jJ p l e R s m args below meth c Q D A nL k n ws (pc + 1) lv (.int (x &&& y) :: st)) : jJ p l e R s m args below meth c Q D A nL k n ws pc lv (.int y :: .int x :: st) := fun H locs ls hP hD hS hl => lv_iand F.1 F.2.1 hdg (kk H locs ls hP hD hS hl)
theorem j_ior (F : jF p s m args meth c cc nL own ret D ay A) {x y : Int32} (hdg : decode cc pc = .ok (.ior, 1)) (kk : jJ p l e R s m args below meth c Q D A nL k n ws (pc + 1) lv (.int (x ||| y) :: st)) : jJ p l e R s m args below meth c Q D A nL k n ws pc lv (.int y :: .int x :: st) := fun H locs ls hP hD hS hl => lv_ior F.1 F.2.1 hdg (kk H locs ls hP hD hS hl)
theorem j_ishl (F : jF p s m args meth c cc nL own ret D ay A) {x y : Int32} (hdg : decode cc pc = .ok (.ishl, 1)) (kk : jJ p l e R s m args below meth c Q D A nL k n ws (pc + 1) lv (.int (x <<< (y &&& 31)) :: st)) : jJ p l e R s m args below meth c Q D A nL k n ws pc lv (.int y :: .int x :: st) := fun H locs ls hP hD hS hl => lv_ishl F.1 F.2.1 hdg (kk H locs ls hP hD hS hl)
theorem j_ishr (F : jF p s m args meth c cc nL own ret D ay A) {x y : Int32} (hdg : decode cc pc = .ok (.ishr, 1)) (kk : jJ p l e R s m args below meth c Q D A nL k n ws (pc + 1) lv (.int (x >>> (y &&& 31)) :: st)) : jJ p l e R s m args below meth c Q D A nL k n ws pc lv (.int y :: .int x :: st) := fun H locs ls hP hD hS hl => lv_ishr F.1 F.2.1 hdg (kk H locs ls hP hD hS hl)
theorem j_idiv (F : jF p s m args meth c cc nL own ret D ay A) {x y : Int32} (hdg : decode cc pc = .ok (.idiv, 1)) (hne : ¬ y = 0) (kk : jJ p l e R s m args below meth c Q D A nL k n ws (pc + 1) lv (.int (x / y) :: st)) : jJ p l e R s m args below meth c Q D A nL k n ws pc lv (.int y :: .int x :: st) := fun H locs ls hP hD hS hl => lv_idiv F.1 F.2.1 hdg hne (kk H locs ls hP hD hS hl)
theorem j_iushr (F : jF p s m args meth c cc nL own ret D ay A) {x y : Int32} (hdg : decode cc pc = .ok (.iushr, 1)) (kk : jJ p l e R s m args below meth c Q D A nL k n ws (pc + 1) lv (.int ((x.toUInt32 >>> (y.toUInt32 &&& Int32.toUInt32 31)).toInt32) :: st)) : jJ p l e R s m args below meth c Q D A nL k n ws pc lv (.int y :: .int x :: st) := fun H locs ls hP hD hS hl => lv_iushr F.1 F.2.1 hdg rfl (kk H locs ls hP hD hS hl)
theorem j_i2l (F : jF p s m args meth c cc nL own ret D ay A) {x : Int32} (hdg : decode cc pc = .ok (.i2l, 1)) (kk : jJ p l e R s m args below meth c Q D A nL k n ws (pc + 1) lv (.long x.toInt64 :: st)) : jJ p l e R s m args below meth c Q D A nL k n ws pc lv (.int x :: st) := fun H locs ls hP hD hS hl => lv_i2l F.1 F.2.1 hdg rfl (kk H locs ls hP hD hS hl)
theorem j_i2f (F : jF p s m args meth c cc nL own ret D ay A) {x : Int32} (hdg : decode cc pc = .ok (.i2f, 1)) (kk : jJ p l e R s m args below meth c Q D A nL k n ws (pc + 1) lv (.float (FP.i2f x) :: st)) : jJ p l e R s m args below meth c Q D A nL k n ws pc lv (.int x :: st) := fun H locs ls hP hD hS hl => lv_i2f F.1 F.2.1 hdg (kk H locs ls hP hD hS hl)
theorem j_i2d (F : jF p s m args meth c cc nL own ret D ay A) {x : Int32} (hdg : decode cc pc = .ok (.i2d, 1)) (kk : jJ p l e R s m args below meth c Q D A nL k n ws (pc + 1) lv (.double (FP.i2d x) :: st)) : jJ p l e R s m args below meth c Q D A nL k n ws pc lv (.int x :: st) := fun H locs ls hP hD hS hl => lv_i2d F.1 F.2.1 hdg (kk H locs ls hP hD hS hl)
theorem j_fdiv (F : jF p s m args meth c cc nL own ret D ay A) {x y : UInt32} (hdg : decode cc pc = .ok (.fdiv, 1)) (hne : vf_n32 (FP.fdiv x y)) (kk : jJ p l e R s m args below meth c Q D A nL k n ws (pc + 1) lv (.float (FP.fdiv x y) :: st)) : jJ p l e R s m args below meth c Q D A nL k n ws pc lv (.float y :: .float x :: st) := fun H locs ls hP hD hS hl => lv_fdiv F.1 F.2.1 hdg hne (kk H locs ls hP hD hS hl)
theorem j_ddiv (F : jF p s m args meth c cc nL own ret D ay A) {x y : UInt64} (hdg : decode cc pc = .ok (.ddiv, 1)) (hne : vf_n64 (FP.ddiv x y)) (kk : jJ p l e R s m args below meth c Q D A nL k n ws (pc + 1) lv (.double (FP.ddiv x y) :: st)) : jJ p l e R s m args below meth c Q D A nL k n ws pc lv (.double y :: .double x :: st) := fun H locs ls hP hD hS hl => lv_ddiv F.1 F.2.1 hdg hne (kk H locs ls hP hD hS hl)
theorem j_f2d (F : jF p s m args meth c cc nL own ret D ay A) {x : UInt32} (hdg : decode cc pc = .ok (.f2d, 1)) (hne : vf_n64 (FP.f2d x)) (kk : jJ p l e R s m args below meth c Q D A nL k n ws (pc + 1) lv (.double (FP.f2d x) :: st)) : jJ p l e R s m args below meth c Q D A nL k n ws pc lv (.float x :: st) := fun H locs ls hP hD hS hl => lv_f2d F.1 F.2.1 hdg hne (kk H locs ls hP hD hS hl)
theorem j_fcmp (F : jF p s m args meth c cc nL own ret D ay A) {x y : UInt32} {op : CmpOp} (hdg : decode cc pc = .ok (.fcmp op, 1)) (kk : jJ p l e R s m args below meth c Q D A nL k n ws (pc + 1) lv (.int (Op.cmpValue (FP.fcmp x y) op) :: st)) : jJ p l e R s m args below meth c Q D A nL k n ws pc lv (.float y :: .float x :: st) := fun H locs ls hP hD hS hl => lv_fcmp F.1 F.2.1 hdg (kk H locs ls hP hD hS hl)
theorem j_dcmp (F : jF p s m args meth c cc nL own ret D ay A) {x y : UInt64} {op : CmpOp} (hdg : decode cc pc = .ok (.dcmp op, 1)) (kk : jJ p l e R s m args below meth c Q D A nL k n ws (pc + 1) lv (.int (Op.cmpValue (FP.dcmp x y) op) :: st)) : jJ p l e R s m args below meth c Q D A nL k n ws pc lv (.double y :: .double x :: st) := fun H locs ls hP hD hS hl => lv_dcmp F.1 F.2.1 hdg (kk H locs ls hP hD hS hl)
theorem j_lcmp (F : jF p s m args meth c cc nL own ret D ay A) {x y : Int64} (hdg : decode cc pc = .ok (.lcmp, 1)) (kk : jJ p l e R s m args below meth c Q D A nL k n ws (pc + 1) lv (.int (lg_cmp x y) :: st)) : jJ p l e R s m args below meth c Q D A nL k n ws pc lv (.long y :: .long x :: st) := fun H locs ls hP hD hS hl => W.lcmp F.1 F.2.1 hdg (kk H locs ls hP hD hS hl)
theorem j_dup (F : jF p s m args meth c cc nL own ret D ay A) {v : Value} (hdg : decode cc pc = .ok (.dup, 1)) (hc : v.category = 1) (kk : jJ p l e R s m args below meth c Q D A nL k n ws (pc + 1) lv (v :: v :: st)) : jJ p l e R s m args below meth c Q D A nL k n ws pc lv (v :: st) := fun H locs ls hP hD hS hl => lv_dup F.1 F.2.1 hdg hc (kk H locs ls hP hD hS hl)
theorem j_pop (F : jF p s m args meth c cc nL own ret D ay A) {v : Value} (hdg : decode cc pc = .ok (.pop, 1)) (hc : v.category = 1) (kk : jJ p l e R s m args below meth c Q D A nL k n ws (pc + 1) lv (st)) : jJ p l e R s m args below meth c Q D A nL k n ws pc lv (v :: st) := fun H locs ls hP hD hS hl => lv_pop F.1 F.2.1 hdg hc (kk H locs ls hP hD hS hl)
theorem j_dup2 (F : jF p s m args meth c cc nL own ret D ay A) {v w : Value} (hdg : decode cc pc = .ok (.dup2, 1)) (hc : v.category = 1) (hd : w.category = 1) (kk : jJ p l e R s m args below meth c Q D A nL k n ws (pc + 1) lv (v :: w :: v :: w :: st)) : jJ p l e R s m args below meth c Q D A nL k n ws pc lv (v :: w :: st) := fun H locs ls hP hD hS hl => lv_dup2_11 F.1 F.2.1 hdg hc hd (kk H locs ls hP hD hS hl)
theorem j_goto (F : jF p s m args meth c cc nL own ret D ay A) {off : Int} (tgt : Nat) (hdg : decode cc pc = .ok (.goto off, 3)) (ht : (pc : Int) + off = (tgt : Int)) (kk : jJ p l e R s m args below meth c Q D A nL k n ws tgt lv st) : jJ p l e R s m args below meth c Q D A nL k n ws pc lv st := fun H locs ls hP hD hS hl => lv_goto F.1 F.2.1 hdg ht (kk H locs ls hP hD hS hl)
theorem j_if_eq (F : jF p s m args meth c cc nL own ret D ay A) {x : Int32} {off : Int} (tgt : Nat) (hdg : decode cc pc = .ok (.ifCond .eq off, 3)) (ht : (pc : Int) + off = (tgt : Int)) (kt : x = 0 → jJ p l e R s m args below meth c Q D A nL k n ws tgt lv st) (kf : ¬ x = 0 → jJ p l e R s m args below meth c Q D A nL k n ws (pc + 3) lv st) : jJ p l e R s m args below meth c Q D A nL k n ws pc lv (.int x :: st) := fun H locs ls hP hD hS hl => lv_if_eq F.1 F.2.1 hdg ht (fun h => kt h H locs ls hP hD hS hl) (fun h => kf h H locs ls hP hD hS hl)
theorem j_icmp_eq (F : jF p s m args meth c cc nL own ret D ay A) {x y : Int32} {off : Int} (tgt : Nat) (hdg : decode cc pc = .ok (.if_icmp .eq off, 3)) (ht : (pc : Int) + off = (tgt : Int)) (kt : x = y → jJ p l e R s m args below meth c Q D A nL k n ws tgt lv st) (kf : ¬ x = y → jJ p l e R s m args below meth c Q D A nL k n ws (pc + 3) lv st) : jJ p l e R s m args below meth c Q D A nL k n ws pc lv (.int y :: .int x :: st) := fun H locs ls hP hD hS hl => lv_icmp_eq F.1 F.2.1 hdg ht (fun h => kt h H locs ls hP hD hS hl) (fun h => kf h H locs ls hP hD hS hl)
theorem j_if_ne (F : jF p s m args meth c cc nL own ret D ay A) {x : Int32} {off : Int} (tgt : Nat) (hdg : decode cc pc = .ok (.ifCond .ne off, 3)) (ht : (pc : Int) + off = (tgt : Int)) (kt : ¬ x = 0 → jJ p l e R s m args below meth c Q D A nL k n ws tgt lv st) (kf : x = 0 → jJ p l e R s m args below meth c Q D A nL k n ws (pc + 3) lv st) : jJ p l e R s m args below meth c Q D A nL k n ws pc lv (.int x :: st) := fun H locs ls hP hD hS hl => lv_if_ne F.1 F.2.1 hdg ht (fun h => kt h H locs ls hP hD hS hl) (fun h => kf h H locs ls hP hD hS hl)
theorem j_icmp_ne (F : jF p s m args meth c cc nL own ret D ay A) {x y : Int32} {off : Int} (tgt : Nat) (hdg : decode cc pc = .ok (.if_icmp .ne off, 3)) (ht : (pc : Int) + off = (tgt : Int)) (kt : ¬ x = y → jJ p l e R s m args below meth c Q D A nL k n ws tgt lv st) (kf : x = y → jJ p l e R s m args below meth c Q D A nL k n ws (pc + 3) lv st) : jJ p l e R s m args below meth c Q D A nL k n ws pc lv (.int y :: .int x :: st) := fun H locs ls hP hD hS hl => lv_icmp_ne F.1 F.2.1 hdg ht (fun h => kt h H locs ls hP hD hS hl) (fun h => kf h H locs ls hP hD hS hl)
theorem j_if_lt (F : jF p s m args meth c cc nL own ret D ay A) {x : Int32} {off : Int} (tgt : Nat) (hdg : decode cc pc = .ok (.ifCond .lt off, 3)) (ht : (pc : Int) + off = (tgt : Int)) (kt : x < 0 → jJ p l e R s m args below meth c Q D A nL k n ws tgt lv st) (kf : ¬ x < 0 → jJ p l e R s m args below meth c Q D A nL k n ws (pc + 3) lv st) : jJ p l e R s m args below meth c Q D A nL k n ws pc lv (.int x :: st) := fun H locs ls hP hD hS hl => lv_if_lt F.1 F.2.1 hdg ht (fun h => kt h H locs ls hP hD hS hl) (fun h => kf h H locs ls hP hD hS hl)
theorem j_icmp_lt (F : jF p s m args meth c cc nL own ret D ay A) {x y : Int32} {off : Int} (tgt : Nat) (hdg : decode cc pc = .ok (.if_icmp .lt off, 3)) (ht : (pc : Int) + off = (tgt : Int)) (kt : x < y → jJ p l e R s m args below meth c Q D A nL k n ws tgt lv st) (kf : ¬ x < y → jJ p l e R s m args below meth c Q D A nL k n ws (pc + 3) lv st) : jJ p l e R s m args below meth c Q D A nL k n ws pc lv (.int y :: .int x :: st) := fun H locs ls hP hD hS hl => lv_icmp_lt F.1 F.2.1 hdg ht (fun h => kt h H locs ls hP hD hS hl) (fun h => kf h H locs ls hP hD hS hl)
theorem j_if_ge (F : jF p s m args meth c cc nL own ret D ay A) {x : Int32} {off : Int} (tgt : Nat) (hdg : decode cc pc = .ok (.ifCond .ge off, 3)) (ht : (pc : Int) + off = (tgt : Int)) (kt : 0 ≤ x → jJ p l e R s m args below meth c Q D A nL k n ws tgt lv st) (kf : ¬ 0 ≤ x → jJ p l e R s m args below meth c Q D A nL k n ws (pc + 3) lv st) : jJ p l e R s m args below meth c Q D A nL k n ws pc lv (.int x :: st) := fun H locs ls hP hD hS hl => lv_if_ge F.1 F.2.1 hdg ht (fun h => kt h H locs ls hP hD hS hl) (fun h => kf h H locs ls hP hD hS hl)
theorem j_icmp_ge (F : jF p s m args meth c cc nL own ret D ay A) {x y : Int32} {off : Int} (tgt : Nat) (hdg : decode cc pc = .ok (.if_icmp .ge off, 3)) (ht : (pc : Int) + off = (tgt : Int)) (kt : y ≤ x → jJ p l e R s m args below meth c Q D A nL k n ws tgt lv st) (kf : ¬ y ≤ x → jJ p l e R s m args below meth c Q D A nL k n ws (pc + 3) lv st) : jJ p l e R s m args below meth c Q D A nL k n ws pc lv (.int y :: .int x :: st) := fun H locs ls hP hD hS hl => lv_icmp_ge F.1 F.2.1 hdg ht (fun h => kt h H locs ls hP hD hS hl) (fun h => kf h H locs ls hP hD hS hl)
theorem j_if_gt (F : jF p s m args meth c cc nL own ret D ay A) {x : Int32} {off : Int} (tgt : Nat) (hdg : decode cc pc = .ok (.ifCond .gt off, 3)) (ht : (pc : Int) + off = (tgt : Int)) (kt : 0 < x → jJ p l e R s m args below meth c Q D A nL k n ws tgt lv st) (kf : ¬ 0 < x → jJ p l e R s m args below meth c Q D A nL k n ws (pc + 3) lv st) : jJ p l e R s m args below meth c Q D A nL k n ws pc lv (.int x :: st) := fun H locs ls hP hD hS hl => lv_if_gt F.1 F.2.1 hdg ht (fun h => kt h H locs ls hP hD hS hl) (fun h => kf h H locs ls hP hD hS hl)
theorem j_icmp_gt (F : jF p s m args meth c cc nL own ret D ay A) {x y : Int32} {off : Int} (tgt : Nat) (hdg : decode cc pc = .ok (.if_icmp .gt off, 3)) (ht : (pc : Int) + off = (tgt : Int)) (kt : y < x → jJ p l e R s m args below meth c Q D A nL k n ws tgt lv st) (kf : ¬ y < x → jJ p l e R s m args below meth c Q D A nL k n ws (pc + 3) lv st) : jJ p l e R s m args below meth c Q D A nL k n ws pc lv (.int y :: .int x :: st) := fun H locs ls hP hD hS hl => lv_icmp_gt F.1 F.2.1 hdg ht (fun h => kt h H locs ls hP hD hS hl) (fun h => kf h H locs ls hP hD hS hl)
theorem j_if_le (F : jF p s m args meth c cc nL own ret D ay A) {x : Int32} {off : Int} (tgt : Nat) (hdg : decode cc pc = .ok (.ifCond .le off, 3)) (ht : (pc : Int) + off = (tgt : Int)) (kt : x ≤ 0 → jJ p l e R s m args below meth c Q D A nL k n ws tgt lv st) (kf : ¬ x ≤ 0 → jJ p l e R s m args below meth c Q D A nL k n ws (pc + 3) lv st) : jJ p l e R s m args below meth c Q D A nL k n ws pc lv (.int x :: st) := fun H locs ls hP hD hS hl => lv_if_le F.1 F.2.1 hdg ht (fun h => kt h H locs ls hP hD hS hl) (fun h => kf h H locs ls hP hD hS hl)
theorem j_icmp_le (F : jF p s m args meth c cc nL own ret D ay A) {x y : Int32} {off : Int} (tgt : Nat) (hdg : decode cc pc = .ok (.if_icmp .le off, 3)) (ht : (pc : Int) + off = (tgt : Int)) (kt : x ≤ y → jJ p l e R s m args below meth c Q D A nL k n ws tgt lv st) (kf : ¬ x ≤ y → jJ p l e R s m args below meth c Q D A nL k n ws (pc + 3) lv st) : jJ p l e R s m args below meth c Q D A nL k n ws pc lv (.int y :: .int x :: st) := fun H locs ls hP hD hS hl => lv_icmp_le F.1 F.2.1 hdg ht (fun h => kt h H locs ls hP hD hS hl) (fun h => kf h H locs ls hP hD hS hl)
-- ---- the world in another order, or less of it; fewer locals; more room
theorem j_perm (is : List Nat) (w : va_W) (hnd : va_nd is = true) (hw : is.map (fun i => ws[i]?) = w.map some) (kk : jJ p l e R s m args below meth c Q D A nL k n w pc lv st) : jJ p l e R s m args below meth c Q D A nL k n ws pc lv st := fun H locs ls hP hD hS hl => kk H locs ls (hP.sub is (j_fm hw)) (hD.sub is hnd hw) hS hl
theorem j_sub (ks : List Nat) (lv' : List (Nat × Value)) (hl' : lv_pick lv ks = lv') (kk : jJ p l e R s m args below meth c Q D A nL k n ws pc lv' st) : jJ p l e R s m args below meth c Q D A nL k n ws pc lv st := fun H locs ls hP hD hS hl => kk H locs ls hP hD hS (lv_sub hl ks hl')
theorem j_widen {k' n' : Nat} (h1 : k ≤ k') (h2 : n ≤ n') (kk : jJ p l e R s m args below meth c Q D A nL k' n' ws pc lv st) : jJ p l e R s m args below meth c Q D A nL k n ws pc lv st := fun H locs ls hP hD hS hl => W.widen h1 h2 (kk H locs ls hP hD hS hl)
/-- a number on the stack under another name -/
theorem j_top {x : Int32} (y : Int32) (h : x = y) (kk : jJ p l e R s m args below meth c Q D A nL k n ws pc lv (.int y :: st)) : jJ p l e R s m args below meth c Q D A nL k n ws pc lv (.int x :: st) := h ▸ kk
/-- the world under another name -/
theorem j_ws (w : va_W) (h : ws = w) (kk : jJ p l e R s m args below meth c Q D A nL k n w pc lv st) : jJ p l e R s m args below meth c Q D A nL k n ws pc lv st := h ▸ kk
theorem j_st (st' : List Value) (h : st = st') (kk : jJ p l e R s m args below meth c Q D A nL k n ws pc lv st') : jJ p l e R s m args below meth c Q D A nL k n ws pc lv st := h ▸ kk
/-- a loop: its numbers x : σ, what holds of them, a measure that falls; the locals and the world are theirs -/
theorem j_loop {σ : Type} (I : σ → Prop) (μ : σ → Nat) (lvf : σ → List (Nat × Value)) (wf : σ → va_W) (x0 : σ) (h0 : I x0) (hlv : lv = lvf x0) (hws : ws = wf x0)
    (step : ∀ x : σ, I x → (∀ x' : σ, I x' → μ x' < μ x → jJ p l e R s m args below meth c Q D A nL k n (wf x') pc (lvf x') st) → jJ p l e R s m args below meth c Q D A nL k n (wf x) pc (lvf x) st) : jJ p l e R s m args below meth c Q D A nL k n ws pc lv st := by
  have K : ∀ (N : Nat) (x : σ), μ x < N → I x → jJ p l e R s m args below meth c Q D A nL k n (wf x) pc (lvf x) st := by
    intro N
    induction N with
    | zero => intro x h _; exact absurd h (Nat.not_lt_zero _)
    | succ N ih => intro x h hI; exact step x hI (fun x' hI' hm => ih x' (by omega) hI')
  rw [hlv, hws]
  exact K (μ x0 + 1) x0 (Nat.lt_succ_self _) h0
-- ---- fields
theorem j_getf (F : jF p s m args meth c cc nL own ret D ay A) {idx ci N k1 : Nat} {C : String} {T : u_T} {ty0 : Nat → FieldType} (L : jFL own idx ci C T N ty0 k1) (q0 : Nat) {a : Nat} {fs : List Value} {v : Value} (he : ws[q0]? = some (a, .inr (ci, fs))) (hv : fs[k1]? = some v) (hdg : decode cc pc = .ok (.getfield idx, 3)) (kk : jJ p l e R s m args below meth c Q D A nL k n ws (pc + 3) lv (v :: st)) : jJ p l e R s m args below meth c Q D A nL k n ws pc lv (.ref a :: st) := fun H locs ls hP hD hS hl =>
  va_get F.1 F.2.1 F.2.2.2.2.1 L.2.1 F.2.2.2.1 F.2.2.2.2.2.1 hP q0 he L.1 k1 L.2.2.1 (F.2.2.2.2.1 _ L.2.2.2.1) (fun _ h => h) hv hdg (kk H locs ls hP hD hS hl)
theorem j_putf (F : jF p s m args meth c cc nL own ret D ay A) {idx ci N k1 : Nat} {C : String} {T : u_T} {ty0 : Nat → FieldType} (L : jFL own idx ci C T N ty0 k1) (q0 : Nat) (ws' : va_W) {a : Nat} {fs : List Value} {v : Value} (he : ws[q0]? = some (a, .inr (ci, fs))) (hw : ws.set q0 (a, .inr (ci, fs.set k1 v)) = ws') (hfin : (T k1).2.2.2 = false) (hn : narrow (ty0 k1) v = v) (hfit : fits (ty0 k1) v = true) (hlen : k1 < fs.length) (hdg : decode cc pc = .ok (.putfield idx, 3)) (kk : jJ p l e R s m args below meth c Q D A nL k n ws' (pc + 3) lv st) : jJ p l e R s m args below meth c Q D A nL k n ws pc lv (v :: .ref a :: st) := fun H locs ls hP hD hS hl =>
  va_put F.1 F.2.1 F.2.2.2.2.1 L.2.1 ty0 L.2.2.2.2.1 L.2.2.2.2.2 F.2.2.2.1 F.2.2.2.2.2.1 hP hD hS q0 he L.1 k1 L.2.2.1 (F.2.2.2.2.1 _ L.2.2.2.1) (fun _ h => h) hfin (L.2.2.2.2.1 k1 L.2.2.1) hn hfit hlen hdg (fun H1 locs1 hP hD hS => kk H1 locs1 ls (hw ▸ hP) (hw ▸ hD) hS hl)
theorem j_putF (F : jF p s m args meth c cc nL own ret D ay A) {idx ci N k1 : Nat} {C : String} {T : u_T} {ty0 : Nat → FieldType} (L : jFL own idx ci C T N ty0 k1) (hin : meth.name = "<init>") (q0 : Nat) (ws' : va_W) {a : Nat} {fs : List Value} {v : Value} (he : ws[q0]? = some (a, .inr (ci, fs))) (hw : ws.set q0 (a, .inr (ci, fs.set k1 v)) = ws') (hfin : (T k1).2.2.2 = true) (hdecl : (T k1).1 = own) (hn : narrow (ty0 k1) v = v) (hfit : fits (ty0 k1) v = true) (hlen : k1 < fs.length) (hdg : decode cc pc = .ok (.putfield idx, 3)) (kk : jJ p l e R s m args below meth c Q D A nL k n ws' (pc + 3) lv st) : jJ p l e R s m args below meth c Q D A nL k n ws pc lv (v :: .ref a :: st) := fun H locs ls hP hD hS hl =>
  va_putF F.1 F.2.1 F.2.2.2.2.1 L.2.1 ty0 L.2.2.2.2.1 L.2.2.2.2.2 F.2.2.2.1 F.2.2.2.2.2.1 hP hD hS q0 he L.1 k1 L.2.2.1 (F.2.2.2.2.1 _ L.2.2.2.1) (fun _ h => h) hfin hin hdecl (L.2.2.2.2.1 k1 L.2.2.1) hn hfit hlen hdg (fun H1 locs1 hP hD hS => kk H1 locs1 ls (hw ▸ hP) (hw ▸ hD) hS hl)
-- ---- arrays: the place as a natural number
theorem j_iald (F : jF p s m args meth c cc nL own ret D ay A) (q0 : Nat) {a len : Nat} {f : Nat → Int32} {i : Int32} (j : Nat) (ha : ws[q0]? = some (a, .inl (ay 0, len, .inl f))) (hi : i = nI j) (hj : j < len) (hb : len ≤ 100000) (hdg : decode cc pc = .ok (.iaload, 1)) (kk : jJ p l e R s m args below meth c Q D A nL k n ws (pc + 1) lv (.int (f j) :: st)) : jJ p l e R s m args below meth c Q D A nL k n ws pc lv (.int i :: .ref a :: st) := fun H locs ls hP hD hS hl => by
  have hc : i.toNatClampNeg = j := by rw [hi]; exact nI_clamp (by omega)
  refine va_iald F.1 F.2.1 F.2.2.2.2.2.1 hP q0 0 ha rfl (by rw [hi]; exact vp_in_nI hj (by omega)) hdg ?_
  rw [hc]
  exact kk H locs ls hP hD hS hl
theorem j_zald (F : jF p s m args meth c cc nL own ret D ay A) (q0 : Nat) {a len : Nat} {f : Nat → Int32} {i : Int32} (j : Nat) (ha : ws[q0]? = some (a, .inl (ay 1, len, .inl f))) (hi : i = nI j) (hj : j < len) (hb : len ≤ 100000) (hdg : decode cc pc = .ok (.baload, 1)) (kk : jJ p l e R s m args below meth c Q D A nL k n ws (pc + 1) lv (.int (f j) :: st)) : jJ p l e R s m args below meth c Q D A nL k n ws pc lv (.int i :: .ref a :: st) := fun H locs ls hP hD hS hl => by
  have hc : i.toNatClampNeg = j := by rw [hi]; exact nI_clamp (by omega)
  refine va_zald F.1 F.2.1 F.2.2.2.2.2.1 hP q0 1 ha rfl (by rw [hi]; exact vp_in_nI hj (by omega)) hdg ?_
  rw [hc]
  exact kk H locs ls hP hD hS hl
theorem j_lald (F : jF p s m args meth c cc nL own ret D ay A) (q0 : Nat) {a len : Nat} {f : Nat → Int64} {i : Int32} (j : Nat) (ha : ws[q0]? = some (a, .inl (ay 3, len, .inr (.inl f)))) (hi : i = nI j) (hj : j < len) (hb : len ≤ 100000) (hdg : decode cc pc = .ok (.laload, 1)) (kk : jJ p l e R s m args below meth c Q D A nL k n ws (pc + 1) lv (.long (f j) :: st)) : jJ p l e R s m args below meth c Q D A nL k n ws pc lv (.int i :: .ref a :: st) := fun H locs ls hP hD hS hl => by
  have hc : i.toNatClampNeg = j := by rw [hi]; exact nI_clamp (by omega)
  refine va_lald F.1 F.2.1 F.2.2.2.2.2.1 hP q0 3 ha rfl (by rw [hi]; exact vp_in_nI hj (by omega)) hdg ?_
  rw [hc]
  exact kk H locs ls hP hD hS hl
theorem j_dald (F : jF p s m args meth c cc nL own ret D ay A) (q0 : Nat) {a len : Nat} {f : Nat → UInt64} {i : Int32} (j : Nat) (ha : ws[q0]? = some (a, .inl (ay 4, len, .inr (.inr (.inr (.inl f)))))) (hi : i = nI j) (hj : j < len) (hb : len ≤ 100000) (hdg : decode cc pc = .ok (.daload, 1)) (kk : jJ p l e R s m args below meth c Q D A nL k n ws (pc + 1) lv (.double (f j) :: st)) : jJ p l e R s m args below meth c Q D A nL k n ws pc lv (.int i :: .ref a :: st) := fun H locs ls hP hD hS hl => by
  have hc : i.toNatClampNeg = j := by rw [hi]; exact nI_clamp (by omega)
  refine va_dald F.1 F.2.1 F.2.2.2.2.2.1 hP q0 4 ha rfl (by rw [hi]; exact vp_in_nI hj (by omega)) hdg ?_
  rw [hc]
  exact kk H locs ls hP hD hS hl
theorem j_aald (F : jF p s m args meth c cc nL own ret D ay A) (q0 : Nat) {a len : Nat} {f : Nat → Option Nat} {i : Int32} (j r : Nat) (ha : ws[q0]? = some (a, .inl (ay 2, len, .inr (.inr (.inr (.inr f)))))) (hi : i = nI j) (hj : j < len) (hb : len ≤ 100000) (hf : f j = some r) (hdg : decode cc pc = .ok (.aaload, 1)) (kk : jJ p l e R s m args below meth c Q D A nL k n ws (pc + 1) lv (.ref r :: st)) : jJ p l e R s m args below meth c Q D A nL k n ws pc lv (.int i :: .ref a :: st) := fun H locs ls hP hD hS hl => by
  have hc : i.toNatClampNeg = j := by rw [hi]; exact nI_clamp (by omega)
  refine va_aldq F.1 F.2.1 F.2.2.2.2.2.1 hP q0 2 ha rfl (by rw [hi]; exact vp_in_nI hj (by omega)) hdg ?_
  rw [hc, hf]
  exact kk H locs ls hP hD hS hl
theorem j_iast (F : jF p s m args meth c cc nL own ret D ay A) (q0 : Nat) (ws' : va_W) {a len : Nat} {f : Nat → Int32} {i x : Int32} (j : Nat) (ha : ws[q0]? = some (a, .inl (ay 0, len, .inl f))) (hi : i = nI j) (hj : j < len) (hb : len ≤ 100000) (hw : ws.set q0 (a, .inl (ay 0, len, .inl (upd f j x))) = ws') (hdg : decode cc pc = .ok (.iastore, 1)) (kk : jJ p l e R s m args below meth c Q D A nL k n ws' (pc + 1) lv st) : jJ p l e R s m args below meth c Q D A nL k n ws pc lv (.int x :: .int i :: .ref a :: st) := fun H locs ls hP hD hS hl => by
  have hc : i.toNatClampNeg = j := by rw [hi]; exact nI_clamp (by omega)
  refine va_iast F.1 F.2.1 F.2.2.2.2.2.1 hP hD hS q0 0 ha rfl (by rw [hi]; exact vp_in_nI hj (by omega)) hdg (fun H1 locs1 hP hD hS => ?_)
  rw [hc, hw] at hP hD
  exact kk H1 locs1 ls hP hD hS hl
theorem j_zast (F : jF p s m args meth c cc nL own ret D ay A) (q0 : Nat) (ws' : va_W) {a len : Nat} {f : Nat → Int32} {i x : Int32} (j : Nat) (ha : ws[q0]? = some (a, .inl (ay 1, len, .inl f))) (hi : i = nI j) (hj : j < len) (hb : len ≤ 100000) (hx : vp_nar .boolean x = x) (hw : ws.set q0 (a, .inl (ay 1, len, .inl (upd f j x))) = ws') (hdg : decode cc pc = .ok (.bastore, 1)) (kk : jJ p l e R s m args below meth c Q D A nL k n ws' (pc + 1) lv st) : jJ p l e R s m args below meth c Q D A nL k n ws pc lv (.int x :: .int i :: .ref a :: st) := fun H locs ls hP hD hS hl => by
  have hc : i.toNatClampNeg = j := by rw [hi]; exact nI_clamp (by omega)
  refine va_zast F.1 F.2.1 F.2.2.2.2.2.1 hP hD hS q0 1 ha rfl (by rw [hi]; exact vp_in_nI hj (by omega)) hdg (fun H1 locs1 hP hD hS => ?_)
  rw [hc, hx, hw] at hP hD
  exact kk H1 locs1 ls hP hD hS hl
theorem j_last (F : jF p s m args meth c cc nL own ret D ay A) (q0 : Nat) (ws' : va_W) {a len : Nat} {f : Nat → Int64} {i : Int32} {x : Int64} (j : Nat) (ha : ws[q0]? = some (a, .inl (ay 3, len, .inr (.inl f)))) (hi : i = nI j) (hj : j < len) (hb : len ≤ 100000) (hw : ws.set q0 (a, .inl (ay 3, len, .inr (.inl (vp_updL f j x)))) = ws') (hdg : decode cc pc = .ok (.lastore, 1)) (kk : jJ p l e R s m args below meth c Q D A nL k n ws' (pc + 1) lv st) : jJ p l e R s m args below meth c Q D A nL k n ws pc lv (.long x :: .int i :: .ref a :: st) := fun H locs ls hP hD hS hl => by
  have hc : i.toNatClampNeg = j := by rw [hi]; exact nI_clamp (by omega)
  refine va_last F.1 F.2.1 F.2.2.2.2.2.1 hP hD hS q0 3 ha rfl (by rw [hi]; exact vp_in_nI hj (by omega)) hdg (fun H1 locs1 hP hD hS => ?_)
  rw [hc, hw] at hP hD
  exact kk H1 locs1 ls hP hD hS hl
theorem j_dast (F : jF p s m args meth c cc nL own ret D ay A) (q0 : Nat) (ws' : va_W) {a len : Nat} {f : Nat → UInt64} {i : Int32} {x : UInt64} (j : Nat) (ha : ws[q0]? = some (a, .inl (ay 4, len, .inr (.inr (.inr (.inl f)))))) (hi : i = nI j) (hj : j < len) (hb : len ≤ 100000) (hw : ws.set q0 (a, .inl (ay 4, len, .inr (.inr (.inr (.inl (vf_upd f j x)))))) = ws') (hdg : decode cc pc = .ok (.dastore, 1)) (kk : jJ p l e R s m args below meth c Q D A nL k n ws' (pc + 1) lv st) : jJ p l e R s m args below meth c Q D A nL k n ws pc lv (.double x :: .int i :: .ref a :: st) := fun H locs ls hP hD hS hl => by
  have hc : i.toNatClampNeg = j := by rw [hi]; exact nI_clamp (by omega)
  refine va_dast F.1 F.2.1 F.2.2.2.2.2.1 hP hD hS q0 4 ha rfl (by rw [hi]; exact vp_in_nI hj (by omega)) hdg (fun H1 locs1 hP hD hS => ?_)
  rw [hc, hw] at hP hD
  exact kk H1 locs1 ls hP hD hS hl
-- ---- ends
theorem j_iret (F : jF p s m args meth c cc nL own (some .int) D ay A) {v : Int32} {post : Option Value → va_W → Prop} {mc ms : Nat} (hpost : post (some (.int v)) ws) (hdg : decode cc pc = .ok (.ireturn, 1)) (hk : k ≤ mc) (hn : n ≤ ms) : jJ p l e R s m args below meth c (MQ below (jQ post D ay A) args s mc ms A) D A nL k n ws pc lv [.int v] := fun H locs ls hP hD hS hl =>
  W.widen hk hn (W.iret F.1 F.2.1 F.2.2.2.2.2.2.2.2 (fun t ht hW => ⟨⟨_, ws, rfl, hpost, ht ▸ hP, va_K.moved hW.alike F.2.2.2.2.2.1, hD⟩, hS.F ht⟩) hS.2.2 hdg F.2.2.2.2.2.2.2.1)
theorem j_zret (F : jF p s m args meth c cc nL own (some .boolean) D ay A) {v : Int32} {post : Option Value → va_W → Prop} {mc ms : Nat} (hz : v = 0 ∨ v = 1) (hpost : post (some (.int v)) ws) (hdg : decode cc pc = .ok (.ireturn, 1)) (hk : k ≤ mc) (hn : n ≤ ms) : jJ p l e R s m args below meth c (MQ below (jQ post D ay A) args s mc ms A) D A nL k n ws pc lv [.int v] := fun H locs ls hP hD hS hl =>
  W.widen hk hn (W.zret F.1 F.2.1 F.2.2.2.2.2.2.2.2 (by rcases hz with rfl | rfl <;> rfl) (fun t ht hW => ⟨⟨_, ws, rfl, hpost, ht ▸ hP, va_K.moved hW.alike F.2.2.2.2.2.1, hD⟩, hS.F ht⟩) hS.2.2 hdg F.2.2.2.2.2.2.2.1)
theorem j_vret (F : jF p s m args meth c cc nL own none D ay A) {post : Option Value → va_W → Prop} {mc ms : Nat} (hpost : post none ws) (hdg : decode cc pc = .ok (.return_, 1)) (hk : k ≤ mc) (hn : n ≤ ms) : jJ p l e R s m args below meth c (MQ below (jQ post D ay A) args s mc ms A) D A nL k n ws pc lv [] := fun H locs ls hP hD hS hl =>
  W.widen hk hn (W.vret F.1 F.2.1 F.2.2.2.2.2.2.2.2 (fun t ht hW => ⟨⟨_, ws, rfl, hpost, ht ▸ hP, va_K.moved hW.alike F.2.2.2.2.2.1, hD⟩, hS.F ht⟩) hS.2.2 hdg F.2.2.2.2.2.2.2.1)
theorem j_aret {C : String} (F : jF p s m args meth c cc nL own (some (.object C)) D ay A) {a : Nat} {post : Option Value → va_W → Prop} {mc ms : Nat} (hpost : post (some (.ref a)) ws) (hdg : decode cc pc = .ok (.areturn, 1)) (hk : k ≤ mc) (hn : n ≤ ms) : jJ p l e R s m args below meth c (MQ below (jQ post D ay A) args s mc ms A) D A nL k n ws pc lv [.ref a] := fun H locs ls hP hD hS hl =>
  W.widen hk hn (W.aret F.1 F.2.1 F.2.2.2.2.2.2.2.2 (Or.inl ⟨_, rfl⟩) (Or.inr ⟨_, rfl⟩) (fun t ht hW => ⟨⟨_, ws, rfl, hpost, ht ▸ hP, va_K.moved hW.alike F.2.2.2.2.2.1, hD⟩, hS.F ht⟩) hS.2.2 hdg F.2.2.2.2.2.2.2.1)
theorem j_fret (F : jF p s m args meth c cc nL own (some .float) D ay A) {v : UInt32} {post : Option Value → va_W → Prop} {mc ms : Nat} (hpost : post (some (.float v)) ws) (hdg : decode cc pc = .ok (.freturn, 1)) (hk : k ≤ mc) (hn : n ≤ ms) : jJ p l e R s m args below meth c (MQ below (jQ post D ay A) args s mc ms A) D A nL k n ws pc lv [.float v] := fun H locs ls hP hD hS hl =>
  W.widen hk hn (W.fret F.1 F.2.1 F.2.2.2.2.2.2.2.2 (fun t ht hW => ⟨⟨_, ws, rfl, hpost, ht ▸ hP, va_K.moved hW.alike F.2.2.2.2.2.1, hD⟩, hS.F ht⟩) hS.2.2 hdg F.2.2.2.2.2.2.2.1)
theorem j_dret (F : jF p s m args meth c cc nL own (some .double) D ay A) {v : UInt64} {post : Option Value → va_W → Prop} {mc ms : Nat} (hpost : post (some (.double v)) ws) (hdg : decode cc pc = .ok (.dreturn, 1)) (hk : k ≤ mc) (hn : n ≤ ms) : jJ p l e R s m args below meth c (MQ below (jQ post D ay A) args s mc ms A) D A nL k n ws pc lv [.double v] := fun H locs ls hP hD hS hl =>
  W.widen hk hn (W.dret F.1 F.2.1 F.2.2.2.2.2.2.2.2 (fun t ht hW => ⟨⟨_, ws, rfl, hpost, ht ▸ hP, va_K.moved hW.alike F.2.2.2.2.2.1, hD⟩, hS.F ht⟩) hS.2.2 hdg F.2.2.2.2.2.2.2.1)
/-- the same end, in a method that may also throw -/
theorem j_xr {post : Option Value → va_W → Prop} {postX : String → va_W → Prop} {mc ms : Nat} (kk : jJ p l e R s m args below meth c (MQ below (jQ post D ay A) args s mc ms A) D A nL k n ws pc lv st) : jJ p l e R s m args below meth c (vx_MQ below (jQ post D ay A) (jXQ postX D ay A) args s mc ms A) D A nL k n ws pc lv st := fun H locs ls hP hD hS hl => vx_ret (kk H locs ls hP hD hS hl)
-- ---- calls
theorem j_go (F : jF p s m args meth c cc nL own ret D ay A) {wc wr : va_W} {mc ms : Nat} {rest : List Value} {post : Option Value → va_W → Prop} {aa : Array Value} (isC isR : List Nat) (hC : isC.map (fun i => ws[i]?) = wc.map some) (hR : isR.map (fun i => ws[i]?) = wr.map some) (hn : va_nd isC = true) (hn2 : va_nd isR = true) (hdis : ∀ i ∈ isR, i ∉ isC)
    (run : ∀ (H : Heap) (locs : List Loc) (ls : Array Slot), va_P D vwCl wc H → va_D (fun _ => True) wc → va_P D vwCl ws H → va_S A s.heap H locs → (∀ q, va_A wc H.size q → A q) → lv_has ls nL lv → va_Run p l e R s m args below meth c H locs k n mc ms (F0 m pc ls st) rest (jQ post D ay (va_A wc H.size) aa) (va_A wc H.size))
    (kk : ∀ (v : Option Value) (w : va_W), post v w → jJ p l e R s m args below meth c Q D A nL (k + mc) (n + ms) (wr ++ w) (pc + 3) lv (v.toList ++ rest)) : jJ p l e R s m args below meth c Q D A nL k n ws pc lv st := by
  intro H locs ls hP hD hS hl T hT X
  have hF := va_free (wc := wc) hD hS F.2.2.2.2.2.2.1 isC hC
  obtain ⟨v, st₀, t, T', L, h0, X', hL, e1, e2, ⟨⟨v', w, hv, hp, hPw, hKw, hDw⟩, hz, hk⟩, stp⟩ := run H locs ls (hP.sub isC (j_fm hC)) ((hD.sub isC hn hC).weaken (fun _ _ _ _ => trivial)) hP hS hF hl T hT X
  cases hv
  rw [h0] at hz hk
  obtain ⟨hP2, hD2⟩ := va_join hP hD isC isR hC hR hn2 hdis (H1 := T'.heap) (fun q h1 h2 => by rw [e1]; exact hk q h1 h2) hF (by rw [e1]; exact hPw) hDw
  obtain ⟨t2, a1, b1⟩ := kk v w hp T'.heap (locs ++ L) ls hP2 hD2 ⟨Nat.le_trans hS.1 (by rw [e1]; exact hz), fun q h1 h2 => by rw [e1, hk q (Nat.lt_of_lt_of_le h1 hS.1) (fun z => h2 (hF q z))]; exact hS.2.1 q h1 h2, fun q hq => by
      rcases List.mem_append.mp hq with h | h
      · exact hS.2.2 q h
      · exact hF _ (hL q h)⟩ hl T' rfl X'
  exact ⟨t2, stp t2 a1, b1⟩
def jok (R : Room) (fr mL lo : Nat) (isC isR : List Nat) : Bool := Nat.ble (fr + 1) R.frames && Nat.ble (8 + (mL + 11) + lo) R.locals && va_nd isC && va_nd isR && isR.all (fun i => !isC.contains i)
theorem jok_spec {R : Room} {fr mL lo : Nat} {isC isR : List Nat} (h : jok R fr mL lo isC isR = true) : fr + 1 ≤ R.frames ∧ 8 + (mL + 11) + lo ≤ R.locals ∧ va_nd isC = true ∧ va_nd isR = true ∧ ∀ i ∈ isR, i ∉ isC := by
  simp only [jok, Bool.and_eq_true] at h
  obtain ⟨⟨⟨⟨h1, h2⟩, h3⟩, h4⟩, h5⟩ := h
  refine ⟨Nat.le_of_ble_eq_true h1, Nat.le_of_ble_eq_true h2, h3, h4, fun i hi hc => ?_⟩
  have h6 := List.all_eq_true.mp h5 i hi
  simp [hc] at h6
theorem jLV.cw (F : jF p s m args meth c cc nL own ret D ay A) {idx ci fr lo mc ms mL n1 : Nat} {y : MethodName} {b : ByteArray} {ret1 : Option FieldType} (L : jLV own idx ci y b mL ret1 n1) (hR : fr + 1 ≤ R.frames ∧ 8 + (mL + 11) + lo ≤ R.locals) : CallW R s args own y.cls idx y b mL ret1 (jws y b mL ret1) ({ frames := fr, cells := mc, slots := ms, locals := lo }) mc ms n1 := by
  obtain ⟨-, h1, h2, h3, h4, h5, h6⟩ := L
  have ht := F.2.2.2.2.1
  exact ⟨callB_of n1 ht (jws_in h5) rfl rfl rfl (ht _ h4) (ht _ h1) h6 hR, ht _ h2, ht _ h3⟩
theorem jLS.cw (F : jF p s m args meth c cc nL own ret D ay A) {idx fr lo mc ms mL n1 : Nat} {y : MethodName} {b : ByteArray} {ret1 : Option FieldType} (L : jLS own idx y b mL ret1 n1) (hR : fr + 1 ≤ R.frames ∧ 8 + (mL + 11) + lo ≤ R.locals) : CallB R s args own idx y b mL ret1 (jws y b mL ret1) ({ frames := fr, cells := mc, slots := ms, locals := lo }) mc ms n1 ∧ (Cond.static y).before args s = true := by
  obtain ⟨h1, h2, h4, h5, h6⟩ := L
  have ht := F.2.2.2.2.1
  exact ⟨callB_of n1 ht (jws_in h5) rfl rfl rfl (ht _ h4) (ht _ h1) h6 hR, ht _ h2⟩
/-- a call on an object -/
theorem j_callV (F : jF p s m args meth c cc nL own ret D ay A) {idx ci fr lo mc ms mL n1 : Nat} {y : MethodName} {b : ByteArray} {ret1 : Option FieldType} (L : jLV own idx ci y b mL ret1 n1) {a : Nat} {As rest : List Value} {wc : va_W} {post : Option Value → va_W → Prop} (hM : jM l y (jws y b mL ret1) fr lo mc ms D ay (.ref a :: As) wc post) (q0 : Nat) {fs : List Value} (isC isR : List Nat) (wr : va_W) (he : ws[q0]? = some (a, .inr (ci, fs))) (hC : isC.map (fun i => ws[i]?) = wc.map some) (hR : isR.map (fun i => ws[i]?) = wr.map some) (hok : jok R fr mL lo isC isR = true) (hst : st = As.reverse ++ .ref a :: rest) (hlen : As.length = n1) (hcat : Nat.ble ((rest.map fun v => v.category).sum) 8 = true) (hf : k + mc ≤ R.cells ∧ n + ms ≤ R.slots) (hdg : decode cc pc = .ok (.invokevirtual idx, 3))
    (kk : ∀ (v : Option Value) (w : va_W), post v w → jJ p l e R s m args below meth c Q D A nL (k + mc) (n + ms) (wr ++ w) (pc + 3) lv (v.toList ++ rest)) : jJ p l e R s m args below meth c Q D A nL k n ws pc lv st := by
  obtain ⟨k1, k2, k3, k4, k5⟩ := jok_spec hok
  obtain ⟨T0, N0, hcl⟩ := L.1
  refine j_go F (aa := (Value.ref a :: As).toArray) isC isR hC hR k3 k4 k5 (fun H locs ls hPc hDc hP hS hF hl => ?_) kk
  exact va_runV (Ts := gw) ⟨F.1, F.2.1, F.2.2.1, F.2.2.2.1, F.2.2.2.2.1⟩ (hM H.size) (jLV.cw F L ⟨k1, k2⟩) ⟨jPc_blind, va_recv F.2.2.2.2.2.1 hP hcl he, fun U hU hW => ⟨rfl, by rw [hU], by rw [hU]; exact hPc, va_K.moved hW.alike F.2.2.2.2.2.1, hDc, trivial⟩⟩ rfl hlen hl.1 hst (lv_room (Nat.le_of_ble_eq_true hcat)) hdg hf
/-- a call of a static method -/
theorem j_callS (F : jF p s m args meth c cc nL own ret D ay A) {idx fr lo mc ms mL n1 : Nat} {y : MethodName} {b : ByteArray} {ret1 : Option FieldType} (L : jLS own idx y b mL ret1 n1) {As rest : List Value} {wc : va_W} {post : Option Value → va_W → Prop} (hM : jM l y (jws y b mL ret1) fr lo mc ms D ay As wc post) (isC isR : List Nat) (wr : va_W) (hC : isC.map (fun i => ws[i]?) = wc.map some) (hR : isR.map (fun i => ws[i]?) = wr.map some) (hok : jok R fr mL lo isC isR = true) (hst : st = As.reverse ++ rest) (hlen : As.length = n1) (hcat : Nat.ble ((rest.map fun v => v.category).sum) 8 = true) (hf : k + mc ≤ R.cells ∧ n + ms ≤ R.slots) (hdg : decode cc pc = .ok (.invokestatic idx, 3))
    (kk : ∀ (v : Option Value) (w : va_W), post v w → jJ p l e R s m args below meth c Q D A nL (k + mc) (n + ms) (wr ++ w) (pc + 3) lv (v.toList ++ rest)) : jJ p l e R s m args below meth c Q D A nL k n ws pc lv st := by
  obtain ⟨k1, k2, k3, k4, k5⟩ := jok_spec hok
  refine j_go F (aa := As.toArray) isC isR hC hR k3 k4 k5 (fun H locs ls hPc hDc hP hS hF hl => ?_) kk
  exact va_runS (Ts := gw) ⟨F.1, F.2.1, F.2.2.1, F.2.2.2.1, F.2.2.2.2.1⟩ (hM H.size) (jLS.cw F L ⟨k1, k2⟩) ⟨jPc_blind, fun U hU hW => ⟨rfl, by rw [hU], by rw [hU]; exact hPc, va_K.moved hW.alike F.2.2.2.2.2.1, hDc, trivial⟩⟩ rfl hlen hl.1 hst (lv_room (Nat.le_of_ble_eq_true hcat)) hdg hf
end JR
-- ---- a body, from its entry
theorem jM_of (l : Launch) {y : MethodName} {b : ByteArray} {mL fr lo mc ms : Nat} {ret : Option FieldType} {D : va_G} {ay : Nat → ClassId} {av : List Value} {wc : va_W} {post : Option Value → va_W → Prop} (hy : plainName y.cls = true) (lv0 : List (Nat × Value)) (hlv : lv_args 0 av = lv0) (hlen : Nat.ble (lg_sl av).length mL = true)
    (body : ∀ (p : Program) (e : Env) (s : State) (m : MethodId) (args : Array Value) (below : List Frame) (meth : Method) (c : Code) (A : Nat → Prop), jF p s m args meth c b mL y.cls ret D ay A → jJ p l e ({ frames := fr, cells := mc, slots := ms, locals := lo }) s m args below meth c (MQ below (jQ post D ay A) args s mc ms A) D A mL 0 0 wc 0 lv0 []) : jM l y (jws y b mL ret) fr lo mc ms D ay av wc post := by
  intro sz
  refine Met.ofW (cc := b) (maxL := mL) (ret := ret) hy rfl ?_
  intro p e s m args below meth c s₁ B hml hv
  obtain ⟨rfl, hsz, hP, hK, hD0, -⟩ := hv
  subst hsz
  have hD := hD0.self (sz := s.heap.size)
  have hts := atoms_spec (ws := jws y b mL ret) B.pre
  have hown := findClass_of_methodNamed B.named
  rw [lg_entry_eq]
  have hl := lv_entry av (n := mL) (Nat.le_of_ble_eq_true hlen)
  rw [hlv] at hl
  exact body p e s m _ below meth c _ ⟨B.exec, B.bytes, hml, hown, fun w h => hts w (List.mem_cons_of_mem _ h), hK, fun q h => Or.inr h, B.notSynchronized, B.returns⟩ s.heap [] _ hP hD va_S.rf hl
end
section
/-! ===== numbers and rows ===== -/
/-- the first place below n that holds the key; n if there is none -/
def fx (f : Nat → Int32) (key : Int32) : Nat → Nat
  | 0 => 0
  | n + 1 => if fx f key n < n then fx f key n else if f n = key then n else n + 1
theorem fx_le (f : Nat → Int32) (key : Int32) : ∀ n, fx f key n ≤ n
  | 0 => Nat.le_refl 0
  | n + 1 => by
    have ih := fx_le f key n
    show (if fx f key n < n then fx f key n else if f n = key then n else n + 1) ≤ n + 1
    split
    · omega
    · split <;> omega
theorem fx_no {f : Nat → Int32} {key : Int32} : ∀ {n k : Nat}, k < fx f key n → f k ≠ key
  | 0, k, h => absurd h (Nat.not_lt_zero k)
  | n + 1, k, h => by
    have ih := @fx_no f key n k
    have hle := fx_le f key n
    have h : k < (if fx f key n < n then fx f key n else if f n = key then n else n + 1) := h
    split at h
    · exact ih h
    · split at h
      · exact ih (by omega)
      · next h1 h2 =>
        by_cases hk : k = n
        · rw [hk]; exact h2
        · exact ih (by omega)
theorem fx_yes {f : Nat → Int32} {key : Int32} : ∀ {n : Nat}, fx f key n < n → f (fx f key n) = key
  | 0, h => absurd h (Nat.not_lt_zero _)
  | n + 1, h => by
    have ih := @fx_yes f key n
    have h : (if fx f key n < n then fx f key n else if f n = key then n else n + 1) < n + 1 := h
    show f (if fx f key n < n then fx f key n else if f n = key then n else n + 1) = key
    split at h
    · next h1 => rw [if_pos h1]; exact ih h1
    · next h1 =>
      split at h
      · next h2 => rw [if_neg h1, if_pos h2]; exact h2
      · omega
theorem fx_at {f : Nat → Int32} {key : Int32} {n i : Nat} (hi : i < n) (hno : ∀ j, j < i → f j ≠ key) (hy : f i = key) : fx f key n = i := by
  rcases Nat.lt_trichotomy (fx f key n) i with h | h | h
  · exact absurd (fx_yes (Nat.lt_trans h hi)) (hno _ h)
  · exact h
  · exact absurd hy (fx_no h)
theorem fx_none {f : Nat → Int32} {key : Int32} {n : Nat} (hno : ∀ j, j < n → f j ≠ key) : fx f key n = n := by
  rcases Nat.lt_or_ge (fx f key n) n with h | h
  · exact absurd (fx_yes h) (hno _ h)
  · exact Nat.le_antisymm (fx_le f key n) h
theorem fx_congr {f g : Nat → Int32} {key : Int32} {n : Nat} (h : ∀ j, j < n → f j = g j) : fx f key n = fx g key n := by
  rcases Nat.lt_or_ge (fx g key n) n with h1 | h1
  · exact fx_at h1 (fun j hj => by rw [h j (by omega)]; exact fx_no hj) (by rw [h _ h1]; exact fx_yes h1)
  · have h2 := fx_le g key n
    rw [show fx g key n = n by omega]
    exact fx_none fun j hj => by rw [h j hj]; exact fx_no (f := g) (n := n) (by omega)
/-- the place as the programs answer it -/
def fxI (f : Nat → Int32) (key : Int32) (n : Nat) : Int32 := if fx f key n < n then nI (fx f key n) else -1
/-- the row without its place p, of n places -/
def shf (f : Nat → Int32) (p n : Nat) : Nat → Int32 := fun j => if p ≤ j ∧ j + 1 < n then f (j + 1) else f j
theorem shf_0 (f : Nat → Int32) (p : Nat) : shf f p (p + 1) = f := by
  funext j
  show (if p ≤ j ∧ j + 1 < p + 1 then f (j + 1) else f j) = f j
  rw [if_neg (by omega)]
theorem shf_step {f : Nat → Int32} {p i : Nat} (h : p ≤ i) : upd (shf f p (i + 1)) i (shf f p (i + 1) (i + 1)) = shf f p (i + 2) := by
  funext j
  show (if j = i then (if p ≤ i + 1 ∧ i + 1 + 1 < i + 1 then f (i + 1 + 1) else f (i + 1)) else (if p ≤ j ∧ j + 1 < i + 1 then f (j + 1) else f j)) = (if p ≤ j ∧ j + 1 < i + 2 then f (j + 1) else f j)
  rw [if_neg (show ¬ (p ≤ i + 1 ∧ i + 1 + 1 < i + 1) by omega)]
  by_cases hj : j = i
  · rw [if_pos hj, if_pos (by omega), hj]
  · rw [if_neg hj]
    by_cases h2 : p ≤ j ∧ j + 1 < i + 1
    · rw [if_pos h2, if_pos (by omega)]
    · rw [if_neg h2, if_neg (by omega)]
theorem nI_m1 {n : Nat} (h : n < 2 ^ 31) : ¬ nI n = -1 := fun e => by
  have h1 := nI_toInt h
  rw [e] at h1
  have h2 : (-1 : Int32).toInt = -1 := rfl
  omega
theorem nI_inj {a b : Nat} (ha : a < 2 ^ 31) (hb : b < 2 ^ 31) (h : nI a = nI b) : a = b := (nI_eq ha hb).mp h
theorem absurd_lit {P : Prop} {a : Prop} [Decidable a] (h : a) (hd : decide a = false) : P := absurd h (of_decide_eq_false hd)
end
section
/-- a use of a key: out of its place, to the end -/
def usN (f : Nat → Int32) (n : Nat) (key : Int32) : Nat := if fx f key n < n then n else n + 1
def usF (f : Nat → Int32) (n : Nat) (key : Int32) : Nat → Int32 := if fx f key n < n then upd (shf f (fx f key n) n) (n - 1) key else upd f n key
set_option maxHeartbeats 4000000 in
set_option maxRecDepth 100000 in
theorem c_X8_length (l : Launch) (D : va_G) (ay : Nat → ClassId) (o : Nat) (k : Nat) (n : Nat) (f : Nat → Int32) : jM l yX8_length (jws yX8_length cX8_length 1 (some .int)) 0 0 0 0 D ay [.ref o] [(o, .inr (8, [.ref k, .int (nI n)])), (k, .inl (ay 0, 100, .inl f))] (fun v w => v = some (.int (nI n)) ∧ w = [(o, .inr (8, [.ref k, .int (nI n)])), (k, .inl (ay 0, 100, .inl f))]) := by
  refine jM_of l (by decide) [(0, .ref o)] rfl rfl (fun p9 e9 s9 m9 a9 b9 me9 c9 A9 F => ?_)
  refine j_aload_n F 0 dX8_length_0 rfl ?_
  refine j_getf F fX8_15 0 rfl rfl dX8_length_1 ?_
  exact j_iret F ⟨rfl, rfl⟩ dX8_length_4 (Nat.le_of_ble_eq_true rfl) (Nat.le_of_ble_eq_true rfl)

set_option maxHeartbeats 4000000 in
set_option maxRecDepth 100000 in
theorem c_X8_keyIn (l : Launch) (D : va_G) (ay : Nat → ClassId) (o : Nat) (k : Nat) (n : Nat) (f : Nat → Int32) (j : Nat) (hn : n ≤ 100) (hj : j < n) : jM l yX8_keyIn (jws yX8_keyIn cX8_keyIn 2 (some .int)) 0 0 0 0 D ay [.ref o, .int (nI j)] [(o, .inr (8, [.ref k, .int (nI n)])), (k, .inl (ay 0, 100, .inl f))] (fun v w => v = some (.int (f j)) ∧ w = [(o, .inr (8, [.ref k, .int (nI n)])), (k, .inl (ay 0, 100, .inl f))]) := by
  refine jM_of l (by decide) [(0, .ref o), (1, .int (nI j))] rfl rfl (fun p9 e9 s9 m9 a9 b9 me9 c9 A9 F => ?_)
  refine j_iload_n F 1 dX8_keyIn_0 rfl ?_
  refine j_if_lt F 21 dX8_keyIn_1 (by decide) (fun c_1 => absurd c_1 (nI_pos (by omega))) (fun c_1 => ?_)
  refine j_iload_n F 1 dX8_keyIn_4 rfl ?_
  refine j_aload_n F 0 dX8_keyIn_5 rfl ?_
  refine j_getf F fX8_15 0 rfl rfl dX8_keyIn_6 ?_
  refine j_icmp_ge F 21 dX8_keyIn_9 (by decide) (fun c_9 => absurd c_9 (nI_ge hj (by omega))) (fun c_9 => ?_)
  refine j_aload_n F 0 dX8_keyIn_12 rfl ?_
  refine j_getf F fX8_9 0 rfl rfl dX8_keyIn_13 ?_
  refine j_iload_n F 1 dX8_keyIn_16 rfl ?_
  refine j_iald F 1 j rfl rfl (by omega) (Nat.le_of_ble_eq_true rfl) dX8_keyIn_17 ?_
  refine j_goto F 22 dX8_keyIn_18 (by decide) ?_
  exact j_iret F ⟨rfl, rfl⟩ dX8_keyIn_22 (Nat.le_of_ble_eq_true rfl) (Nat.le_of_ble_eq_true rfl)

set_option maxHeartbeats 4000000 in
set_option maxRecDepth 100000 in
theorem c_X8_find (l : Launch) (D : va_G) (ay : Nat → ClassId) (o : Nat) (k : Nat) (n : Nat) (f : Nat → Int32) (key : Int32) (hn : n ≤ 100) : jM l yX8_find (jws yX8_find cX8_find 3 (some .int)) 0 0 0 0 D ay [.ref o, .int key] [(o, .inr (8, [.ref k, .int (nI n)])), (k, .inl (ay 0, 100, .inl f))] (fun v w => v = some (.int (fxI f key n)) ∧ w = [(o, .inr (8, [.ref k, .int (nI n)])), (k, .inl (ay 0, 100, .inl f))]) := by
  refine jM_of l (by decide) [(0, .ref o), (1, .int key)] rfl rfl (fun p9 e9 s9 m9 a9 b9 me9 c9 A9 F => ?_)
  refine j_iconst F (v := 0) dX8_find_0 (by decide) ?_
  refine j_istore_n F 2 [(2, .int 0), (0, .ref o), (1, .int key)] dX8_find_1 rfl (by decide) rfl ?_
  refine j_loop (σ := Nat) (fun i => i ≤ n ∧ ∀ j, j < i → f j ≠ key) (fun i => n - i) (fun i => [(2, .int (nI i)), (0, .ref o), (1, .int key)]) (fun _ => [(o, .inr (8, [.ref k, .int (nI n)])), (k, .inl (ay 0, 100, .inl f))]) 0 ⟨Nat.zero_le _, fun j h => absurd h (Nat.not_lt_zero j)⟩ rfl rfl (fun i hI ih => ?_)
  obtain ⟨hi, hno⟩ := hI
  refine j_iload_n F 0 dX8_find_2 rfl ?_
  refine j_aload_n F 1 dX8_find_3 rfl ?_
  refine j_getf F fX8_15 0 rfl rfl dX8_find_4 ?_
  refine j_icmp_ge F 28 dX8_find_7 (by decide) (fun c_7 => ?_) (fun c_7 => ?_)
  · skip
    have n_7 := (n_le n i rfl rfl (by omega) (by omega)).mp c_7
    refine j_iconst F (v := (-1)) dX8_find_28 (by decide) ?_
    exact j_iret F ⟨by show some (Value.int (-1)) = _; rw [fxI, fx_none (fun j hj => hno j (by omega)), if_neg (by omega)], rfl⟩ dX8_find_29 (Nat.le_of_ble_eq_true rfl) (Nat.le_of_ble_eq_true rfl)
  · skip
    have n_7 := mt (n_le n i rfl rfl (by omega) (by omega)).mpr c_7
    refine j_aload_n F 1 dX8_find_10 rfl ?_
    refine j_getf F fX8_9 0 rfl rfl dX8_find_11 ?_
    refine j_iload_n F 0 dX8_find_14 rfl ?_
    refine j_iald F 1 i rfl rfl (by omega) (Nat.le_of_ble_eq_true rfl) dX8_find_15 ?_
    refine j_iload_n F 2 dX8_find_16 rfl ?_
    refine j_icmp_ne F 22 dX8_find_17 (by decide) (fun c_17 => ?_) (fun c_17 => ?_)
    · skip
      refine j_iinc F 0 (nI (i + 1)) [(2, .int (nI (i + 1))), (0, .ref o), (1, .int key)] dX8_find_22 rfl (nI_1 _) (by decide) rfl ?_
      refine j_goto F 2 dX8_find_25 (by decide) ?_
      exact ih (i + 1) ⟨by omega, fun j hj => by
          by_cases h : j = i
          · rw [h]; exact c_17
          · exact hno j (by omega)⟩ (by show n - (i + 1) < n - i; omega)
    · skip
      refine j_iload_n F 0 dX8_find_20 rfl ?_
      exact j_iret F ⟨by show some (Value.int (nI i)) = _; rw [fxI, fx_at (show i < n by omega) hno c_17, if_pos (by omega)], rfl⟩ dX8_find_21 (Nat.le_of_ble_eq_true rfl) (Nat.le_of_ble_eq_true rfl)

set_option maxHeartbeats 4000000 in
set_option maxRecDepth 100000 in
theorem c_X8_holds (l : Launch) (D : va_G) (ay : Nat → ClassId) (o : Nat) (k : Nat) (n : Nat) (f : Nat → Int32) (key : Int32) (hn : n ≤ 100) : jM l yX8_holds (jws yX8_holds cX8_holds 2 (some .boolean)) 1 22 0 0 D ay [.ref o, .int key] [(o, .inr (8, [.ref k, .int (nI n)])), (k, .inl (ay 0, 100, .inl f))] (fun v w => v = some (.int (if fx f key n < n then 1 else 0)) ∧ w = [(o, .inr (8, [.ref k, .int (nI n)])), (k, .inl (ay 0, 100, .inl f))]) := by
  refine jM_of l (by decide) [(0, .ref o), (1, .int key)] rfl rfl (fun p9 e9 s9 m9 a9 b9 me9 c9 A9 F => ?_)
  refine j_aload_n F 0 dX8_holds_0 rfl ?_
  refine j_iload_n F 1 dX8_holds_1 rfl ?_
  refine j_callV F kX8_19 (As := [.int key]) (rest := []) (c_X8_find l D ay o k n f key (by first | assumption | omega)) 0 [0, 1] [] [] rfl rfl rfl rfl rfl rfl rfl ⟨Nat.le_of_ble_eq_true rfl, Nat.le_of_ble_eq_true rfl⟩ dX8_holds_2 (fun v w hw => ?_)
  obtain ⟨rfl, rfl⟩ := hw
  refine j_perm [0, 1] [(o, .inr (8, [.ref k, .int (nI n)])), (k, .inl (ay 0, 100, .inl f))] rfl rfl ?_
  rcases Nat.lt_or_ge (fx f key n) n with hq | hq
  · skip
    refine j_top (nI (fx f key n)) (if_pos hq) ?_
    refine j_iconst F (v := (-1)) dX8_holds_5 (by decide) ?_
    refine j_icmp_eq F 13 dX8_holds_6 (by decide) (fun c_6 => absurd c_6 (nI_m1 (by omega))) (fun c_6 => ?_)
    refine j_iconst F (v := 1) dX8_holds_9 (by decide) ?_
    refine j_goto F 14 dX8_holds_10 (by decide) ?_
    exact j_zret F (Or.inr rfl) ⟨by rw [if_pos hq], rfl⟩ dX8_holds_14 (Nat.le_of_ble_eq_true rfl) (Nat.le_of_ble_eq_true rfl)
  · skip
    refine j_top (-1) (if_neg (by omega)) ?_
    refine j_iconst F (v := (-1)) dX8_holds_5 (by decide) ?_
    refine j_icmp_eq F 13 dX8_holds_6 (by decide) (fun c_6 => ?_) (fun c_6 => absurd rfl c_6)
    refine j_iconst F (v := 0) dX8_holds_13 (by decide) ?_
    exact j_zret F (Or.inl rfl) ⟨by rw [if_neg (by omega)], rfl⟩ dX8_holds_14 (Nat.le_of_ble_eq_true rfl) (Nat.le_of_ble_eq_true rfl)

set_option maxHeartbeats 4000000 in
set_option maxRecDepth 100000 in
theorem c_X8_dropIn (l : Launch) (D : va_G) (ay : Nat → ClassId) (o : Nat) (k : Nat) (n : Nat) (f : Nat → Int32) (p : Nat) (hn : n ≤ 100) (hp : p < n) : jM l yX8_dropIn (jws yX8_dropIn cX8_dropIn 3 none) 0 0 0 0 D ay [.ref o, .int (nI p)] [(o, .inr (8, [.ref k, .int (nI n)])), (k, .inl (ay 0, 100, .inl f))] (fun v w => v = none ∧ w = [(o, .inr (8, [.ref k, .int (nI (n - 1))])), (k, .inl (ay 0, 100, .inl (shf f p n)))]) := by
  refine jM_of l (by decide) [(0, .ref o), (1, .int (nI p))] rfl rfl (fun p9 e9 s9 m9 a9 b9 me9 c9 A9 F => ?_)
  refine j_iload_n F 1 dX8_dropIn_0 rfl ?_
  refine j_if_lt F 12 dX8_dropIn_1 (by decide) (fun c_1 => absurd c_1 (nI_pos (by omega))) (fun c_1 => ?_)
  refine j_iload_n F 1 dX8_dropIn_4 rfl ?_
  refine j_aload_n F 0 dX8_dropIn_5 rfl ?_
  refine j_getf F fX8_15 0 rfl rfl dX8_dropIn_6 ?_
  refine j_icmp_lt F 13 dX8_dropIn_9 (by decide) (fun c_9 => ?_) (fun c_9 => absurd (nI_lt hp (by omega)) c_9)
  refine j_aload_n F 0 dX8_dropIn_13 rfl ?_
  refine j_dup F dX8_dropIn_14 rfl ?_
  refine j_getf F fX8_15 0 rfl rfl dX8_dropIn_15 ?_
  refine j_iconst F (v := 1) dX8_dropIn_18 (by decide) ?_
  refine j_isub F dX8_dropIn_19 ?_
  refine j_top (nI (n - 1)) (pk_sub (a := n) (b := 1) (by omega)) ?_
  refine j_putf F fX8_15 0 [(o, .inr (8, [.ref k, .int (nI (n - 1))])), (k, .inl (ay 0, 100, .inl f))] rfl rfl rfl rfl rfl (Nat.le_of_ble_eq_true rfl) dX8_dropIn_20 ?_
  refine j_iload_n F 1 dX8_dropIn_23 rfl ?_
  refine j_istore_n F 2 [(2, .int (nI p)), (0, .ref o), (1, .int (nI p))] dX8_dropIn_24 rfl (by decide) rfl ?_
  refine j_loop (σ := Nat) (fun i => p ≤ i ∧ i + 1 ≤ n) (fun i => n - i) (fun i => [(2, .int (nI i)), (0, .ref o), (1, .int (nI p))]) (fun i => [(o, .inr (8, [.ref k, .int (nI (n - 1))])), (k, .inl (ay 0, 100, .inl (shf f p (i + 1))))]) p ⟨Nat.le_refl _, by omega⟩ rfl (by rw [shf_0]) (fun i hI ih => ?_)
  obtain ⟨hi, hi2⟩ := hI
  refine j_iload_n F 0 dX8_dropIn_25 rfl ?_
  refine j_aload_n F 1 dX8_dropIn_26 rfl ?_
  refine j_getf F fX8_15 0 rfl rfl dX8_dropIn_27 ?_
  refine j_icmp_ge F 53 dX8_dropIn_30 (by decide) (fun c_30 => ?_) (fun c_30 => ?_)
  · skip
    have n_30 := (n_le (n - 1) i rfl rfl (by omega) (by omega)).mp c_30
    exact j_vret F ⟨rfl, by rw [show i + 1 = n by omega]⟩ dX8_dropIn_53 (Nat.le_of_ble_eq_true rfl) (Nat.le_of_ble_eq_true rfl)
  · skip
    have n_30 := mt (n_le (n - 1) i rfl rfl (by omega) (by omega)).mpr c_30
    refine j_aload_n F 1 dX8_dropIn_33 rfl ?_
    refine j_getf F fX8_9 0 rfl rfl dX8_dropIn_34 ?_
    refine j_iload_n F 0 dX8_dropIn_37 rfl ?_
    refine j_aload_n F 1 dX8_dropIn_38 rfl ?_
    refine j_getf F fX8_9 0 rfl rfl dX8_dropIn_39 ?_
    refine j_iload_n F 0 dX8_dropIn_42 rfl ?_
    refine j_iconst F (v := 1) dX8_dropIn_43 (by decide) ?_
    refine j_iadd F dX8_dropIn_44 ?_
    refine j_top (nI (i + 1)) (nI_add _ _) ?_
    refine j_iald F 1 (i + 1) rfl rfl (by omega) (Nat.le_of_ble_eq_true rfl) dX8_dropIn_45 ?_
    refine j_iast F 1 [(o, .inr (8, [.ref k, .int (nI (n - 1))])), (k, .inl (ay 0, 100, .inl (upd (shf f p (i + 1)) i ((shf f p (i + 1)) (i + 1)))))] i rfl rfl (by omega) (Nat.le_of_ble_eq_true rfl) rfl dX8_dropIn_46 ?_
    refine j_ws [(o, .inr (8, [.ref k, .int (nI (n - 1))])), (k, .inl (ay 0, 100, .inl (shf f p (i + 2))))] (by rw [shf_step hi]) ?_
    refine j_iinc F 0 (nI (i + 1)) [(2, .int (nI (i + 1))), (0, .ref o), (1, .int (nI p))] dX8_dropIn_47 rfl (nI_1 _) (by decide) rfl ?_
    refine j_goto F 25 dX8_dropIn_50 (by decide) ?_
    exact ih (i + 1) ⟨by omega, by omega⟩ (by show n - (i + 1) < n - i; omega)

set_option maxHeartbeats 4000000 in
set_option maxRecDepth 100000 in
theorem c_X8_dropIn_none (l : Launch) (D : va_G) (ay : Nat → ClassId) (o : Nat) (k : Nat) (n : Nat) (f : Nat → Int32) : jM l yX8_dropIn (jws yX8_dropIn cX8_dropIn 3 none) 0 0 0 0 D ay [.ref o, .int (-1)] [(o, .inr (8, [.ref k, .int (nI n)])), (k, .inl (ay 0, 100, .inl f))] (fun v w => v = none ∧ w = [(o, .inr (8, [.ref k, .int (nI n)])), (k, .inl (ay 0, 100, .inl f))]) := by
  refine jM_of l (by decide) [(0, .ref o), (1, .int (-1))] rfl rfl (fun p9 e9 s9 m9 a9 b9 me9 c9 A9 F => ?_)
  refine j_iload_n F 1 dX8_dropIn_0 rfl ?_
  refine j_if_lt F 12 dX8_dropIn_1 (by decide) (fun c_1 => ?_) (fun c_1 => absurd (by decide) c_1)
  exact j_vret F ⟨rfl, rfl⟩ dX8_dropIn_12 (Nat.le_of_ble_eq_true rfl) (Nat.le_of_ble_eq_true rfl)

set_option maxHeartbeats 4000000 in
set_option maxRecDepth 100000 in
theorem c_X8_dropAll (l : Launch) (D : va_G) (ay : Nat → ClassId) (o : Nat) (k : Nat) (n : Nat) (f : Nat → Int32) : jM l yX8_dropAll (jws yX8_dropAll cX8_dropAll 1 none) 0 0 0 0 D ay [.ref o] [(o, .inr (8, [.ref k, .int (nI n)])), (k, .inl (ay 0, 100, .inl f))] (fun v w => v = none ∧ w = [(o, .inr (8, [.ref k, .int (nI 0)])), (k, .inl (ay 0, 100, .inl f))]) := by
  refine jM_of l (by decide) [(0, .ref o)] rfl rfl (fun p9 e9 s9 m9 a9 b9 me9 c9 A9 F => ?_)
  refine j_aload_n F 0 dX8_dropAll_0 rfl ?_
  refine j_iconst F (v := 0) dX8_dropAll_1 (by decide) ?_
  refine j_putf F fX8_15 0 [(o, .inr (8, [.ref k, .int 0])), (k, .inl (ay 0, 100, .inl f))] rfl rfl rfl rfl rfl (Nat.le_of_ble_eq_true rfl) dX8_dropAll_2 ?_
  exact j_vret F ⟨rfl, rfl⟩ dX8_dropAll_5 (Nat.le_of_ble_eq_true rfl) (Nat.le_of_ble_eq_true rfl)

set_option maxHeartbeats 4000000 in
set_option maxRecDepth 100000 in
theorem c_X8_use (l : Launch) (D : va_G) (ay : Nat → ClassId) (o : Nat) (k : Nat) (n : Nat) (f : Nat → Int32) (key : Int32) (hn : n ≤ 100) (hq : fx f key n < n ∨ n < 100) : jM l yX8_use (jws yX8_use cX8_use 3 (some .boolean)) 1 22 0 0 D ay [.ref o, .int key] [(o, .inr (8, [.ref k, .int (nI n)])), (k, .inl (ay 0, 100, .inl f))] (fun v w => v = some (.int (if fx f key n < n then 1 else 0)) ∧ w = [(o, .inr (8, [.ref k, .int (nI (usN f n key))])), (k, .inl (ay 0, 100, .inl (usF f n key)))]) := by
  refine jM_of l (by decide) [(0, .ref o), (1, .int key)] rfl rfl (fun p9 e9 s9 m9 a9 b9 me9 c9 A9 F => ?_)
  refine j_aload_n F 0 dX8_use_0 rfl ?_
  refine j_iload_n F 1 dX8_use_1 rfl ?_
  refine j_callV F kX8_19 (As := [.int key]) (rest := []) (c_X8_find l D ay o k n f key (by first | assumption | omega)) 0 [0, 1] [] [] rfl rfl rfl rfl rfl rfl rfl ⟨Nat.le_of_ble_eq_true rfl, Nat.le_of_ble_eq_true rfl⟩ dX8_use_2 (fun v w hw => ?_)
  obtain ⟨rfl, rfl⟩ := hw
  refine j_perm [0, 1] [(o, .inr (8, [.ref k, .int (nI n)])), (k, .inl (ay 0, 100, .inl f))] rfl rfl ?_
  rcases Nat.lt_or_ge (fx f key n) n with hq2 | hq2
  · skip
    refine j_top (nI (fx f key n)) (if_pos hq2) ?_
    refine j_istore_n F 2 [(2, .int (nI (fx f key n))), (0, .ref o), (1, .int key)] dX8_use_5 rfl (by decide) rfl ?_
    refine j_aload_n F 1 dX8_use_6 rfl ?_
    refine j_iload_n F 0 dX8_use_7 rfl ?_
    refine j_callV F kX8_23 (As := [.int (nI (fx f key n))]) (rest := []) (c_X8_dropIn l D ay o k n f (fx f key n) hn hq2) 0 [0, 1] [] [] rfl rfl rfl rfl rfl rfl rfl ⟨Nat.le_of_ble_eq_true rfl, Nat.le_of_ble_eq_true rfl⟩ dX8_use_8 (fun v w hw => ?_)
    obtain ⟨rfl, rfl⟩ := hw
    refine j_perm [0, 1] [(o, .inr (8, [.ref k, .int (nI (n - 1))])), (k, .inl (ay 0, 100, .inl (shf f (fx f key n) n)))] rfl rfl ?_
    refine j_aload_n F 1 dX8_use_11 rfl ?_
    refine j_getf F fX8_15 0 rfl rfl dX8_use_12 ?_
    refine j_bipush F (v := 100) dX8_use_15 (by decide) ?_
    refine j_icmp_ge F 40 dX8_use_17 (by decide) (fun c_17 => absurd c_17 (nI_ge (b := 100) (by omega) (by decide))) (fun c_17 => ?_)
    refine j_aload_n F 1 dX8_use_20 rfl ?_
    refine j_getf F fX8_9 0 rfl rfl dX8_use_21 ?_
    refine j_aload_n F 1 dX8_use_24 rfl ?_
    refine j_getf F fX8_15 0 rfl rfl dX8_use_25 ?_
    refine j_iload_n F 2 dX8_use_28 rfl ?_
    refine j_iast F 1 [(o, .inr (8, [.ref k, .int (nI (n - 1))])), (k, .inl (ay 0, 100, .inl (upd (shf f (fx f key n) n) (n - 1) key)))] (n - 1) rfl rfl (by omega) (Nat.le_of_ble_eq_true rfl) rfl dX8_use_29 ?_
    refine j_aload_n F 1 dX8_use_30 rfl ?_
    refine j_dup F dX8_use_31 rfl ?_
    refine j_getf F fX8_15 0 rfl rfl dX8_use_32 ?_
    refine j_iconst F (v := 1) dX8_use_35 (by decide) ?_
    refine j_iadd F dX8_use_36 ?_
    refine j_top (nI n) (by rw [nI_1, show n - 1 + 1 = n by omega]) ?_
    refine j_putf F fX8_15 0 [(o, .inr (8, [.ref k, .int (nI n)])), (k, .inl (ay 0, 100, .inl (upd (shf f (fx f key n) n) (n - 1) key)))] rfl rfl rfl rfl rfl (Nat.le_of_ble_eq_true rfl) dX8_use_37 ?_
    refine j_iload_n F 0 dX8_use_40 rfl ?_
    refine j_iconst F (v := (-1)) dX8_use_41 (by decide) ?_
    refine j_icmp_eq F 49 dX8_use_42 (by decide) (fun c_42 => absurd c_42 (nI_m1 (by omega))) (fun c_42 => ?_)
    refine j_iconst F (v := 1) dX8_use_45 (by decide) ?_
    refine j_goto F 50 dX8_use_46 (by decide) ?_
    exact j_zret F (Or.inr rfl) ⟨by rw [if_pos hq2], by simp only [usN, usF, if_pos hq2]⟩ dX8_use_50 (Nat.le_of_ble_eq_true rfl) (Nat.le_of_ble_eq_true rfl)
  · skip
    refine j_top (-1) (if_neg (by omega)) ?_
    refine j_istore_n F 2 [(2, .int (-1)), (0, .ref o), (1, .int key)] dX8_use_5 rfl (by decide) rfl ?_
    refine j_aload_n F 1 dX8_use_6 rfl ?_
    refine j_iload_n F 0 dX8_use_7 rfl ?_
    refine j_callV F kX8_23 (As := [.int (-1)]) (rest := []) (c_X8_dropIn_none l D ay o k n f) 0 [0, 1] [] [] rfl rfl rfl rfl rfl rfl rfl ⟨Nat.le_of_ble_eq_true rfl, Nat.le_of_ble_eq_true rfl⟩ dX8_use_8 (fun v w hw => ?_)
    obtain ⟨rfl, rfl⟩ := hw
    refine j_perm [0, 1] [(o, .inr (8, [.ref k, .int (nI n)])), (k, .inl (ay 0, 100, .inl f))] rfl rfl ?_
    refine j_aload_n F 1 dX8_use_11 rfl ?_
    refine j_getf F fX8_15 0 rfl rfl dX8_use_12 ?_
    refine j_bipush F (v := 100) dX8_use_15 (by decide) ?_
    refine j_icmp_ge F 40 dX8_use_17 (by decide) (fun c_17 => absurd c_17 (nI_ge (b := 100) (by omega) (by decide))) (fun c_17 => ?_)
    refine j_aload_n F 1 dX8_use_20 rfl ?_
    refine j_getf F fX8_9 0 rfl rfl dX8_use_21 ?_
    refine j_aload_n F 1 dX8_use_24 rfl ?_
    refine j_getf F fX8_15 0 rfl rfl dX8_use_25 ?_
    refine j_iload_n F 2 dX8_use_28 rfl ?_
    refine j_iast F 1 [(o, .inr (8, [.ref k, .int (nI n)])), (k, .inl (ay 0, 100, .inl (upd f n key)))] n rfl rfl (by omega) (Nat.le_of_ble_eq_true rfl) rfl dX8_use_29 ?_
    refine j_aload_n F 1 dX8_use_30 rfl ?_
    refine j_dup F dX8_use_31 rfl ?_
    refine j_getf F fX8_15 0 rfl rfl dX8_use_32 ?_
    refine j_iconst F (v := 1) dX8_use_35 (by decide) ?_
    refine j_iadd F dX8_use_36 ?_
    refine j_top (nI (n + 1)) (nI_add _ _) ?_
    refine j_putf F fX8_15 0 [(o, .inr (8, [.ref k, .int (nI (n + 1))])), (k, .inl (ay 0, 100, .inl (upd f n key)))] rfl rfl rfl rfl rfl (Nat.le_of_ble_eq_true rfl) dX8_use_37 ?_
    refine j_iload_n F 0 dX8_use_40 rfl ?_
    refine j_iconst F (v := (-1)) dX8_use_41 (by decide) ?_
    refine j_icmp_eq F 49 dX8_use_42 (by decide) (fun c_42 => ?_) (fun c_42 => absurd rfl c_42)
    refine j_iconst F (v := 0) dX8_use_49 (by decide) ?_
    exact j_zret F (Or.inl rfl) ⟨by rw [if_neg (by omega)], by simp only [usN, usF, if_neg (show ¬ fx f key n < n by omega)]⟩ dX8_use_50 (Nat.le_of_ble_eq_true rfl) (Nat.le_of_ble_eq_true rfl)

set_option maxHeartbeats 4000000 in
set_option maxRecDepth 100000 in
theorem c_X8_dropBeyond (l : Launch) (D : va_G) (ay : Nat → ClassId) (o : Nat) (k : Nat) (n : Nat) (f : Nat → Int32) (b : Nat) (hn : n ≤ 100) (hb : b < 2 ^ 31) : jM l yX8_dropBeyond (jws yX8_dropBeyond cX8_dropBeyond 3 (some .int)) 1 22 0 0 D ay [.ref o, .int (nI b)] [(o, .inr (8, [.ref k, .int (nI n)])), (k, .inl (ay 0, 100, .inl f))] (fun v w => v = some (.int (if n ≤ b then -1 else f 0)) ∧ w = [(o, .inr (8, [.ref k, .int (nI (if n ≤ b then n else n - 1))])), (k, .inl (ay 0, 100, .inl (if n ≤ b then f else shf f 0 n)))]) := by
  refine jM_of l (by decide) [(0, .ref o), (1, .int (nI b))] rfl rfl (fun p9 e9 s9 m9 a9 b9 me9 c9 A9 F => ?_)
  refine j_aload_n F 0 dX8_dropBeyond_0 rfl ?_
  refine j_getf F fX8_15 0 rfl rfl dX8_dropBeyond_1 ?_
  refine j_iload_n F 1 dX8_dropBeyond_4 rfl ?_
  refine j_icmp_gt F 10 dX8_dropBeyond_5 (by decide) (fun c_5 => ?_) (fun c_5 => ?_)
  · skip
    have n_5 := (n_lt b n rfl rfl (by omega) (by omega)).mp c_5
    refine j_aload_n F 0 dX8_dropBeyond_10 rfl ?_
    refine j_iconst F (v := 0) dX8_dropBeyond_11 (by decide) ?_
    refine j_callV F kX8_27 (As := [.int 0]) (rest := []) (c_X8_keyIn l D ay o k n f 0 (by first | assumption | omega) (by first | assumption | omega)) 0 [0, 1] [] [] rfl rfl rfl rfl rfl rfl rfl ⟨Nat.le_of_ble_eq_true rfl, Nat.le_of_ble_eq_true rfl⟩ dX8_dropBeyond_12 (fun v w hw => ?_)
    obtain ⟨rfl, rfl⟩ := hw
    refine j_perm [0, 1] [(o, .inr (8, [.ref k, .int (nI n)])), (k, .inl (ay 0, 100, .inl f))] rfl rfl ?_
    refine j_istore_n F 2 [(2, .int (f 0)), (0, .ref o), (1, .int (nI b))] dX8_dropBeyond_15 rfl (by decide) rfl ?_
    refine j_aload_n F 1 dX8_dropBeyond_16 rfl ?_
    refine j_iconst F (v := 0) dX8_dropBeyond_17 (by decide) ?_
    refine j_callV F kX8_23 (As := [.int 0]) (rest := []) (c_X8_dropIn l D ay o k n f 0 (by first | assumption | omega) (by first | assumption | omega)) 0 [0, 1] [] [] rfl rfl rfl rfl rfl rfl rfl ⟨Nat.le_of_ble_eq_true rfl, Nat.le_of_ble_eq_true rfl⟩ dX8_dropBeyond_18 (fun v w hw => ?_)
    obtain ⟨rfl, rfl⟩ := hw
    refine j_perm [0, 1] [(o, .inr (8, [.ref k, .int (nI (n - 1))])), (k, .inl (ay 0, 100, .inl (shf f 0 n)))] rfl rfl ?_
    refine j_iload_n F 0 dX8_dropBeyond_21 rfl ?_
    exact j_iret F ⟨by rw [if_neg (show ¬ n ≤ b by omega)], by simp only [if_neg (show ¬ n ≤ b by omega)]⟩ dX8_dropBeyond_22 (Nat.le_of_ble_eq_true rfl) (Nat.le_of_ble_eq_true rfl)
  · skip
    have n_5 := mt (n_lt b n rfl rfl (by omega) (by omega)).mpr c_5
    refine j_iconst F (v := (-1)) dX8_dropBeyond_8 (by decide) ?_
    exact j_iret F ⟨by rw [if_pos (show n ≤ b by omega)], by simp only [if_pos (show n ≤ b by omega)]⟩ dX8_dropBeyond_9 (Nat.le_of_ble_eq_true rfl) (Nat.le_of_ble_eq_true rfl)
end
section
-- ---- Cursor
set_option maxHeartbeats 4000000 in
set_option maxRecDepth 100000 in
theorem c_X1_begin (l : Launch) (D : va_G) (ay : Nat → ClassId) (c : Nat) (bg : Int32) (pl : Int32) (gv : Int32) : jM l yX1_begin (jws yX1_begin cX1_begin 1 none) 0 0 0 0 D ay [.ref c] [(c, .inr (1, [.int bg, .int pl, .int gv]))] (fun v w => v = none ∧ w = [(c, .inr (1, [.int 1, .int 0, .int 0]))]) := by
  refine jM_of l (by decide) [(0, .ref c)] rfl rfl (fun p9 e9 s9 m9 a9 b9 me9 c9 A9 F => ?_)
  refine j_aload_n F 0 dX1_begin_0 rfl ?_
  refine j_iconst F (v := 1) dX1_begin_1 (by decide) ?_
  refine j_putf F fX1_7 0 [(c, .inr (1, [.int 1, .int pl, .int gv]))] rfl rfl rfl rfl rfl (Nat.le_of_ble_eq_true rfl) dX1_begin_2 ?_
  refine j_aload_n F 0 dX1_begin_5 rfl ?_
  refine j_iconst F (v := 0) dX1_begin_6 (by decide) ?_
  refine j_putf F fX1_13 0 [(c, .inr (1, [.int 1, .int 0, .int gv]))] rfl rfl rfl rfl rfl (Nat.le_of_ble_eq_true rfl) dX1_begin_7 ?_
  refine j_aload_n F 0 dX1_begin_10 rfl ?_
  refine j_iconst F (v := 0) dX1_begin_11 (by decide) ?_
  refine j_putf F fX1_17 0 [(c, .inr (1, [.int 1, .int 0, .int 0]))] rfl rfl rfl rfl rfl (Nat.le_of_ble_eq_true rfl) dX1_begin_12 ?_
  exact j_vret F ⟨rfl, rfl⟩ dX1_begin_15 (Nat.le_of_ble_eq_true rfl) (Nat.le_of_ble_eq_true rfl)

set_option maxHeartbeats 4000000 in
set_option maxRecDepth 100000 in
theorem c_X1_end (l : Launch) (D : va_G) (ay : Nat → ClassId) (c : Nat) (bg : Int32) (pl : Int32) (gv : Int32) : jM l yX1_end (jws yX1_end cX1_end 1 none) 0 0 0 0 D ay [.ref c] [(c, .inr (1, [.int bg, .int pl, .int gv]))] (fun v w => v = none ∧ w = [(c, .inr (1, [.int 0, .int pl, .int gv]))]) := by
  refine jM_of l (by decide) [(0, .ref c)] rfl rfl (fun p9 e9 s9 m9 a9 b9 me9 c9 A9 F => ?_)
  refine j_aload_n F 0 dX1_end_0 rfl ?_
  refine j_iconst F (v := 0) dX1_end_1 (by decide) ?_
  refine j_putf F fX1_7 0 [(c, .inr (1, [.int 0, .int pl, .int gv]))] rfl rfl rfl rfl rfl (Nat.le_of_ble_eq_true rfl) dX1_end_2 ?_
  exact j_vret F ⟨rfl, rfl⟩ dX1_end_5 (Nat.le_of_ble_eq_true rfl) (Nat.le_of_ble_eq_true rfl)

set_option maxHeartbeats 4000000 in
set_option maxRecDepth 100000 in
theorem c_X1_isBegun (l : Launch) (D : va_G) (ay : Nat → ClassId) (c : Nat) (bg : Int32) (pl : Int32) (gv : Int32) (hb : bg = 0 ∨ bg = 1) : jM l yX1_isBegun (jws yX1_isBegun cX1_isBegun 1 (some .boolean)) 0 0 0 0 D ay [.ref c] [(c, .inr (1, [.int bg, .int pl, .int gv]))] (fun v w => v = some (.int bg) ∧ w = [(c, .inr (1, [.int bg, .int pl, .int gv]))]) := by
  refine jM_of l (by decide) [(0, .ref c)] rfl rfl (fun p9 e9 s9 m9 a9 b9 me9 c9 A9 F => ?_)
  refine j_aload_n F 0 dX1_isBegun_0 rfl ?_
  refine j_getf F fX1_7 0 rfl rfl dX1_isBegun_1 ?_
  exact j_zret F hb ⟨rfl, rfl⟩ dX1_isBegun_4 (Nat.le_of_ble_eq_true rfl) (Nat.le_of_ble_eq_true rfl)

set_option maxHeartbeats 4000000 in
set_option maxRecDepth 100000 in
theorem c_X1_isAheadOf (l : Launch) (D : va_G) (ay : Nat → ClassId) (c : Nat) (bg : Int32) (pl : Int32) (gv : Int32) (len : Int32) : jM l yX1_isAheadOf (jws yX1_isAheadOf cX1_isAheadOf 2 (some .boolean)) 0 0 0 0 D ay [.ref c, .int len] [(c, .inr (1, [.int bg, .int pl, .int gv]))] (fun v w => v = some (.int (if ¬ bg = 0 ∧ ¬ len ≤ pl then 1 else 0)) ∧ w = [(c, .inr (1, [.int bg, .int pl, .int gv]))]) := by
  refine jM_of l (by decide) [(0, .ref c), (1, .int len)] rfl rfl (fun p9 e9 s9 m9 a9 b9 me9 c9 A9 F => ?_)
  refine j_aload_n F 0 dX1_isAheadOf_0 rfl ?_
  refine j_getf F fX1_7 0 rfl rfl dX1_isAheadOf_1 ?_
  refine j_if_eq F 19 dX1_isAheadOf_4 (by decide) (fun c_4 => ?_) (fun c_4 => ?_)
  · skip
    refine j_iconst F (v := 0) dX1_isAheadOf_19 (by decide) ?_
    exact j_zret F (Or.inl rfl) ⟨by rw [if_neg (fun h => h.1 c_4)], rfl⟩ dX1_isAheadOf_20 (Nat.le_of_ble_eq_true rfl) (Nat.le_of_ble_eq_true rfl)
  · skip
    refine j_aload_n F 0 dX1_isAheadOf_7 rfl ?_
    refine j_getf F fX1_13 0 rfl rfl dX1_isAheadOf_8 ?_
    refine j_iload_n F 1 dX1_isAheadOf_11 rfl ?_
    refine j_icmp_ge F 19 dX1_isAheadOf_12 (by decide) (fun c_12 => ?_) (fun c_12 => ?_)
    · skip
      refine j_iconst F (v := 0) dX1_isAheadOf_19 (by decide) ?_
      exact j_zret F (Or.inl rfl) ⟨by rw [if_neg (fun h => h.2 c_12)], rfl⟩ dX1_isAheadOf_20 (Nat.le_of_ble_eq_true rfl) (Nat.le_of_ble_eq_true rfl)
    · skip
      refine j_iconst F (v := 1) dX1_isAheadOf_15 (by decide) ?_
      refine j_goto F 20 dX1_isAheadOf_16 (by decide) ?_
      exact j_zret F (Or.inr rfl) ⟨by rw [if_pos ⟨c_4, c_12⟩], rfl⟩ dX1_isAheadOf_20 (Nat.le_of_ble_eq_true rfl) (Nat.le_of_ble_eq_true rfl)

set_option maxHeartbeats 4000000 in
set_option maxRecDepth 100000 in
theorem c_X1_canTake (l : Launch) (D : va_G) (ay : Nat → ClassId) (c : Nat) (bg : Int32) (pl : Int32) (gv : Int32) : jM l yX1_canTake (jws yX1_canTake cX1_canTake 1 (some .boolean)) 0 0 0 0 D ay [.ref c] [(c, .inr (1, [.int bg, .int pl, .int gv]))] (fun v w => v = some (.int (if ¬ bg = 0 ∧ ¬ gv = 0 then 1 else 0)) ∧ w = [(c, .inr (1, [.int bg, .int pl, .int gv]))]) := by
  refine jM_of l (by decide) [(0, .ref c)] rfl rfl (fun p9 e9 s9 m9 a9 b9 me9 c9 A9 F => ?_)
  refine j_aload_n F 0 dX1_canTake_0 rfl ?_
  refine j_getf F fX1_7 0 rfl rfl dX1_canTake_1 ?_
  refine j_if_eq F 18 dX1_canTake_4 (by decide) (fun c_4 => ?_) (fun c_4 => ?_)
  · skip
    refine j_iconst F (v := 0) dX1_canTake_18 (by decide) ?_
    exact j_zret F (Or.inl rfl) ⟨by rw [if_neg (fun h => h.1 c_4)], rfl⟩ dX1_canTake_19 (Nat.le_of_ble_eq_true rfl) (Nat.le_of_ble_eq_true rfl)
  · skip
    refine j_aload_n F 0 dX1_canTake_7 rfl ?_
    refine j_getf F fX1_17 0 rfl rfl dX1_canTake_8 ?_
    refine j_if_eq F 18 dX1_canTake_11 (by decide) (fun c_11 => ?_) (fun c_11 => ?_)
    · skip
      refine j_iconst F (v := 0) dX1_canTake_18 (by decide) ?_
      exact j_zret F (Or.inl rfl) ⟨by rw [if_neg (fun h => h.2 c_11)], rfl⟩ dX1_canTake_19 (Nat.le_of_ble_eq_true rfl) (Nat.le_of_ble_eq_true rfl)
    · skip
      refine j_iconst F (v := 1) dX1_canTake_14 (by decide) ?_
      refine j_goto F 19 dX1_canTake_15 (by decide) ?_
      exact j_zret F (Or.inr rfl) ⟨by rw [if_pos ⟨c_4, c_11⟩], rfl⟩ dX1_canTake_19 (Nat.le_of_ble_eq_true rfl) (Nat.le_of_ble_eq_true rfl)

set_option maxHeartbeats 4000000 in
set_option maxRecDepth 100000 in
theorem c_X1_advance (l : Launch) (D : va_G) (ay : Nat → ClassId) (c : Nat) (bg : Int32) (j : Nat) (gv : Int32) : jM l yX1_advance (jws yX1_advance cX1_advance 2 (some .int)) 0 0 0 0 D ay [.ref c] [(c, .inr (1, [.int bg, .int (nI j), .int gv]))] (fun v w => v = some (.int (nI j)) ∧ w = [(c, .inr (1, [.int bg, .int (nI (j + 1)), .int 1]))]) := by
  refine jM_of l (by decide) [(0, .ref c)] rfl rfl (fun p9 e9 s9 m9 a9 b9 me9 c9 A9 F => ?_)
  refine j_aload_n F 0 dX1_advance_0 rfl ?_
  refine j_getf F fX1_13 0 rfl rfl dX1_advance_1 ?_
  refine j_istore_n F 1 [(1, .int (nI j)), (0, .ref c)] dX1_advance_4 rfl (by decide) rfl ?_
  refine j_aload_n F 1 dX1_advance_5 rfl ?_
  refine j_dup F dX1_advance_6 rfl ?_
  refine j_getf F fX1_13 0 rfl rfl dX1_advance_7 ?_
  refine j_iconst F (v := 1) dX1_advance_10 (by decide) ?_
  refine j_iadd F dX1_advance_11 ?_
  refine j_top (nI (j + 1)) (nI_add _ _) ?_
  refine j_putf F fX1_13 0 [(c, .inr (1, [.int bg, .int (nI (j + 1)), .int gv]))] rfl rfl rfl rfl rfl (Nat.le_of_ble_eq_true rfl) dX1_advance_12 ?_
  refine j_aload_n F 1 dX1_advance_15 rfl ?_
  refine j_iconst F (v := 1) dX1_advance_16 (by decide) ?_
  refine j_putf F fX1_17 0 [(c, .inr (1, [.int bg, .int (nI (j + 1)), .int 1]))] rfl rfl rfl rfl rfl (Nat.le_of_ble_eq_true rfl) dX1_advance_17 ?_
  refine j_iload_n F 0 dX1_advance_20 rfl ?_
  exact j_iret F ⟨rfl, rfl⟩ dX1_advance_21 (Nat.le_of_ble_eq_true rfl) (Nat.le_of_ble_eq_true rfl)

set_option maxHeartbeats 4000000 in
set_option maxRecDepth 100000 in
theorem c_X1_stepBack (l : Launch) (D : va_G) (ay : Nat → ClassId) (c : Nat) (bg : Int32) (j : Nat) (gv : Int32) (hj : 1 ≤ j) : jM l yX1_stepBack (jws yX1_stepBack cX1_stepBack 1 (some .int)) 0 0 0 0 D ay [.ref c] [(c, .inr (1, [.int bg, .int (nI j), .int gv]))] (fun v w => v = some (.int (nI (j - 1))) ∧ w = [(c, .inr (1, [.int bg, .int (nI (j - 1)), .int 0]))]) := by
  refine jM_of l (by decide) [(0, .ref c)] rfl rfl (fun p9 e9 s9 m9 a9 b9 me9 c9 A9 F => ?_)
  refine j_aload_n F 0 dX1_stepBack_0 rfl ?_
  refine j_dup F dX1_stepBack_1 rfl ?_
  refine j_getf F fX1_13 0 rfl rfl dX1_stepBack_2 ?_
  refine j_iconst F (v := 1) dX1_stepBack_5 (by decide) ?_
  refine j_isub F dX1_stepBack_6 ?_
  refine j_top (nI (j - 1)) (pk_sub (a := j) (b := 1) hj) ?_
  refine j_putf F fX1_13 0 [(c, .inr (1, [.int bg, .int (nI (j - 1)), .int gv]))] rfl rfl rfl rfl rfl (Nat.le_of_ble_eq_true rfl) dX1_stepBack_7 ?_
  refine j_aload_n F 0 dX1_stepBack_10 rfl ?_
  refine j_iconst F (v := 0) dX1_stepBack_11 (by decide) ?_
  refine j_putf F fX1_17 0 [(c, .inr (1, [.int bg, .int (nI (j - 1)), .int 0]))] rfl rfl rfl rfl rfl (Nat.le_of_ble_eq_true rfl) dX1_stepBack_12 ?_
  refine j_aload_n F 0 dX1_stepBack_15 rfl ?_
  refine j_getf F fX1_13 0 rfl rfl dX1_stepBack_16 ?_
  exact j_iret F ⟨rfl, rfl⟩ dX1_stepBack_19 (Nat.le_of_ble_eq_true rfl) (Nat.le_of_ble_eq_true rfl)

-- ---- UseMap
/-- a use of a key, then the eldest out if there are more than b -/
def stN (f : Nat → Int32) (n : Nat) (key : Int32) (b : Nat) : Nat := if usN f n key ≤ b then usN f n key else usN f n key - 1
def stF (f : Nat → Int32) (n : Nat) (key : Int32) (b : Nat) : Nat → Int32 := if usN f n key ≤ b then usF f n key else shf (usF f n key) 0 (usN f n key)
def sm (g : Nat → Int32) : Nat → Int32
  | 0 => 0
  | n + 1 => sm g n + g n
theorem usN_le {f : Nat → Int32} {n : Nat} {key : Int32} (hn : n ≤ 100) (hq : fx f key n < n ∨ n < 100) : usN f n key ≤ 100 := by
  unfold usN
  split <;> omega
theorem usN_pos {f : Nat → Int32} {n : Nat} {key : Int32} : 0 < usN f n key := by
  unfold usN
  split <;> omega
set_option maxHeartbeats 4000000 in
set_option maxRecDepth 100000 in
theorem c_X7_keys (l : Launch) (D : va_G) (ay : Nat → ClassId) (u : Nat) (o : Nat) (k : Nat) (c : Nat) (va : Nat) (n : Nat) (f : Nat → Int32) (bg : Int32) (pl : Int32) (gv : Int32) (vf : Nat → Int32) (b : Nat) (oc : Int32) (ol : Int32) : jM l yX7_keys (jws yX7_keys cX7_keys 1 (some (.object "LastUseDesk$UseOrder"))) 0 0 0 0 D ay [.ref u] [(u, .inr (7, [.ref o, .ref c, .ref va, .int (nI b), .int oc, .int ol])), (o, .inr (8, [.ref k, .int (nI n)])), (k, .inl (ay 0, 100, .inl f)), (c, .inr (1, [.int bg, .int pl, .int gv])), (va, .inl (ay 0, 100, .inl vf))] (fun v w => v = some (.ref o) ∧ w = [(u, .inr (7, [.ref o, .ref c, .ref va, .int (nI b), .int oc, .int ol])), (o, .inr (8, [.ref k, .int (nI n)])), (k, .inl (ay 0, 100, .inl f)), (c, .inr (1, [.int bg, .int pl, .int gv])), (va, .inl (ay 0, 100, .inl vf))]) := by
  refine jM_of l (by decide) [(0, .ref u)] rfl rfl (fun p9 e9 s9 m9 a9 b9 me9 c9 A9 F => ?_)
  refine j_aload_n F 0 dX7_keys_0 rfl ?_
  refine j_getf F fX7_12 0 rfl rfl dX7_keys_1 ?_
  exact j_aret F ⟨rfl, rfl⟩ dX7_keys_4 (Nat.le_of_ble_eq_true rfl) (Nat.le_of_ble_eq_true rfl)

set_option maxHeartbeats 4000000 in
set_option maxRecDepth 100000 in
theorem c_X7_cursor (l : Launch) (D : va_G) (ay : Nat → ClassId) (u : Nat) (o : Nat) (k : Nat) (c : Nat) (va : Nat) (n : Nat) (f : Nat → Int32) (bg : Int32) (pl : Int32) (gv : Int32) (vf : Nat → Int32) (b : Nat) (oc : Int32) (ol : Int32) : jM l yX7_cursor (jws yX7_cursor cX7_cursor 1 (some (.object "LastUseDesk$Cursor"))) 0 0 0 0 D ay [.ref u] [(u, .inr (7, [.ref o, .ref c, .ref va, .int (nI b), .int oc, .int ol])), (o, .inr (8, [.ref k, .int (nI n)])), (k, .inl (ay 0, 100, .inl f)), (c, .inr (1, [.int bg, .int pl, .int gv])), (va, .inl (ay 0, 100, .inl vf))] (fun v w => v = some (.ref c) ∧ w = [(u, .inr (7, [.ref o, .ref c, .ref va, .int (nI b), .int oc, .int ol])), (o, .inr (8, [.ref k, .int (nI n)])), (k, .inl (ay 0, 100, .inl f)), (c, .inr (1, [.int bg, .int pl, .int gv])), (va, .inl (ay 0, 100, .inl vf))]) := by
  refine jM_of l (by decide) [(0, .ref u)] rfl rfl (fun p9 e9 s9 m9 a9 b9 me9 c9 A9 F => ?_)
  refine j_aload_n F 0 dX7_cursor_0 rfl ?_
  refine j_getf F fX7_21 0 rfl rfl dX7_cursor_1 ?_
  exact j_aret F ⟨rfl, rfl⟩ dX7_cursor_4 (Nat.le_of_ble_eq_true rfl) (Nat.le_of_ble_eq_true rfl)

set_option maxHeartbeats 4000000 in
set_option maxRecDepth 100000 in
theorem c_X7_outCount (l : Launch) (D : va_G) (ay : Nat → ClassId) (u : Nat) (o : Nat) (k : Nat) (c : Nat) (va : Nat) (n : Nat) (f : Nat → Int32) (bg : Int32) (pl : Int32) (gv : Int32) (vf : Nat → Int32) (b : Nat) (oc : Int32) (ol : Int32) : jM l yX7_outCount (jws yX7_outCount cX7_outCount 1 (some .int)) 0 0 0 0 D ay [.ref u] [(u, .inr (7, [.ref o, .ref c, .ref va, .int (nI b), .int oc, .int ol])), (o, .inr (8, [.ref k, .int (nI n)])), (k, .inl (ay 0, 100, .inl f)), (c, .inr (1, [.int bg, .int pl, .int gv])), (va, .inl (ay 0, 100, .inl vf))] (fun v w => v = some (.int oc) ∧ w = [(u, .inr (7, [.ref o, .ref c, .ref va, .int (nI b), .int oc, .int ol])), (o, .inr (8, [.ref k, .int (nI n)])), (k, .inl (ay 0, 100, .inl f)), (c, .inr (1, [.int bg, .int pl, .int gv])), (va, .inl (ay 0, 100, .inl vf))]) := by
  refine jM_of l (by decide) [(0, .ref u)] rfl rfl (fun p9 e9 s9 m9 a9 b9 me9 c9 A9 F => ?_)
  refine j_aload_n F 0 dX7_outCount_0 rfl ?_
  refine j_getf F fX7_29 0 rfl rfl dX7_outCount_1 ?_
  exact j_iret F ⟨rfl, rfl⟩ dX7_outCount_4 (Nat.le_of_ble_eq_true rfl) (Nat.le_of_ble_eq_true rfl)

set_option maxHeartbeats 4000000 in
set_option maxRecDepth 100000 in
theorem c_X7_outLast (l : Launch) (D : va_G) (ay : Nat → ClassId) (u : Nat) (o : Nat) (k : Nat) (c : Nat) (va : Nat) (n : Nat) (f : Nat → Int32) (bg : Int32) (pl : Int32) (gv : Int32) (vf : Nat → Int32) (b : Nat) (oc : Int32) (ol : Int32) : jM l yX7_outLast (jws yX7_outLast cX7_outLast 1 (some .int)) 0 0 0 0 D ay [.ref u] [(u, .inr (7, [.ref o, .ref c, .ref va, .int (nI b), .int oc, .int ol])), (o, .inr (8, [.ref k, .int (nI n)])), (k, .inl (ay 0, 100, .inl f)), (c, .inr (1, [.int bg, .int pl, .int gv])), (va, .inl (ay 0, 100, .inl vf))] (fun v w => v = some (.int ol) ∧ w = [(u, .inr (7, [.ref o, .ref c, .ref va, .int (nI b), .int oc, .int ol])), (o, .inr (8, [.ref k, .int (nI n)])), (k, .inl (ay 0, 100, .inl f)), (c, .inr (1, [.int bg, .int pl, .int gv])), (va, .inl (ay 0, 100, .inl vf))]) := by
  refine jM_of l (by decide) [(0, .ref u)] rfl rfl (fun p9 e9 s9 m9 a9 b9 me9 c9 A9 F => ?_)
  refine j_aload_n F 0 dX7_outLast_0 rfl ?_
  refine j_getf F fX7_33 0 rfl rfl dX7_outLast_1 ?_
  exact j_iret F ⟨rfl, rfl⟩ dX7_outLast_4 (Nat.le_of_ble_eq_true rfl) (Nat.le_of_ble_eq_true rfl)

set_option maxHeartbeats 4000000 in
set_option maxRecDepth 100000 in
theorem c_X7_lookUp (l : Launch) (D : va_G) (ay : Nat → ClassId) (u : Nat) (o : Nat) (k : Nat) (c : Nat) (va : Nat) (n : Nat) (f : Nat → Int32) (bg : Int32) (pl : Int32) (gv : Int32) (vf : Nat → Int32) (b : Nat) (oc : Int32) (ol : Int32) (y : Nat) (hn : n ≤ 100) (hy : y < 100) : jM l yX7_lookUp (jws yX7_lookUp cX7_lookUp 2 (some .int)) 2 43 0 0 D ay [.ref u, .int (nI y)] [(u, .inr (7, [.ref o, .ref c, .ref va, .int (nI b), .int oc, .int ol])), (o, .inr (8, [.ref k, .int (nI n)])), (k, .inl (ay 0, 100, .inl f)), (c, .inr (1, [.int bg, .int pl, .int gv])), (va, .inl (ay 0, 100, .inl vf))] (fun v w => v = some (.int (if fx f (nI y) n < n then vf y else -1)) ∧ w = [(u, .inr (7, [.ref o, .ref c, .ref va, .int (nI b), .int oc, .int ol])), (o, .inr (8, [.ref k, .int (nI n)])), (k, .inl (ay 0, 100, .inl f)), (c, .inr (1, [.int bg, .int pl, .int gv])), (va, .inl (ay 0, 100, .inl vf))]) := by
  refine jM_of l (by decide) [(0, .ref u), (1, .int (nI y))] rfl rfl (fun p9 e9 s9 m9 a9 b9 me9 c9 A9 F => ?_)
  refine j_iload_n F 1 dX7_lookUp_0 rfl ?_
  refine j_if_lt F 30 dX7_lookUp_1 (by decide) (fun c_1 => absurd c_1 (nI_pos (by omega))) (fun c_1 => ?_)
  refine j_iload_n F 1 dX7_lookUp_4 rfl ?_
  refine j_bipush F (v := 100) dX7_lookUp_5 (by decide) ?_
  refine j_icmp_ge F 30 dX7_lookUp_7 (by decide) (fun c_7 => absurd c_7 (nI_ge (b := 100) hy (by decide))) (fun c_7 => ?_)
  refine j_aload_n F 0 dX7_lookUp_10 rfl ?_
  refine j_getf F fX7_12 0 rfl rfl dX7_lookUp_11 ?_
  refine j_iload_n F 1 dX7_lookUp_14 rfl ?_
  refine j_callV F kX7_39 (As := [.int (nI y)]) (rest := []) (c_X8_holds l D ay o k n f (nI y) (by first | assumption | omega)) 1 [1, 2] [0, 3, 4] [(u, .inr (7, [.ref o, .ref c, .ref va, .int (nI b), .int oc, .int ol])), (c, .inr (1, [.int bg, .int pl, .int gv])), (va, .inl (ay 0, 100, .inl vf))] rfl rfl rfl rfl rfl rfl rfl ⟨Nat.le_of_ble_eq_true rfl, Nat.le_of_ble_eq_true rfl⟩ dX7_lookUp_15 (fun v w hw => ?_)
  obtain ⟨rfl, rfl⟩ := hw
  refine j_perm [0, 3, 4, 1, 2] [(u, .inr (7, [.ref o, .ref c, .ref va, .int (nI b), .int oc, .int ol])), (o, .inr (8, [.ref k, .int (nI n)])), (k, .inl (ay 0, 100, .inl f)), (c, .inr (1, [.int bg, .int pl, .int gv])), (va, .inl (ay 0, 100, .inl vf))] rfl rfl ?_
  by_cases hq : fx f (nI y) n < n
  · skip
    refine j_top 1 (if_pos hq) ?_
    refine j_if_eq F 30 dX7_lookUp_18 (by decide) (fun c_18 => absurd c_18 (by decide)) (fun c_18 => ?_)
    refine j_aload_n F 0 dX7_lookUp_21 rfl ?_
    refine j_getf F fX7_25 0 rfl rfl dX7_lookUp_22 ?_
    refine j_iload_n F 1 dX7_lookUp_25 rfl ?_
    refine j_iald F 4 y rfl rfl (by omega) (Nat.le_of_ble_eq_true rfl) dX7_lookUp_26 ?_
    refine j_goto F 31 dX7_lookUp_27 (by decide) ?_
    exact j_iret F ⟨by rw [if_pos hq], rfl⟩ dX7_lookUp_31 (Nat.le_of_ble_eq_true rfl) (Nat.le_of_ble_eq_true rfl)
  · skip
    refine j_top 0 (if_neg hq) ?_
    refine j_if_eq F 30 dX7_lookUp_18 (by decide) (fun c_18 => ?_) (fun c_18 => absurd (by decide) c_18)
    refine j_iconst F (v := (-1)) dX7_lookUp_30 (by decide) ?_
    exact j_iret F ⟨by rw [if_neg hq], rfl⟩ dX7_lookUp_31 (Nat.le_of_ble_eq_true rfl) (Nat.le_of_ble_eq_true rfl)

theorem c_X7_lookUp_of (l : Launch) (D : va_G) (ay : Nat → ClassId) (u : Nat) (o : Nat) (k : Nat) (c : Nat) (va : Nat) (n : Nat) (f : Nat → Int32) (bg : Int32) (pl : Int32) (gv : Int32) (vf : Nat → Int32) (b : Nat) (oc : Int32) (ol : Int32) (y : Nat) (x : Int32) (hn : n ≤ 100) (hy : y < 100) (hx : x = nI y) : jM l yX7_lookUp (jws yX7_lookUp cX7_lookUp 2 (some .int)) 2 43 0 0 D ay [.ref u, .int x] [(u, .inr (7, [.ref o, .ref c, .ref va, .int (nI b), .int oc, .int ol])), (o, .inr (8, [.ref k, .int (nI n)])), (k, .inl (ay 0, 100, .inl f)), (c, .inr (1, [.int bg, .int pl, .int gv])), (va, .inl (ay 0, 100, .inl vf))] (fun v w => v = some (.int (if fx f (nI y) n < n then vf y else -1)) ∧ w = [(u, .inr (7, [.ref o, .ref c, .ref va, .int (nI b), .int oc, .int ol])), (o, .inr (8, [.ref k, .int (nI n)])), (k, .inl (ay 0, 100, .inl f)), (c, .inr (1, [.int bg, .int pl, .int gv])), (va, .inl (ay 0, 100, .inl vf))]) := by
  subst hx
  exact c_X7_lookUp l D ay u o k c va n f bg pl gv vf b oc ol y hn hy

set_option maxHeartbeats 4000000 in
set_option maxRecDepth 100000 in
theorem c_X7_valueIn (l : Launch) (D : va_G) (ay : Nat → ClassId) (u : Nat) (o : Nat) (k : Nat) (c : Nat) (va : Nat) (n : Nat) (f : Nat → Int32) (bg : Int32) (pl : Int32) (gv : Int32) (vf : Nat → Int32) (b : Nat) (oc : Int32) (ol : Int32) (j : Nat) (y : Nat) (hn : n ≤ 100) (hj : j < n) (hy : y < 100) (hf : f j = nI y) : jM l yX7_valueIn (jws yX7_valueIn cX7_valueIn 2 (some .int)) 3 64 0 0 D ay [.ref u, .int (nI j)] [(u, .inr (7, [.ref o, .ref c, .ref va, .int (nI b), .int oc, .int ol])), (o, .inr (8, [.ref k, .int (nI n)])), (k, .inl (ay 0, 100, .inl f)), (c, .inr (1, [.int bg, .int pl, .int gv])), (va, .inl (ay 0, 100, .inl vf))] (fun v w => v = some (.int (vf y)) ∧ w = [(u, .inr (7, [.ref o, .ref c, .ref va, .int (nI b), .int oc, .int ol])), (o, .inr (8, [.ref k, .int (nI n)])), (k, .inl (ay 0, 100, .inl f)), (c, .inr (1, [.int bg, .int pl, .int gv])), (va, .inl (ay 0, 100, .inl vf))]) := by
  refine jM_of l (by decide) [(0, .ref u), (1, .int (nI j))] rfl rfl (fun p9 e9 s9 m9 a9 b9 me9 c9 A9 F => ?_)
  refine j_aload_n F 0 dX7_valueIn_0 rfl ?_
  refine j_aload_n F 0 dX7_valueIn_1 rfl ?_
  refine j_getf F fX7_12 0 rfl rfl dX7_valueIn_2 ?_
  refine j_iload_n F 1 dX7_valueIn_5 rfl ?_
  refine j_callV F kX7_43 (As := [.int (nI j)]) (rest := [.ref u]) (c_X8_keyIn l D ay o k n f j (by first | assumption | omega) (by first | assumption | omega)) 1 [1, 2] [0, 3, 4] [(u, .inr (7, [.ref o, .ref c, .ref va, .int (nI b), .int oc, .int ol])), (c, .inr (1, [.int bg, .int pl, .int gv])), (va, .inl (ay 0, 100, .inl vf))] rfl rfl rfl rfl rfl rfl rfl ⟨Nat.le_of_ble_eq_true rfl, Nat.le_of_ble_eq_true rfl⟩ dX7_valueIn_6 (fun v w hw => ?_)
  obtain ⟨rfl, rfl⟩ := hw
  refine j_perm [0, 3, 4, 1, 2] [(u, .inr (7, [.ref o, .ref c, .ref va, .int (nI b), .int oc, .int ol])), (o, .inr (8, [.ref k, .int (nI n)])), (k, .inl (ay 0, 100, .inl f)), (c, .inr (1, [.int bg, .int pl, .int gv])), (va, .inl (ay 0, 100, .inl vf))] rfl rfl ?_
  refine j_callV F kX7_47 (As := [.int (f j)]) (rest := []) (c_X7_lookUp_of l D ay u o k c va n f bg pl gv vf b oc ol y (f j) hn hy hf) 0 [0, 1, 2, 3, 4] [] [] rfl rfl rfl rfl rfl rfl rfl ⟨Nat.le_of_ble_eq_true rfl, Nat.le_of_ble_eq_true rfl⟩ dX7_valueIn_9 (fun v w hw => ?_)
  obtain ⟨rfl, rfl⟩ := hw
  refine j_perm [0, 1, 2, 3, 4] [(u, .inr (7, [.ref o, .ref c, .ref va, .int (nI b), .int oc, .int ol])), (o, .inr (8, [.ref k, .int (nI n)])), (k, .inl (ay 0, 100, .inl f)), (c, .inr (1, [.int bg, .int pl, .int gv])), (va, .inl (ay 0, 100, .inl vf))] rfl rfl ?_
  exact j_iret F ⟨by rw [if_pos (show fx f (nI y) n < n from Nat.lt_of_le_of_lt (Nat.le_of_not_lt (fun h => fx_no h hf)) hj)], rfl⟩ dX7_valueIn_12 (Nat.le_of_ble_eq_true rfl) (Nat.le_of_ble_eq_true rfl)

set_option maxHeartbeats 4000000 in
set_option maxRecDepth 100000 in
theorem c_X7_recordOut_none (l : Launch) (D : va_G) (ay : Nat → ClassId) (u : Nat) (o : Nat) (k : Nat) (c : Nat) (va : Nat) (n : Nat) (f : Nat → Int32) (bg : Int32) (pl : Int32) (gv : Int32) (vf : Nat → Int32) (b : Nat) (oc : Int32) (ol : Int32) : jM l yX7_recordOut (jws yX7_recordOut cX7_recordOut 2 none) 0 0 0 0 D ay [.ref u, .int (-1)] [(u, .inr (7, [.ref o, .ref c, .ref va, .int (nI b), .int oc, .int ol])), (o, .inr (8, [.ref k, .int (nI n)])), (k, .inl (ay 0, 100, .inl f)), (c, .inr (1, [.int bg, .int pl, .int gv])), (va, .inl (ay 0, 100, .inl vf))] (fun v w => v = none ∧ w = [(u, .inr (7, [.ref o, .ref c, .ref va, .int (nI b), .int oc, .int ol])), (o, .inr (8, [.ref k, .int (nI n)])), (k, .inl (ay 0, 100, .inl f)), (c, .inr (1, [.int bg, .int pl, .int gv])), (va, .inl (ay 0, 100, .inl vf))]) := by
  refine jM_of l (by decide) [(0, .ref u), (1, .int (-1))] rfl rfl (fun p9 e9 s9 m9 a9 b9 me9 c9 A9 F => ?_)
  refine j_iload_n F 1 dX7_recordOut_0 rfl ?_
  refine j_iconst F (v := (-1)) dX7_recordOut_1 (by decide) ?_
  refine j_icmp_eq F 20 dX7_recordOut_2 (by decide) (fun c_2 => ?_) (fun c_2 => absurd rfl c_2)
  exact j_vret F ⟨rfl, rfl⟩ dX7_recordOut_20 (Nat.le_of_ble_eq_true rfl) (Nat.le_of_ble_eq_true rfl)

set_option maxHeartbeats 4000000 in
set_option maxRecDepth 100000 in
theorem c_X7_recordOut (l : Launch) (D : va_G) (ay : Nat → ClassId) (u : Nat) (o : Nat) (k : Nat) (c : Nat) (va : Nat) (n : Nat) (f : Nat → Int32) (bg : Int32) (pl : Int32) (gv : Int32) (vf : Nat → Int32) (b : Nat) (oc : Int32) (ol : Int32) (x : Int32) (hx : ¬ x = -1) : jM l yX7_recordOut (jws yX7_recordOut cX7_recordOut 2 none) 0 0 0 0 D ay [.ref u, .int x] [(u, .inr (7, [.ref o, .ref c, .ref va, .int (nI b), .int oc, .int ol])), (o, .inr (8, [.ref k, .int (nI n)])), (k, .inl (ay 0, 100, .inl f)), (c, .inr (1, [.int bg, .int pl, .int gv])), (va, .inl (ay 0, 100, .inl vf))] (fun v w => v = none ∧ w = [(u, .inr (7, [.ref o, .ref c, .ref va, .int (nI b), .int (oc + 1), .int x])), (o, .inr (8, [.ref k, .int (nI n)])), (k, .inl (ay 0, 100, .inl f)), (c, .inr (1, [.int bg, .int pl, .int gv])), (va, .inl (ay 0, 100, .inl vf))]) := by
  refine jM_of l (by decide) [(0, .ref u), (1, .int x)] rfl rfl (fun p9 e9 s9 m9 a9 b9 me9 c9 A9 F => ?_)
  refine j_iload_n F 1 dX7_recordOut_0 rfl ?_
  refine j_iconst F (v := (-1)) dX7_recordOut_1 (by decide) ?_
  refine j_icmp_eq F 20 dX7_recordOut_2 (by decide) (fun c_2 => absurd c_2 hx) (fun c_2 => ?_)
  refine j_aload_n F 0 dX7_recordOut_5 rfl ?_
  refine j_dup F dX7_recordOut_6 rfl ?_
  refine j_getf F fX7_29 0 rfl rfl dX7_recordOut_7 ?_
  refine j_iconst F (v := 1) dX7_recordOut_10 (by decide) ?_
  refine j_iadd F dX7_recordOut_11 ?_
  refine j_putf F fX7_29 0 [(u, .inr (7, [.ref o, .ref c, .ref va, .int (nI b), .int (oc + 1), .int ol])), (o, .inr (8, [.ref k, .int (nI n)])), (k, .inl (ay 0, 100, .inl f)), (c, .inr (1, [.int bg, .int pl, .int gv])), (va, .inl (ay 0, 100, .inl vf))] rfl rfl rfl rfl rfl (Nat.le_of_ble_eq_true rfl) dX7_recordOut_12 ?_
  refine j_aload_n F 0 dX7_recordOut_15 rfl ?_
  refine j_iload_n F 1 dX7_recordOut_16 rfl ?_
  refine j_putf F fX7_33 0 [(u, .inr (7, [.ref o, .ref c, .ref va, .int (nI b), .int (oc + 1), .int x])), (o, .inr (8, [.ref k, .int (nI n)])), (k, .inl (ay 0, 100, .inl f)), (c, .inr (1, [.int bg, .int pl, .int gv])), (va, .inl (ay 0, 100, .inl vf))] rfl rfl rfl rfl rfl (Nat.le_of_ble_eq_true rfl) dX7_recordOut_17 ?_
  exact j_vret F ⟨rfl, rfl⟩ dX7_recordOut_20 (Nat.le_of_ble_eq_true rfl) (Nat.le_of_ble_eq_true rfl)

set_option maxHeartbeats 4000000 in
set_option maxRecDepth 100000 in
theorem c_X7_store (l : Launch) (D : va_G) (ay : Nat → ClassId) (u : Nat) (o : Nat) (k : Nat) (c : Nat) (va : Nat) (n : Nat) (f : Nat → Int32) (bg : Int32) (pl : Int32) (gv : Int32) (vf : Nat → Int32) (b : Nat) (oc : Int32) (ol : Int32) (y : Nat) (x : Int32) (hn : n ≤ 100) (hy : y < 100) (hq : fx f (nI y) n < n ∨ n < 100) (hb : b < 2 ^ 31) (hz : ¬ usF f n (nI y) 0 = -1) : jM l yX7_store (jws yX7_store cX7_store 4 (some .int)) 3 64 0 0 D ay [.ref u, .int (nI y), .int x] [(u, .inr (7, [.ref o, .ref c, .ref va, .int (nI b), .int oc, .int ol])), (o, .inr (8, [.ref k, .int (nI n)])), (k, .inl (ay 0, 100, .inl f)), (c, .inr (1, [.int bg, .int pl, .int gv])), (va, .inl (ay 0, 100, .inl vf))] (fun v w => v = some (.int (if fx f (nI y) n < n then vf y else -1)) ∧ w = [(u, .inr (7, [.ref o, .ref c, .ref va, .int (nI b), .int (if usN f n (nI y) ≤ b then oc else oc + 1), .int (if usN f n (nI y) ≤ b then ol else usF f n (nI y) 0)])), (o, .inr (8, [.ref k, .int (nI (stN f n (nI y) b))])), (k, .inl (ay 0, 100, .inl (stF f n (nI y) b))), (c, .inr (1, [.int 0, .int pl, .int gv])), (va, .inl (ay 0, 100, .inl (upd vf y x)))]) := by
  refine jM_of l (by decide) [(0, .ref u), (1, .int (nI y)), (2, .int x)] rfl rfl (fun p9 e9 s9 m9 a9 b9 me9 c9 A9 F => ?_)
  refine j_aload_n F 0 dX7_store_0 rfl ?_
  refine j_iload_n F 1 dX7_store_1 rfl ?_
  refine j_callV F kX7_47 (As := [.int (nI y)]) (rest := []) (c_X7_lookUp l D ay u o k c va n f bg pl gv vf b oc ol y (by first | assumption | omega) (by first | assumption | omega)) 0 [0, 1, 2, 3, 4] [] [] rfl rfl rfl rfl rfl rfl rfl ⟨Nat.le_of_ble_eq_true rfl, Nat.le_of_ble_eq_true rfl⟩ dX7_store_2 (fun v w hw => ?_)
  obtain ⟨rfl, rfl⟩ := hw
  refine j_perm [0, 1, 2, 3, 4] [(u, .inr (7, [.ref o, .ref c, .ref va, .int (nI b), .int oc, .int ol])), (o, .inr (8, [.ref k, .int (nI n)])), (k, .inl (ay 0, 100, .inl f)), (c, .inr (1, [.int bg, .int pl, .int gv])), (va, .inl (ay 0, 100, .inl vf))] rfl rfl ?_
  refine j_istore_n F 3 [(3, .int (if fx f (nI y) n < n then vf y else -1)), (0, .ref u), (1, .int (nI y)), (2, .int x)] dX7_store_5 rfl (by decide) rfl ?_
  refine j_aload_n F 1 dX7_store_6 rfl ?_
  refine j_getf F fX7_21 0 rfl rfl dX7_store_7 ?_
  refine j_callV F kX7_50 (As := []) (rest := []) (c_X1_end l D ay c bg pl gv) 3 [3] [0, 1, 2, 4] [(u, .inr (7, [.ref o, .ref c, .ref va, .int (nI b), .int oc, .int ol])), (o, .inr (8, [.ref k, .int (nI n)])), (k, .inl (ay 0, 100, .inl f)), (va, .inl (ay 0, 100, .inl vf))] rfl rfl rfl rfl rfl rfl rfl ⟨Nat.le_of_ble_eq_true rfl, Nat.le_of_ble_eq_true rfl⟩ dX7_store_10 (fun v w hw => ?_)
  obtain ⟨rfl, rfl⟩ := hw
  refine j_perm [0, 1, 2, 4, 3] [(u, .inr (7, [.ref o, .ref c, .ref va, .int (nI b), .int oc, .int ol])), (o, .inr (8, [.ref k, .int (nI n)])), (k, .inl (ay 0, 100, .inl f)), (c, .inr (1, [.int 0, .int pl, .int gv])), (va, .inl (ay 0, 100, .inl vf))] rfl rfl ?_
  refine j_iload_n F 2 dX7_store_13 rfl ?_
  refine j_if_lt F 54 dX7_store_14 (by decide) (fun c_14 => absurd c_14 (nI_pos (by omega))) (fun c_14 => ?_)
  refine j_iload_n F 2 dX7_store_17 rfl ?_
  refine j_bipush F (v := 100) dX7_store_18 (by decide) ?_
  refine j_icmp_ge F 54 dX7_store_20 (by decide) (fun c_20 => absurd c_20 (nI_ge (b := 100) hy (by decide))) (fun c_20 => ?_)
  refine j_aload_n F 1 dX7_store_23 rfl ?_
  refine j_getf F fX7_12 0 rfl rfl dX7_store_24 ?_
  refine j_iload_n F 2 dX7_store_27 rfl ?_
  refine j_callV F kX7_53 (As := [.int (nI y)]) (rest := []) (c_X8_use l D ay o k n f (nI y) hn hq) 1 [1, 2] [0, 3, 4] [(u, .inr (7, [.ref o, .ref c, .ref va, .int (nI b), .int oc, .int ol])), (c, .inr (1, [.int 0, .int pl, .int gv])), (va, .inl (ay 0, 100, .inl vf))] rfl rfl rfl rfl rfl rfl rfl ⟨Nat.le_of_ble_eq_true rfl, Nat.le_of_ble_eq_true rfl⟩ dX7_store_28 (fun v w hw => ?_)
  obtain ⟨rfl, rfl⟩ := hw
  refine j_perm [0, 3, 4, 1, 2] [(u, .inr (7, [.ref o, .ref c, .ref va, .int (nI b), .int oc, .int ol])), (o, .inr (8, [.ref k, .int (nI (usN f n (nI y)))])), (k, .inl (ay 0, 100, .inl (usF f n (nI y)))), (c, .inr (1, [.int 0, .int pl, .int gv])), (va, .inl (ay 0, 100, .inl vf))] rfl rfl ?_
  refine j_pop F dX7_store_31 rfl ?_
  refine j_aload_n F 1 dX7_store_32 rfl ?_
  refine j_getf F fX7_25 0 rfl rfl dX7_store_33 ?_
  refine j_iload_n F 2 dX7_store_36 rfl ?_
  refine j_iload_n F 3 dX7_store_37 rfl ?_
  refine j_iast F 4 [(u, .inr (7, [.ref o, .ref c, .ref va, .int (nI b), .int oc, .int ol])), (o, .inr (8, [.ref k, .int (nI (usN f n (nI y)))])), (k, .inl (ay 0, 100, .inl (usF f n (nI y)))), (c, .inr (1, [.int 0, .int pl, .int gv])), (va, .inl (ay 0, 100, .inl (upd vf y x)))] y rfl rfl (by omega) (Nat.le_of_ble_eq_true rfl) rfl dX7_store_38 ?_
  refine j_aload_n F 1 dX7_store_39 rfl ?_
  refine j_aload_n F 1 dX7_store_40 rfl ?_
  refine j_getf F fX7_12 0 rfl rfl dX7_store_41 ?_
  refine j_aload_n F 1 dX7_store_44 rfl ?_
  refine j_getf F fX7_36 0 rfl rfl dX7_store_45 ?_
  refine j_callV F kX7_56 (As := [.int (nI b)]) (rest := [.ref u]) (c_X8_dropBeyond l D ay o k (usN f n (nI y)) (usF f n (nI y)) b (usN_le hn hq) hb) 1 [1, 2] [0, 3, 4] [(u, .inr (7, [.ref o, .ref c, .ref va, .int (nI b), .int oc, .int ol])), (c, .inr (1, [.int 0, .int pl, .int gv])), (va, .inl (ay 0, 100, .inl (upd vf y x)))] rfl rfl rfl rfl rfl rfl rfl ⟨Nat.le_of_ble_eq_true rfl, Nat.le_of_ble_eq_true rfl⟩ dX7_store_48 (fun v w hw => ?_)
  obtain ⟨rfl, rfl⟩ := hw
  refine j_perm [0, 3, 4, 1, 2] [(u, .inr (7, [.ref o, .ref c, .ref va, .int (nI b), .int oc, .int ol])), (o, .inr (8, [.ref k, .int (nI (if (usN f n (nI y)) ≤ b then (usN f n (nI y)) else (usN f n (nI y)) - 1))])), (k, .inl (ay 0, 100, .inl (if (usN f n (nI y)) ≤ b then (usF f n (nI y)) else shf (usF f n (nI y)) 0 (usN f n (nI y))))), (c, .inr (1, [.int 0, .int pl, .int gv])), (va, .inl (ay 0, 100, .inl (upd vf y x)))] rfl rfl ?_
  by_cases hle : usN f n (nI y) ≤ b
  · skip
    refine j_top (-1) (if_pos hle) ?_
    refine j_ws [(u, .inr (7, [.ref o, .ref c, .ref va, .int (nI b), .int oc, .int ol])), (o, .inr (8, [.ref k, .int (nI (stN f n (nI y) b))])), (k, .inl (ay 0, 100, .inl (stF f n (nI y) b))), (c, .inr (1, [.int 0, .int pl, .int gv])), (va, .inl (ay 0, 100, .inl (upd vf y x)))] (by simp only [stN, stF, if_pos hle]) ?_
    skip
    refine j_callV F kX7_59 (As := [.int (-1)]) (rest := []) (c_X7_recordOut_none l D ay u o k c va (stN f n (nI y) b) (stF f n (nI y) b) 0 pl gv (upd vf y x) b oc ol) 0 [0, 1, 2, 3, 4] [] [] rfl rfl rfl rfl rfl rfl rfl ⟨Nat.le_of_ble_eq_true rfl, Nat.le_of_ble_eq_true rfl⟩ dX7_store_51 (fun v w hw => ?_)
    obtain ⟨rfl, rfl⟩ := hw
    refine j_perm [0, 1, 2, 3, 4] [(u, .inr (7, [.ref o, .ref c, .ref va, .int (nI b), .int oc, .int ol])), (o, .inr (8, [.ref k, .int (nI (stN f n (nI y) b))])), (k, .inl (ay 0, 100, .inl (stF f n (nI y) b))), (c, .inr (1, [.int 0, .int pl, .int gv])), (va, .inl (ay 0, 100, .inl (upd vf y x)))] rfl rfl ?_
    refine j_iload_n F 0 dX7_store_54 rfl ?_
    exact j_iret F ⟨rfl, by simp only [if_pos hle]⟩ dX7_store_55 (Nat.le_of_ble_eq_true rfl) (Nat.le_of_ble_eq_true rfl)
  · skip
    refine j_top (usF f n (nI y) 0) (if_neg hle) ?_
    refine j_ws [(u, .inr (7, [.ref o, .ref c, .ref va, .int (nI b), .int oc, .int ol])), (o, .inr (8, [.ref k, .int (nI (stN f n (nI y) b))])), (k, .inl (ay 0, 100, .inl (stF f n (nI y) b))), (c, .inr (1, [.int 0, .int pl, .int gv])), (va, .inl (ay 0, 100, .inl (upd vf y x)))] (by simp only [stN, stF, if_neg hle]) ?_
    skip
    refine j_callV F kX7_59 (As := [.int (usF f n (nI y) 0)]) (rest := []) (c_X7_recordOut l D ay u o k c va (stN f n (nI y) b) (stF f n (nI y) b) 0 pl gv (upd vf y x) b oc ol (usF f n (nI y) 0) (by first | assumption | omega)) 0 [0, 1, 2, 3, 4] [] [] rfl rfl rfl rfl rfl rfl rfl ⟨Nat.le_of_ble_eq_true rfl, Nat.le_of_ble_eq_true rfl⟩ dX7_store_51 (fun v w hw => ?_)
    obtain ⟨rfl, rfl⟩ := hw
    refine j_perm [0, 1, 2, 3, 4] [(u, .inr (7, [.ref o, .ref c, .ref va, .int (nI b), .int (oc + 1), .int (usF f n (nI y) 0)])), (o, .inr (8, [.ref k, .int (nI (stN f n (nI y) b))])), (k, .inl (ay 0, 100, .inl (stF f n (nI y) b))), (c, .inr (1, [.int 0, .int pl, .int gv])), (va, .inl (ay 0, 100, .inl (upd vf y x)))] rfl rfl ?_
    refine j_iload_n F 0 dX7_store_54 rfl ?_
    exact j_iret F ⟨rfl, by simp only [if_neg hle]⟩ dX7_store_55 (Nat.le_of_ble_eq_true rfl) (Nat.le_of_ble_eq_true rfl)

set_option maxHeartbeats 4000000 in
set_option maxRecDepth 100000 in
theorem c_X7_storeIfMissing (l : Launch) (D : va_G) (ay : Nat → ClassId) (u : Nat) (o : Nat) (k : Nat) (c : Nat) (va : Nat) (n : Nat) (f : Nat → Int32) (bg : Int32) (pl : Int32) (gv : Int32) (vf : Nat → Int32) (b : Nat) (oc : Int32) (ol : Int32) (y : Nat) (x : Int32) (hn : n ≤ 100) (hy : y < 100) (hq : fx f (nI y) n < n ∨ n < 100) (hb : b < 2 ^ 31) (hz : ¬ usF f n (nI y) 0 = -1) (hv : fx f (nI y) n < n → ¬ vf y = -1) : jM l yX7_storeIfMissing (jws yX7_storeIfMissing cX7_storeIfMissing 4 (some .int)) 4 87 0 0 D ay [.ref u, .int (nI y), .int x] [(u, .inr (7, [.ref o, .ref c, .ref va, .int (nI b), .int oc, .int ol])), (o, .inr (8, [.ref k, .int (nI n)])), (k, .inl (ay 0, 100, .inl f)), (c, .inr (1, [.int bg, .int pl, .int gv])), (va, .inl (ay 0, 100, .inl vf))] (fun v w => v = some (.int (if fx f (nI y) n < n then vf y else -1)) ∧ w = [(u, .inr (7, [.ref o, .ref c, .ref va, .int (nI b), .int (if usN f n (nI y) ≤ b then oc else oc + 1), .int (if usN f n (nI y) ≤ b then ol else usF f n (nI y) 0)])), (o, .inr (8, [.ref k, .int (nI (stN f n (nI y) b))])), (k, .inl (ay 0, 100, .inl (stF f n (nI y) b))), (c, .inr (1, [.int 0, .int pl, .int gv])), (va, .inl (ay 0, 100, .inl (upd vf y (if fx f (nI y) n < n then vf y else x))))]) := by
  refine jM_of l (by decide) [(0, .ref u), (1, .int (nI y)), (2, .int x)] rfl rfl (fun p9 e9 s9 m9 a9 b9 me9 c9 A9 F => ?_)
  refine j_aload_n F 0 dX7_storeIfMissing_0 rfl ?_
  refine j_iload_n F 1 dX7_storeIfMissing_1 rfl ?_
  refine j_callV F kX7_47 (As := [.int (nI y)]) (rest := []) (c_X7_lookUp l D ay u o k c va n f bg pl gv vf b oc ol y (by first | assumption | omega) (by first | assumption | omega)) 0 [0, 1, 2, 3, 4] [] [] rfl rfl rfl rfl rfl rfl rfl ⟨Nat.le_of_ble_eq_true rfl, Nat.le_of_ble_eq_true rfl⟩ dX7_storeIfMissing_2 (fun v w hw => ?_)
  obtain ⟨rfl, rfl⟩ := hw
  refine j_perm [0, 1, 2, 3, 4] [(u, .inr (7, [.ref o, .ref c, .ref va, .int (nI b), .int oc, .int ol])), (o, .inr (8, [.ref k, .int (nI n)])), (k, .inl (ay 0, 100, .inl f)), (c, .inr (1, [.int bg, .int pl, .int gv])), (va, .inl (ay 0, 100, .inl vf))] rfl rfl ?_
  by_cases hf : fx f (nI y) n < n
  · skip
    refine j_top (vf y) (if_pos hf) ?_
    refine j_istore_n F 3 [(3, .int (vf y)), (0, .ref u), (1, .int (nI y)), (2, .int x)] dX7_storeIfMissing_5 rfl (by decide) rfl ?_
    refine j_aload_n F 1 dX7_storeIfMissing_6 rfl ?_
    refine j_iload_n F 2 dX7_storeIfMissing_7 rfl ?_
    refine j_iload_n F 0 dX7_storeIfMissing_8 rfl ?_
    refine j_iconst F (v := (-1)) dX7_storeIfMissing_9 (by decide) ?_
    refine j_icmp_ne F 17 dX7_storeIfMissing_10 (by decide) (fun c_10 => ?_) (fun c_10 => absurd c_10 (hv hf))
    refine j_iload_n F 0 dX7_storeIfMissing_17 rfl ?_
    refine j_callV F kX7_63 (As := [.int (nI y), .int (vf y)]) (rest := []) (c_X7_store l D ay u o k c va n f bg pl gv vf b oc ol y (vf y) (by first | assumption | omega) (by first | assumption | omega) (by first | assumption | omega) (by first | assumption | omega) (by first | assumption | omega)) 0 [0, 1, 2, 3, 4] [] [] rfl rfl rfl rfl rfl rfl rfl ⟨Nat.le_of_ble_eq_true rfl, Nat.le_of_ble_eq_true rfl⟩ dX7_storeIfMissing_18 (fun v w hw => ?_)
    obtain ⟨rfl, rfl⟩ := hw
    refine j_perm [0, 1, 2, 3, 4] [(u, .inr (7, [.ref o, .ref c, .ref va, .int (nI b), .int (if usN f n (nI y) ≤ b then oc else oc + 1), .int (if usN f n (nI y) ≤ b then ol else usF f n (nI y) 0)])), (o, .inr (8, [.ref k, .int (nI (stN f n (nI y) b))])), (k, .inl (ay 0, 100, .inl (stF f n (nI y) b))), (c, .inr (1, [.int 0, .int pl, .int gv])), (va, .inl (ay 0, 100, .inl (upd vf y (vf y))))] rfl rfl ?_
    exact j_iret F ⟨rfl, by simp only [if_pos hf]⟩ dX7_storeIfMissing_21 (Nat.le_of_ble_eq_true rfl) (Nat.le_of_ble_eq_true rfl)
  · skip
    refine j_top (-1) (if_neg hf) ?_
    refine j_istore_n F 3 [(3, .int (-1)), (0, .ref u), (1, .int (nI y)), (2, .int x)] dX7_storeIfMissing_5 rfl (by decide) rfl ?_
    refine j_aload_n F 1 dX7_storeIfMissing_6 rfl ?_
    refine j_iload_n F 2 dX7_storeIfMissing_7 rfl ?_
    refine j_iload_n F 0 dX7_storeIfMissing_8 rfl ?_
    refine j_iconst F (v := (-1)) dX7_storeIfMissing_9 (by decide) ?_
    refine j_icmp_ne F 17 dX7_storeIfMissing_10 (by decide) (fun c_10 => absurd rfl c_10) (fun c_10 => ?_)
    refine j_iload_n F 3 dX7_storeIfMissing_13 rfl ?_
    refine j_goto F 18 dX7_storeIfMissing_14 (by decide) ?_
    refine j_callV F kX7_63 (As := [.int (nI y), .int x]) (rest := []) (c_X7_store l D ay u o k c va n f bg pl gv vf b oc ol y x (by first | assumption | omega) (by first | assumption | omega) (by first | assumption | omega) (by first | assumption | omega) (by first | assumption | omega)) 0 [0, 1, 2, 3, 4] [] [] rfl rfl rfl rfl rfl rfl rfl ⟨Nat.le_of_ble_eq_true rfl, Nat.le_of_ble_eq_true rfl⟩ dX7_storeIfMissing_18 (fun v w hw => ?_)
    obtain ⟨rfl, rfl⟩ := hw
    refine j_perm [0, 1, 2, 3, 4] [(u, .inr (7, [.ref o, .ref c, .ref va, .int (nI b), .int (if usN f n (nI y) ≤ b then oc else oc + 1), .int (if usN f n (nI y) ≤ b then ol else usF f n (nI y) 0)])), (o, .inr (8, [.ref k, .int (nI (stN f n (nI y) b))])), (k, .inl (ay 0, 100, .inl (stF f n (nI y) b))), (c, .inr (1, [.int 0, .int pl, .int gv])), (va, .inl (ay 0, 100, .inl (upd vf y x)))] rfl rfl ?_
    exact j_iret F ⟨rfl, by simp only [if_neg hf]⟩ dX7_storeIfMissing_21 (Nat.le_of_ble_eq_true rfl) (Nat.le_of_ble_eq_true rfl)

set_option maxHeartbeats 4000000 in
set_option maxRecDepth 100000 in
theorem c_X7_fetch (l : Launch) (D : va_G) (ay : Nat → ClassId) (u : Nat) (o : Nat) (k : Nat) (c : Nat) (va : Nat) (n : Nat) (f : Nat → Int32) (bg : Int32) (pl : Int32) (gv : Int32) (vf : Nat → Int32) (b : Nat) (oc : Int32) (ol : Int32) (y : Nat) (hn : n ≤ 100) (hy : y < 100) (hv : fx f (nI y) n < n → ¬ vf y = -1) : jM l yX7_fetch (jws yX7_fetch cX7_fetch 3 (some .int)) 3 64 0 0 D ay [.ref u, .int (nI y)] [(u, .inr (7, [.ref o, .ref c, .ref va, .int (nI b), .int oc, .int ol])), (o, .inr (8, [.ref k, .int (nI n)])), (k, .inl (ay 0, 100, .inl f)), (c, .inr (1, [.int bg, .int pl, .int gv])), (va, .inl (ay 0, 100, .inl vf))] (fun v w => v = some (.int (if fx f (nI y) n < n then vf y else -1)) ∧ w = [(u, .inr (7, [.ref o, .ref c, .ref va, .int (nI b), .int oc, .int ol])), (o, .inr (8, [.ref k, .int (nI n)])), (k, .inl (ay 0, 100, .inl (if fx f (nI y) n < n then usF f n (nI y) else f))), (c, .inr (1, [.int 0, .int pl, .int gv])), (va, .inl (ay 0, 100, .inl vf))]) := by
  refine jM_of l (by decide) [(0, .ref u), (1, .int (nI y))] rfl rfl (fun p9 e9 s9 m9 a9 b9 me9 c9 A9 F => ?_)
  refine j_aload_n F 0 dX7_fetch_0 rfl ?_
  refine j_iload_n F 1 dX7_fetch_1 rfl ?_
  refine j_callV F kX7_47 (As := [.int (nI y)]) (rest := []) (c_X7_lookUp l D ay u o k c va n f bg pl gv vf b oc ol y (by first | assumption | omega) (by first | assumption | omega)) 0 [0, 1, 2, 3, 4] [] [] rfl rfl rfl rfl rfl rfl rfl ⟨Nat.le_of_ble_eq_true rfl, Nat.le_of_ble_eq_true rfl⟩ dX7_fetch_2 (fun v w hw => ?_)
  obtain ⟨rfl, rfl⟩ := hw
  refine j_perm [0, 1, 2, 3, 4] [(u, .inr (7, [.ref o, .ref c, .ref va, .int (nI b), .int oc, .int ol])), (o, .inr (8, [.ref k, .int (nI n)])), (k, .inl (ay 0, 100, .inl f)), (c, .inr (1, [.int bg, .int pl, .int gv])), (va, .inl (ay 0, 100, .inl vf))] rfl rfl ?_
  by_cases hf : fx f (nI y) n < n
  · skip
    refine j_top (vf y) (if_pos hf) ?_
    refine j_istore_n F 2 [(2, .int (vf y)), (0, .ref u), (1, .int (nI y))] dX7_fetch_5 rfl (by decide) rfl ?_
    refine j_aload_n F 1 dX7_fetch_6 rfl ?_
    refine j_getf F fX7_21 0 rfl rfl dX7_fetch_7 ?_
    refine j_callV F kX7_50 (As := []) (rest := []) (c_X1_end l D ay c bg pl gv) 3 [3] [0, 1, 2, 4] [(u, .inr (7, [.ref o, .ref c, .ref va, .int (nI b), .int oc, .int ol])), (o, .inr (8, [.ref k, .int (nI n)])), (k, .inl (ay 0, 100, .inl f)), (va, .inl (ay 0, 100, .inl vf))] rfl rfl rfl rfl rfl rfl rfl ⟨Nat.le_of_ble_eq_true rfl, Nat.le_of_ble_eq_true rfl⟩ dX7_fetch_10 (fun v w hw => ?_)
    obtain ⟨rfl, rfl⟩ := hw
    refine j_perm [0, 1, 2, 4, 3] [(u, .inr (7, [.ref o, .ref c, .ref va, .int (nI b), .int oc, .int ol])), (o, .inr (8, [.ref k, .int (nI n)])), (k, .inl (ay 0, 100, .inl f)), (c, .inr (1, [.int 0, .int pl, .int gv])), (va, .inl (ay 0, 100, .inl vf))] rfl rfl ?_
    refine j_iload_n F 0 dX7_fetch_13 rfl ?_
    refine j_iconst F (v := (-1)) dX7_fetch_14 (by decide) ?_
    refine j_icmp_eq F 27 dX7_fetch_15 (by decide) (fun c_15 => absurd c_15 (hv hf)) (fun c_15 => ?_)
    refine j_aload_n F 1 dX7_fetch_18 rfl ?_
    refine j_getf F fX7_12 0 rfl rfl dX7_fetch_19 ?_
    refine j_iload_n F 2 dX7_fetch_22 rfl ?_
    refine j_callV F kX7_53 (As := [.int (nI y)]) (rest := []) (c_X8_use l D ay o k n f (nI y) hn (Or.inl hf)) 1 [1, 2] [0, 3, 4] [(u, .inr (7, [.ref o, .ref c, .ref va, .int (nI b), .int oc, .int ol])), (c, .inr (1, [.int 0, .int pl, .int gv])), (va, .inl (ay 0, 100, .inl vf))] rfl rfl rfl rfl rfl rfl rfl ⟨Nat.le_of_ble_eq_true rfl, Nat.le_of_ble_eq_true rfl⟩ dX7_fetch_23 (fun v w hw => ?_)
    obtain ⟨rfl, rfl⟩ := hw
    refine j_perm [0, 3, 4, 1, 2] [(u, .inr (7, [.ref o, .ref c, .ref va, .int (nI b), .int oc, .int ol])), (o, .inr (8, [.ref k, .int (nI (usN f n (nI y)))])), (k, .inl (ay 0, 100, .inl (usF f n (nI y)))), (c, .inr (1, [.int 0, .int pl, .int gv])), (va, .inl (ay 0, 100, .inl vf))] rfl rfl ?_
    refine j_pop F dX7_fetch_26 rfl ?_
    refine j_iload_n F 0 dX7_fetch_27 rfl ?_
    exact j_iret F ⟨by rw [if_pos hf], by simp only [usN, if_pos hf]⟩ dX7_fetch_28 (Nat.le_of_ble_eq_true rfl) (Nat.le_of_ble_eq_true rfl)
  · skip
    refine j_top (-1) (if_neg hf) ?_
    refine j_istore_n F 2 [(2, .int (-1)), (0, .ref u), (1, .int (nI y))] dX7_fetch_5 rfl (by decide) rfl ?_
    refine j_aload_n F 1 dX7_fetch_6 rfl ?_
    refine j_getf F fX7_21 0 rfl rfl dX7_fetch_7 ?_
    refine j_callV F kX7_50 (As := []) (rest := []) (c_X1_end l D ay c bg pl gv) 3 [3] [0, 1, 2, 4] [(u, .inr (7, [.ref o, .ref c, .ref va, .int (nI b), .int oc, .int ol])), (o, .inr (8, [.ref k, .int (nI n)])), (k, .inl (ay 0, 100, .inl f)), (va, .inl (ay 0, 100, .inl vf))] rfl rfl rfl rfl rfl rfl rfl ⟨Nat.le_of_ble_eq_true rfl, Nat.le_of_ble_eq_true rfl⟩ dX7_fetch_10 (fun v w hw => ?_)
    obtain ⟨rfl, rfl⟩ := hw
    refine j_perm [0, 1, 2, 4, 3] [(u, .inr (7, [.ref o, .ref c, .ref va, .int (nI b), .int oc, .int ol])), (o, .inr (8, [.ref k, .int (nI n)])), (k, .inl (ay 0, 100, .inl f)), (c, .inr (1, [.int 0, .int pl, .int gv])), (va, .inl (ay 0, 100, .inl vf))] rfl rfl ?_
    refine j_iload_n F 0 dX7_fetch_13 rfl ?_
    refine j_iconst F (v := (-1)) dX7_fetch_14 (by decide) ?_
    refine j_icmp_eq F 27 dX7_fetch_15 (by decide) (fun c_15 => ?_) (fun c_15 => absurd rfl c_15)
    refine j_iload_n F 0 dX7_fetch_27 rfl ?_
    exact j_iret F ⟨by rw [if_neg hf], by simp only [usN, if_neg hf]⟩ dX7_fetch_28 (Nat.le_of_ble_eq_true rfl) (Nat.le_of_ble_eq_true rfl)

set_option maxHeartbeats 4000000 in
set_option maxRecDepth 100000 in
theorem c_X7_drop (l : Launch) (D : va_G) (ay : Nat → ClassId) (u : Nat) (o : Nat) (k : Nat) (c : Nat) (va : Nat) (n : Nat) (f : Nat → Int32) (bg : Int32) (pl : Int32) (gv : Int32) (vf : Nat → Int32) (b : Nat) (oc : Int32) (ol : Int32) (y : Nat) (hn : n ≤ 100) (hy : y < 100) : jM l yX7_drop (jws yX7_drop cX7_drop 3 (some .int)) 3 64 0 0 D ay [.ref u, .int (nI y)] [(u, .inr (7, [.ref o, .ref c, .ref va, .int (nI b), .int oc, .int ol])), (o, .inr (8, [.ref k, .int (nI n)])), (k, .inl (ay 0, 100, .inl f)), (c, .inr (1, [.int bg, .int pl, .int gv])), (va, .inl (ay 0, 100, .inl vf))] (fun v w => v = some (.int (if fx f (nI y) n < n then vf y else -1)) ∧ w = [(u, .inr (7, [.ref o, .ref c, .ref va, .int (nI b), .int oc, .int ol])), (o, .inr (8, [.ref k, .int (nI (if fx f (nI y) n < n then n - 1 else n))])), (k, .inl (ay 0, 100, .inl (if fx f (nI y) n < n then shf f (fx f (nI y) n) n else f))), (c, .inr (1, [.int 0, .int pl, .int gv])), (va, .inl (ay 0, 100, .inl vf))]) := by
  refine jM_of l (by decide) [(0, .ref u), (1, .int (nI y))] rfl rfl (fun p9 e9 s9 m9 a9 b9 me9 c9 A9 F => ?_)
  refine j_aload_n F 0 dX7_drop_0 rfl ?_
  refine j_iload_n F 1 dX7_drop_1 rfl ?_
  refine j_callV F kX7_47 (As := [.int (nI y)]) (rest := []) (c_X7_lookUp l D ay u o k c va n f bg pl gv vf b oc ol y (by first | assumption | omega) (by first | assumption | omega)) 0 [0, 1, 2, 3, 4] [] [] rfl rfl rfl rfl rfl rfl rfl ⟨Nat.le_of_ble_eq_true rfl, Nat.le_of_ble_eq_true rfl⟩ dX7_drop_2 (fun v w hw => ?_)
  obtain ⟨rfl, rfl⟩ := hw
  refine j_perm [0, 1, 2, 3, 4] [(u, .inr (7, [.ref o, .ref c, .ref va, .int (nI b), .int oc, .int ol])), (o, .inr (8, [.ref k, .int (nI n)])), (k, .inl (ay 0, 100, .inl f)), (c, .inr (1, [.int bg, .int pl, .int gv])), (va, .inl (ay 0, 100, .inl vf))] rfl rfl ?_
  refine j_istore_n F 2 [(2, .int (if fx f (nI y) n < n then vf y else -1)), (0, .ref u), (1, .int (nI y))] dX7_drop_5 rfl (by decide) rfl ?_
  refine j_aload_n F 1 dX7_drop_6 rfl ?_
  refine j_getf F fX7_21 0 rfl rfl dX7_drop_7 ?_
  refine j_callV F kX7_50 (As := []) (rest := []) (c_X1_end l D ay c bg pl gv) 3 [3] [0, 1, 2, 4] [(u, .inr (7, [.ref o, .ref c, .ref va, .int (nI b), .int oc, .int ol])), (o, .inr (8, [.ref k, .int (nI n)])), (k, .inl (ay 0, 100, .inl f)), (va, .inl (ay 0, 100, .inl vf))] rfl rfl rfl rfl rfl rfl rfl ⟨Nat.le_of_ble_eq_true rfl, Nat.le_of_ble_eq_true rfl⟩ dX7_drop_10 (fun v w hw => ?_)
  obtain ⟨rfl, rfl⟩ := hw
  refine j_perm [0, 1, 2, 4, 3] [(u, .inr (7, [.ref o, .ref c, .ref va, .int (nI b), .int oc, .int ol])), (o, .inr (8, [.ref k, .int (nI n)])), (k, .inl (ay 0, 100, .inl f)), (c, .inr (1, [.int 0, .int pl, .int gv])), (va, .inl (ay 0, 100, .inl vf))] rfl rfl ?_
  refine j_aload_n F 1 dX7_drop_13 rfl ?_
  refine j_getf F fX7_12 0 rfl rfl dX7_drop_14 ?_
  refine j_aload_n F 1 dX7_drop_17 rfl ?_
  refine j_getf F fX7_12 0 rfl rfl dX7_drop_18 ?_
  refine j_iload_n F 2 dX7_drop_21 rfl ?_
  refine j_callV F kX7_67 (As := [.int (nI y)]) (rest := [.ref o]) (c_X8_find l D ay o k n f (nI y) (by first | assumption | omega)) 1 [1, 2] [0, 3, 4] [(u, .inr (7, [.ref o, .ref c, .ref va, .int (nI b), .int oc, .int ol])), (c, .inr (1, [.int 0, .int pl, .int gv])), (va, .inl (ay 0, 100, .inl vf))] rfl rfl rfl rfl rfl rfl rfl ⟨Nat.le_of_ble_eq_true rfl, Nat.le_of_ble_eq_true rfl⟩ dX7_drop_22 (fun v w hw => ?_)
  obtain ⟨rfl, rfl⟩ := hw
  refine j_perm [0, 3, 4, 1, 2] [(u, .inr (7, [.ref o, .ref c, .ref va, .int (nI b), .int oc, .int ol])), (o, .inr (8, [.ref k, .int (nI n)])), (k, .inl (ay 0, 100, .inl f)), (c, .inr (1, [.int 0, .int pl, .int gv])), (va, .inl (ay 0, 100, .inl vf))] rfl rfl ?_
  by_cases hf : fx f (nI y) n < n
  · skip
    refine j_top (nI (fx f (nI y) n)) (if_pos hf) ?_
    refine j_callV F kX7_70 (As := [.int (nI (fx f (nI y) n))]) (rest := []) (c_X8_dropIn l D ay o k n f (fx f (nI y) n) hn hf) 1 [1, 2] [0, 3, 4] [(u, .inr (7, [.ref o, .ref c, .ref va, .int (nI b), .int oc, .int ol])), (c, .inr (1, [.int 0, .int pl, .int gv])), (va, .inl (ay 0, 100, .inl vf))] rfl rfl rfl rfl rfl rfl rfl ⟨Nat.le_of_ble_eq_true rfl, Nat.le_of_ble_eq_true rfl⟩ dX7_drop_25 (fun v w hw => ?_)
    obtain ⟨rfl, rfl⟩ := hw
    refine j_perm [0, 3, 4, 1, 2] [(u, .inr (7, [.ref o, .ref c, .ref va, .int (nI b), .int oc, .int ol])), (o, .inr (8, [.ref k, .int (nI (n - 1))])), (k, .inl (ay 0, 100, .inl (shf f (fx f (nI y) n) n))), (c, .inr (1, [.int 0, .int pl, .int gv])), (va, .inl (ay 0, 100, .inl vf))] rfl rfl ?_
    refine j_iload_n F 0 dX7_drop_28 rfl ?_
    exact j_iret F ⟨rfl, by simp only [if_pos hf]⟩ dX7_drop_29 (Nat.le_of_ble_eq_true rfl) (Nat.le_of_ble_eq_true rfl)
  · skip
    refine j_top (-1) (if_neg hf) ?_
    refine j_callV F kX7_70 (As := [.int (-1)]) (rest := []) (c_X8_dropIn_none l D ay o k n f) 1 [1, 2] [0, 3, 4] [(u, .inr (7, [.ref o, .ref c, .ref va, .int (nI b), .int oc, .int ol])), (c, .inr (1, [.int 0, .int pl, .int gv])), (va, .inl (ay 0, 100, .inl vf))] rfl rfl rfl rfl rfl rfl rfl ⟨Nat.le_of_ble_eq_true rfl, Nat.le_of_ble_eq_true rfl⟩ dX7_drop_25 (fun v w hw => ?_)
    obtain ⟨rfl, rfl⟩ := hw
    refine j_perm [0, 3, 4, 1, 2] [(u, .inr (7, [.ref o, .ref c, .ref va, .int (nI b), .int oc, .int ol])), (o, .inr (8, [.ref k, .int (nI n)])), (k, .inl (ay 0, 100, .inl f)), (c, .inr (1, [.int 0, .int pl, .int gv])), (va, .inl (ay 0, 100, .inl vf))] rfl rfl ?_
    refine j_iload_n F 0 dX7_drop_28 rfl ?_
    exact j_iret F ⟨rfl, by simp only [if_neg hf]⟩ dX7_drop_29 (Nat.le_of_ble_eq_true rfl) (Nat.le_of_ble_eq_true rfl)

set_option maxHeartbeats 4000000 in
set_option maxRecDepth 100000 in
theorem c_X7_dropAll (l : Launch) (D : va_G) (ay : Nat → ClassId) (u : Nat) (o : Nat) (k : Nat) (c : Nat) (va : Nat) (n : Nat) (f : Nat → Int32) (bg : Int32) (pl : Int32) (gv : Int32) (vf : Nat → Int32) (b : Nat) (oc : Int32) (ol : Int32) : jM l yX7_dropAll (jws yX7_dropAll cX7_dropAll 2 (some .int)) 1 20 0 0 D ay [.ref u] [(u, .inr (7, [.ref o, .ref c, .ref va, .int (nI b), .int oc, .int ol])), (o, .inr (8, [.ref k, .int (nI n)])), (k, .inl (ay 0, 100, .inl f)), (c, .inr (1, [.int bg, .int pl, .int gv])), (va, .inl (ay 0, 100, .inl vf))] (fun v w => v = some (.int (nI n)) ∧ w = [(u, .inr (7, [.ref o, .ref c, .ref va, .int (nI b), .int oc, .int ol])), (o, .inr (8, [.ref k, .int (nI 0)])), (k, .inl (ay 0, 100, .inl f)), (c, .inr (1, [.int 0, .int pl, .int gv])), (va, .inl (ay 0, 100, .inl vf))]) := by
  refine jM_of l (by decide) [(0, .ref u)] rfl rfl (fun p9 e9 s9 m9 a9 b9 me9 c9 A9 F => ?_)
  refine j_aload_n F 0 dX7_dropAll_0 rfl ?_
  refine j_getf F fX7_12 0 rfl rfl dX7_dropAll_1 ?_
  refine j_callV F kX7_73 (As := []) (rest := []) (c_X8_length l D ay o k n f) 1 [1, 2] [0, 3, 4] [(u, .inr (7, [.ref o, .ref c, .ref va, .int (nI b), .int oc, .int ol])), (c, .inr (1, [.int bg, .int pl, .int gv])), (va, .inl (ay 0, 100, .inl vf))] rfl rfl rfl rfl rfl rfl rfl ⟨Nat.le_of_ble_eq_true rfl, Nat.le_of_ble_eq_true rfl⟩ dX7_dropAll_4 (fun v w hw => ?_)
  obtain ⟨rfl, rfl⟩ := hw
  refine j_perm [0, 3, 4, 1, 2] [(u, .inr (7, [.ref o, .ref c, .ref va, .int (nI b), .int oc, .int ol])), (o, .inr (8, [.ref k, .int (nI n)])), (k, .inl (ay 0, 100, .inl f)), (c, .inr (1, [.int bg, .int pl, .int gv])), (va, .inl (ay 0, 100, .inl vf))] rfl rfl ?_
  refine j_istore_n F 1 [(1, .int (nI n)), (0, .ref u)] dX7_dropAll_7 rfl (by decide) rfl ?_
  refine j_aload_n F 1 dX7_dropAll_8 rfl ?_
  refine j_getf F fX7_21 0 rfl rfl dX7_dropAll_9 ?_
  refine j_callV F kX7_50 (As := []) (rest := []) (c_X1_end l D ay c bg pl gv) 3 [3] [0, 1, 2, 4] [(u, .inr (7, [.ref o, .ref c, .ref va, .int (nI b), .int oc, .int ol])), (o, .inr (8, [.ref k, .int (nI n)])), (k, .inl (ay 0, 100, .inl f)), (va, .inl (ay 0, 100, .inl vf))] rfl rfl rfl rfl rfl rfl rfl ⟨Nat.le_of_ble_eq_true rfl, Nat.le_of_ble_eq_true rfl⟩ dX7_dropAll_12 (fun v w hw => ?_)
  obtain ⟨rfl, rfl⟩ := hw
  refine j_perm [0, 1, 2, 4, 3] [(u, .inr (7, [.ref o, .ref c, .ref va, .int (nI b), .int oc, .int ol])), (o, .inr (8, [.ref k, .int (nI n)])), (k, .inl (ay 0, 100, .inl f)), (c, .inr (1, [.int 0, .int pl, .int gv])), (va, .inl (ay 0, 100, .inl vf))] rfl rfl ?_
  refine j_aload_n F 1 dX7_dropAll_15 rfl ?_
  refine j_getf F fX7_12 0 rfl rfl dX7_dropAll_16 ?_
  refine j_callV F kX7_77 (As := []) (rest := []) (c_X8_dropAll l D ay o k n f) 1 [1, 2] [0, 3, 4] [(u, .inr (7, [.ref o, .ref c, .ref va, .int (nI b), .int oc, .int ol])), (c, .inr (1, [.int 0, .int pl, .int gv])), (va, .inl (ay 0, 100, .inl vf))] rfl rfl rfl rfl rfl rfl rfl ⟨Nat.le_of_ble_eq_true rfl, Nat.le_of_ble_eq_true rfl⟩ dX7_dropAll_19 (fun v w hw => ?_)
  obtain ⟨rfl, rfl⟩ := hw
  refine j_perm [0, 3, 4, 1, 2] [(u, .inr (7, [.ref o, .ref c, .ref va, .int (nI b), .int oc, .int ol])), (o, .inr (8, [.ref k, .int (nI 0)])), (k, .inl (ay 0, 100, .inl f)), (c, .inr (1, [.int 0, .int pl, .int gv])), (va, .inl (ay 0, 100, .inl vf))] rfl rfl ?_
  refine j_iload_n F 0 dX7_dropAll_22 rfl ?_
  exact j_iret F ⟨rfl, rfl⟩ dX7_dropAll_23 (Nat.le_of_ble_eq_true rfl) (Nat.le_of_ble_eq_true rfl)

set_option maxHeartbeats 4000000 in
set_option maxRecDepth 100000 in
theorem c_X7_changeBound (l : Launch) (D : va_G) (ay : Nat → ClassId) (u : Nat) (o : Nat) (k : Nat) (c : Nat) (va : Nat) (n : Nat) (f : Nat → Int32) (bg : Int32) (pl : Int32) (gv : Int32) (vf : Nat → Int32) (b : Nat) (oc : Int32) (ol : Int32) (x : Int32) : jM l yX7_changeBound (jws yX7_changeBound cX7_changeBound 3 (some .int)) 2 41 0 0 D ay [.ref u, .int x] [(u, .inr (7, [.ref o, .ref c, .ref va, .int (nI b), .int oc, .int ol])), (o, .inr (8, [.ref k, .int (nI n)])), (k, .inl (ay 0, 100, .inl f)), (c, .inr (1, [.int bg, .int pl, .int gv])), (va, .inl (ay 0, 100, .inl vf))] (fun v w => v = some (.int (nI b)) ∧ w = [(u, .inr (7, [.ref o, .ref c, .ref va, .int x, .int oc, .int ol])), (o, .inr (8, [.ref k, .int (nI 0)])), (k, .inl (ay 0, 100, .inl f)), (c, .inr (1, [.int 0, .int pl, .int gv])), (va, .inl (ay 0, 100, .inl vf))]) := by
  refine jM_of l (by decide) [(0, .ref u), (1, .int x)] rfl rfl (fun p9 e9 s9 m9 a9 b9 me9 c9 A9 F => ?_)
  refine j_aload_n F 0 dX7_changeBound_0 rfl ?_
  refine j_getf F fX7_36 0 rfl rfl dX7_changeBound_1 ?_
  refine j_istore_n F 2 [(2, .int (nI b)), (0, .ref u), (1, .int x)] dX7_changeBound_4 rfl (by decide) rfl ?_
  refine j_aload_n F 1 dX7_changeBound_5 rfl ?_
  refine j_callV F kX7_80 (As := []) (rest := []) (c_X7_dropAll l D ay u o k c va n f bg pl gv vf b oc ol) 0 [0, 1, 2, 3, 4] [] [] rfl rfl rfl rfl rfl rfl rfl ⟨Nat.le_of_ble_eq_true rfl, Nat.le_of_ble_eq_true rfl⟩ dX7_changeBound_6 (fun v w hw => ?_)
  obtain ⟨rfl, rfl⟩ := hw
  refine j_perm [0, 1, 2, 3, 4] [(u, .inr (7, [.ref o, .ref c, .ref va, .int (nI b), .int oc, .int ol])), (o, .inr (8, [.ref k, .int (nI 0)])), (k, .inl (ay 0, 100, .inl f)), (c, .inr (1, [.int 0, .int pl, .int gv])), (va, .inl (ay 0, 100, .inl vf))] rfl rfl ?_
  refine j_pop F dX7_changeBound_9 rfl ?_
  refine j_aload_n F 1 dX7_changeBound_10 rfl ?_
  refine j_iload_n F 2 dX7_changeBound_11 rfl ?_
  refine j_putf F fX7_36 0 [(u, .inr (7, [.ref o, .ref c, .ref va, .int x, .int oc, .int ol])), (o, .inr (8, [.ref k, .int (nI 0)])), (k, .inl (ay 0, 100, .inl f)), (c, .inr (1, [.int 0, .int pl, .int gv])), (va, .inl (ay 0, 100, .inl vf))] rfl rfl rfl rfl rfl (Nat.le_of_ble_eq_true rfl) dX7_changeBound_12 ?_
  refine j_iload_n F 0 dX7_changeBound_15 rfl ?_
  exact j_iret F ⟨rfl, rfl⟩ dX7_changeBound_16 (Nat.le_of_ble_eq_true rfl) (Nat.le_of_ble_eq_true rfl)

set_option maxHeartbeats 4000000 in
set_option maxRecDepth 100000 in
theorem c_X7_holdsValue (l : Launch) (D : va_G) (ay : Nat → ClassId) (u : Nat) (o : Nat) (k : Nat) (c : Nat) (va : Nat) (n : Nat) (f : Nat → Int32) (bg : Int32) (pl : Int32) (gv : Int32) (vf : Nat → Int32) (b : Nat) (oc : Int32) (ol : Int32) (kf : Nat → Nat) (x : Int32) (hn : n ≤ 100) (hk : ∀ j, j < n → kf j < 100 ∧ f j = nI (kf j)) : jM l yX7_holdsValue (jws yX7_holdsValue cX7_holdsValue 3 (some .boolean)) 4 85 0 0 D ay [.ref u, .int x] [(u, .inr (7, [.ref o, .ref c, .ref va, .int (nI b), .int oc, .int ol])), (o, .inr (8, [.ref k, .int (nI n)])), (k, .inl (ay 0, 100, .inl f)), (c, .inr (1, [.int bg, .int pl, .int gv])), (va, .inl (ay 0, 100, .inl vf))] (fun v w => v = some (.int (if fx (fun j => vf (kf j)) x n < n then 1 else 0)) ∧ w = [(u, .inr (7, [.ref o, .ref c, .ref va, .int (nI b), .int oc, .int ol])), (o, .inr (8, [.ref k, .int (nI n)])), (k, .inl (ay 0, 100, .inl f)), (c, .inr (1, [.int bg, .int pl, .int gv])), (va, .inl (ay 0, 100, .inl vf))]) := by
  refine jM_of l (by decide) [(0, .ref u), (1, .int x)] rfl rfl (fun p9 e9 s9 m9 a9 b9 me9 c9 A9 F => ?_)
  refine j_iconst F (v := 0) dX7_holdsValue_0 (by decide) ?_
  refine j_istore_n F 2 [(2, .int 0), (0, .ref u), (1, .int x)] dX7_holdsValue_1 rfl (by decide) rfl ?_
  refine j_loop (σ := Nat) (fun i => i ≤ n ∧ ∀ j, j < i → vf (kf j) ≠ x) (fun i => n - i) (fun i => [(2, .int (nI i)), (0, .ref u), (1, .int x)]) (fun _ => [(u, .inr (7, [.ref o, .ref c, .ref va, .int (nI b), .int oc, .int ol])), (o, .inr (8, [.ref k, .int (nI n)])), (k, .inl (ay 0, 100, .inl f)), (c, .inr (1, [.int bg, .int pl, .int gv])), (va, .inl (ay 0, 100, .inl vf))]) 0 ⟨Nat.zero_le _, fun j h => absurd h (Nat.not_lt_zero j)⟩ rfl rfl (fun i hI ih => ?_)
  obtain ⟨hi, hno⟩ := hI
  refine j_iload_n F 0 dX7_holdsValue_2 rfl ?_
  refine j_aload_n F 1 dX7_holdsValue_3 rfl ?_
  refine j_getf F fX7_12 0 rfl rfl dX7_holdsValue_4 ?_
  refine j_callV F kX7_73 (As := []) (rest := [.int (nI i)]) (c_X8_length l D ay o k n f) 1 [1, 2] [0, 3, 4] [(u, .inr (7, [.ref o, .ref c, .ref va, .int (nI b), .int oc, .int ol])), (c, .inr (1, [.int bg, .int pl, .int gv])), (va, .inl (ay 0, 100, .inl vf))] rfl rfl rfl rfl rfl rfl rfl ⟨Nat.le_of_ble_eq_true rfl, Nat.le_of_ble_eq_true rfl⟩ dX7_holdsValue_7 (fun v w hw => ?_)
  obtain ⟨rfl, rfl⟩ := hw
  refine j_perm [0, 3, 4, 1, 2] [(u, .inr (7, [.ref o, .ref c, .ref va, .int (nI b), .int oc, .int ol])), (o, .inr (8, [.ref k, .int (nI n)])), (k, .inl (ay 0, 100, .inl f)), (c, .inr (1, [.int bg, .int pl, .int gv])), (va, .inl (ay 0, 100, .inl vf))] rfl rfl ?_
  refine j_icmp_ge F 30 dX7_holdsValue_10 (by decide) (fun c_10 => ?_) (fun c_10 => ?_)
  · skip
    have n_10 := (n_le n i rfl rfl (by omega) (by omega)).mp c_10
    refine j_iconst F (v := 0) dX7_holdsValue_30 (by decide) ?_
    exact j_zret F (Or.inl rfl) ⟨by rw [fx_none (f := fun j => vf (kf j)) (fun j hj => hno j (by omega)), if_neg (by omega)], rfl⟩ dX7_holdsValue_31 (Nat.le_of_ble_eq_true rfl) (Nat.le_of_ble_eq_true rfl)
  · skip
    have n_10 := mt (n_le n i rfl rfl (by omega) (by omega)).mpr c_10
    refine j_aload_n F 1 dX7_holdsValue_13 rfl ?_
    refine j_iload_n F 0 dX7_holdsValue_14 rfl ?_
    refine j_callV F kX7_82 (As := [.int (nI i)]) (rest := []) (c_X7_valueIn l D ay u o k c va n f bg pl gv vf b oc ol i (kf i) hn (by omega) (hk i (by omega)).1 (hk i (by omega)).2) 0 [0, 1, 2, 3, 4] [] [] rfl rfl rfl rfl rfl rfl rfl ⟨Nat.le_of_ble_eq_true rfl, Nat.le_of_ble_eq_true rfl⟩ dX7_holdsValue_15 (fun v w hw => ?_)
    obtain ⟨rfl, rfl⟩ := hw
    refine j_perm [0, 1, 2, 3, 4] [(u, .inr (7, [.ref o, .ref c, .ref va, .int (nI b), .int oc, .int ol])), (o, .inr (8, [.ref k, .int (nI n)])), (k, .inl (ay 0, 100, .inl f)), (c, .inr (1, [.int bg, .int pl, .int gv])), (va, .inl (ay 0, 100, .inl vf))] rfl rfl ?_
    refine j_iload_n F 2 dX7_holdsValue_18 rfl ?_
    refine j_icmp_ne F 24 dX7_holdsValue_19 (by decide) (fun c_19 => ?_) (fun c_19 => ?_)
    · skip
      refine j_iinc F 0 (nI (i + 1)) [(2, .int (nI (i + 1))), (0, .ref u), (1, .int x)] dX7_holdsValue_24 rfl (nI_1 _) (by decide) rfl ?_
      refine j_goto F 2 dX7_holdsValue_27 (by decide) ?_
      exact ih (i + 1) ⟨by omega, fun j hj => by
          by_cases h : j = i
          · rw [h]; exact c_19
          · exact hno j (by omega)⟩ (by show n - (i + 1) < n - i; omega)
    · skip
      refine j_iconst F (v := 1) dX7_holdsValue_22 (by decide) ?_
      exact j_zret F (Or.inr rfl) ⟨by rw [fx_at (f := fun j => vf (kf j)) (show i < n by omega) hno c_19, if_pos (by omega)], rfl⟩ dX7_holdsValue_23 (Nat.le_of_ble_eq_true rfl) (Nat.le_of_ble_eq_true rfl)

set_option maxHeartbeats 4000000 in
set_option maxRecDepth 100000 in
theorem c_X7_total (l : Launch) (D : va_G) (ay : Nat → ClassId) (u : Nat) (o : Nat) (k : Nat) (c : Nat) (va : Nat) (n : Nat) (f : Nat → Int32) (bg : Int32) (pl : Int32) (gv : Int32) (vf : Nat → Int32) (b : Nat) (oc : Int32) (ol : Int32) (kf : Nat → Nat) (hn : n ≤ 100) (hk : ∀ j, j < n → kf j < 100 ∧ f j = nI (kf j)) : jM l yX7_total (jws yX7_total cX7_total 3 (some .int)) 4 85 0 0 D ay [.ref u] [(u, .inr (7, [.ref o, .ref c, .ref va, .int (nI b), .int oc, .int ol])), (o, .inr (8, [.ref k, .int (nI n)])), (k, .inl (ay 0, 100, .inl f)), (c, .inr (1, [.int bg, .int pl, .int gv])), (va, .inl (ay 0, 100, .inl vf))] (fun v w => v = some (.int (sm (fun j => vf (kf j)) n)) ∧ w = [(u, .inr (7, [.ref o, .ref c, .ref va, .int (nI b), .int oc, .int ol])), (o, .inr (8, [.ref k, .int (nI n)])), (k, .inl (ay 0, 100, .inl f)), (c, .inr (1, [.int bg, .int pl, .int gv])), (va, .inl (ay 0, 100, .inl vf))]) := by
  refine jM_of l (by decide) [(0, .ref u)] rfl rfl (fun p9 e9 s9 m9 a9 b9 me9 c9 A9 F => ?_)
  refine j_iconst F (v := 0) dX7_total_0 (by decide) ?_
  refine j_istore_n F 1 [(1, .int 0), (0, .ref u)] dX7_total_1 rfl (by decide) rfl ?_
  refine j_iconst F (v := 0) dX7_total_2 (by decide) ?_
  refine j_istore_n F 2 [(2, .int 0), (1, .int 0), (0, .ref u)] dX7_total_3 rfl (by decide) rfl ?_
  refine j_loop (σ := Nat) (fun i => i ≤ n) (fun i => n - i) (fun i => [(2, .int (nI i)), (1, .int (sm (fun j => vf (kf j)) i)), (0, .ref u)]) (fun _ => [(u, .inr (7, [.ref o, .ref c, .ref va, .int (nI b), .int oc, .int ol])), (o, .inr (8, [.ref k, .int (nI n)])), (k, .inl (ay 0, 100, .inl f)), (c, .inr (1, [.int bg, .int pl, .int gv])), (va, .inl (ay 0, 100, .inl vf))]) 0 (Nat.zero_le _) rfl rfl (fun i hi ih => ?_)
  refine j_iload_n F 0 dX7_total_4 rfl ?_
  refine j_aload_n F 2 dX7_total_5 rfl ?_
  refine j_getf F fX7_12 0 rfl rfl dX7_total_6 ?_
  refine j_callV F kX7_73 (As := []) (rest := [.int (nI i)]) (c_X8_length l D ay o k n f) 1 [1, 2] [0, 3, 4] [(u, .inr (7, [.ref o, .ref c, .ref va, .int (nI b), .int oc, .int ol])), (c, .inr (1, [.int bg, .int pl, .int gv])), (va, .inl (ay 0, 100, .inl vf))] rfl rfl rfl rfl rfl rfl rfl ⟨Nat.le_of_ble_eq_true rfl, Nat.le_of_ble_eq_true rfl⟩ dX7_total_9 (fun v w hw => ?_)
  obtain ⟨rfl, rfl⟩ := hw
  refine j_perm [0, 3, 4, 1, 2] [(u, .inr (7, [.ref o, .ref c, .ref va, .int (nI b), .int oc, .int ol])), (o, .inr (8, [.ref k, .int (nI n)])), (k, .inl (ay 0, 100, .inl f)), (c, .inr (1, [.int bg, .int pl, .int gv])), (va, .inl (ay 0, 100, .inl vf))] rfl rfl ?_
  refine j_icmp_ge F 29 dX7_total_12 (by decide) (fun c_12 => ?_) (fun c_12 => ?_)
  · skip
    have n_12 := (n_le n i rfl rfl (by omega) (by omega)).mp c_12
    refine j_iload_n F 1 dX7_total_29 rfl ?_
    exact j_iret F ⟨by rw [show i = n by omega], rfl⟩ dX7_total_30 (Nat.le_of_ble_eq_true rfl) (Nat.le_of_ble_eq_true rfl)
  · skip
    have n_12 := mt (n_le n i rfl rfl (by omega) (by omega)).mpr c_12
    refine j_iload_n F 1 dX7_total_15 rfl ?_
    refine j_aload_n F 2 dX7_total_16 rfl ?_
    refine j_iload_n F 0 dX7_total_17 rfl ?_
    refine j_callV F kX7_82 (As := [.int (nI i)]) (rest := [.int (sm (fun j => vf (kf j)) i)]) (c_X7_valueIn l D ay u o k c va n f bg pl gv vf b oc ol i (kf i) hn (by omega) (hk i (by omega)).1 (hk i (by omega)).2) 0 [0, 1, 2, 3, 4] [] [] rfl rfl rfl rfl rfl rfl rfl ⟨Nat.le_of_ble_eq_true rfl, Nat.le_of_ble_eq_true rfl⟩ dX7_total_18 (fun v w hw => ?_)
    obtain ⟨rfl, rfl⟩ := hw
    refine j_perm [0, 1, 2, 3, 4] [(u, .inr (7, [.ref o, .ref c, .ref va, .int (nI b), .int oc, .int ol])), (o, .inr (8, [.ref k, .int (nI n)])), (k, .inl (ay 0, 100, .inl f)), (c, .inr (1, [.int bg, .int pl, .int gv])), (va, .inl (ay 0, 100, .inl vf))] rfl rfl ?_
    refine j_iadd F dX7_total_21 ?_
    refine j_top (sm (fun j => vf (kf j)) (i + 1)) rfl ?_
    refine j_istore_n F 1 [(1, .int (sm (fun j => vf (kf j)) (i + 1))), (2, .int (nI i)), (0, .ref u)] dX7_total_22 rfl (by decide) rfl ?_
    refine j_iinc F 1 (nI (i + 1)) [(2, .int (nI (i + 1))), (1, .int (sm (fun j => vf (kf j)) (i + 1))), (0, .ref u)] dX7_total_23 rfl (nI_1 _) (by decide) rfl ?_
    refine j_goto F 4 dX7_total_26 (by decide) ?_
    exact ih (i + 1) (by omega) (by show n - (i + 1) < n - i; omega)
end
section
-- ---- Cache
set_option maxHeartbeats 4000000 in
set_option maxRecDepth 100000 in
theorem c_X0_keys (l : Launch) (D : va_G) (ay : Nat → ClassId) (h : Nat) (o : Nat) (k : Nat) (b : Nat) (hc : Int32) (n : Nat) (f : Nat → Int32) : jM l yX0_keys (jws yX0_keys cX0_keys 1 (some (.object "LastUseDesk$UseOrder"))) 0 0 0 0 D ay [.ref h] [(h, .inr (0, [.ref o, .int (nI b), .int hc])), (o, .inr (8, [.ref k, .int (nI n)])), (k, .inl (ay 0, 100, .inl f))] (fun v w => v = some (.ref o) ∧ w = [(h, .inr (0, [.ref o, .int (nI b), .int hc])), (o, .inr (8, [.ref k, .int (nI n)])), (k, .inl (ay 0, 100, .inl f))]) := by
  refine jM_of l (by decide) [(0, .ref h)] rfl rfl (fun p9 e9 s9 m9 a9 b9 me9 c9 A9 F => ?_)
  refine j_aload_n F 0 dX0_keys_0 rfl ?_
  refine j_getf F fX0_10 0 rfl rfl dX0_keys_1 ?_
  exact j_aret F ⟨rfl, rfl⟩ dX0_keys_4 (Nat.le_of_ble_eq_true rfl) (Nat.le_of_ble_eq_true rfl)

set_option maxHeartbeats 4000000 in
set_option maxRecDepth 100000 in
theorem c_X0_hitCount (l : Launch) (D : va_G) (ay : Nat → ClassId) (h : Nat) (o : Nat) (k : Nat) (b : Nat) (hc : Int32) (n : Nat) (f : Nat → Int32) : jM l yX0_hitCount (jws yX0_hitCount cX0_hitCount 1 (some .int)) 0 0 0 0 D ay [.ref h] [(h, .inr (0, [.ref o, .int (nI b), .int hc])), (o, .inr (8, [.ref k, .int (nI n)])), (k, .inl (ay 0, 100, .inl f))] (fun v w => v = some (.int hc) ∧ w = [(h, .inr (0, [.ref o, .int (nI b), .int hc])), (o, .inr (8, [.ref k, .int (nI n)])), (k, .inl (ay 0, 100, .inl f))]) := by
  refine jM_of l (by decide) [(0, .ref h)] rfl rfl (fun p9 e9 s9 m9 a9 b9 me9 c9 A9 F => ?_)
  refine j_aload_n F 0 dX0_hitCount_0 rfl ?_
  refine j_getf F fX0_16 0 rfl rfl dX0_hitCount_1 ?_
  exact j_iret F ⟨rfl, rfl⟩ dX0_hitCount_4 (Nat.le_of_ble_eq_true rfl) (Nat.le_of_ble_eq_true rfl)

set_option maxHeartbeats 4000000 in
set_option maxRecDepth 100000 in
theorem c_X0_ask (l : Launch) (D : va_G) (ay : Nat → ClassId) (h : Nat) (o : Nat) (k : Nat) (b : Nat) (hc : Int32) (n : Nat) (f : Nat → Int32) (key : Int32) (hn : n ≤ 100) (hq : fx f key n < n ∨ n < 100) (hb : b < 2 ^ 31) : jM l yX0_ask (jws yX0_ask cX0_ask 3 (some .boolean)) 2 44 0 0 D ay [.ref h, .int key] [(h, .inr (0, [.ref o, .int (nI b), .int hc])), (o, .inr (8, [.ref k, .int (nI n)])), (k, .inl (ay 0, 100, .inl f))] (fun v w => v = some (.int (if fx f key n < n then 1 else 0)) ∧ w = [(h, .inr (0, [.ref o, .int (nI b), .int (if fx f key n < n then hc + 1 else hc)])), (o, .inr (8, [.ref k, .int (nI (stN f n key b))])), (k, .inl (ay 0, 100, .inl (stF f n key b)))]) := by
  refine jM_of l (by decide) [(0, .ref h), (1, .int key)] rfl rfl (fun p9 e9 s9 m9 a9 b9 me9 c9 A9 F => ?_)
  refine j_aload_n F 0 dX0_ask_0 rfl ?_
  refine j_getf F fX0_10 0 rfl rfl dX0_ask_1 ?_
  refine j_iload_n F 1 dX0_ask_4 rfl ?_
  refine j_callV F kX0_23 (As := [.int key]) (rest := []) (c_X8_use l D ay o k n f key hn hq) 1 [1, 2] [0] [(h, .inr (0, [.ref o, .int (nI b), .int hc]))] rfl rfl rfl rfl rfl rfl rfl ⟨Nat.le_of_ble_eq_true rfl, Nat.le_of_ble_eq_true rfl⟩ dX0_ask_5 (fun v w hw => ?_)
  obtain ⟨rfl, rfl⟩ := hw
  refine j_perm [0, 1, 2] [(h, .inr (0, [.ref o, .int (nI b), .int hc])), (o, .inr (8, [.ref k, .int (nI (usN f n key))])), (k, .inl (ay 0, 100, .inl (usF f n key)))] rfl rfl ?_
  by_cases hf : fx f key n < n
  · skip
    refine j_top 1 (if_pos hf) ?_
    refine j_istore_n F 2 [(2, .int 1), (0, .ref h), (1, .int key)] dX0_ask_8 rfl (by decide) rfl ?_
    refine j_iload_n F 0 dX0_ask_9 rfl ?_
    refine j_if_eq F 23 dX0_ask_10 (by decide) (fun c_10 => absurd c_10 (by decide)) (fun c_10 => ?_)
    refine j_aload_n F 1 dX0_ask_13 rfl ?_
    refine j_dup F dX0_ask_14 rfl ?_
    refine j_getf F fX0_16 0 rfl rfl dX0_ask_15 ?_
    refine j_iconst F (v := 1) dX0_ask_18 (by decide) ?_
    refine j_iadd F dX0_ask_19 ?_
    refine j_putf F fX0_16 0 [(h, .inr (0, [.ref o, .int (nI b), .int (hc + 1)])), (o, .inr (8, [.ref k, .int (nI (usN f n key))])), (k, .inl (ay 0, 100, .inl (usF f n key)))] rfl rfl rfl rfl rfl (Nat.le_of_ble_eq_true rfl) dX0_ask_20 ?_
    refine j_aload_n F 1 dX0_ask_23 rfl ?_
    refine j_getf F fX0_10 0 rfl rfl dX0_ask_24 ?_
    refine j_aload_n F 1 dX0_ask_27 rfl ?_
    refine j_getf F fX0_20 0 rfl rfl dX0_ask_28 ?_
    refine j_callV F kX0_27 (As := [.int (nI b)]) (rest := []) (c_X8_dropBeyond l D ay o k (usN f n key) (usF f n key) b (usN_le hn hq) hb) 1 [1, 2] [0] [(h, .inr (0, [.ref o, .int (nI b), .int (hc + 1)]))] rfl rfl rfl rfl rfl rfl rfl ⟨Nat.le_of_ble_eq_true rfl, Nat.le_of_ble_eq_true rfl⟩ dX0_ask_31 (fun v w hw => ?_)
    obtain ⟨rfl, rfl⟩ := hw
    refine j_perm [0, 1, 2] [(h, .inr (0, [.ref o, .int (nI b), .int (hc + 1)])), (o, .inr (8, [.ref k, .int (nI (if (usN f n key) ≤ b then (usN f n key) else (usN f n key) - 1))])), (k, .inl (ay 0, 100, .inl (if (usN f n key) ≤ b then (usF f n key) else shf (usF f n key) 0 (usN f n key))))] rfl rfl ?_
    refine j_pop F dX0_ask_34 rfl ?_
    refine j_iload_n F 0 dX0_ask_35 rfl ?_
    exact j_zret F (Or.inr rfl) ⟨by rw [if_pos hf], by simp only [stN, stF, if_pos hf]⟩ dX0_ask_36 (Nat.le_of_ble_eq_true rfl) (Nat.le_of_ble_eq_true rfl)
  · skip
    refine j_top 0 (if_neg hf) ?_
    refine j_istore_n F 2 [(2, .int 0), (0, .ref h), (1, .int key)] dX0_ask_8 rfl (by decide) rfl ?_
    refine j_iload_n F 0 dX0_ask_9 rfl ?_
    refine j_if_eq F 23 dX0_ask_10 (by decide) (fun c_10 => ?_) (fun c_10 => absurd (by decide) c_10)
    refine j_aload_n F 1 dX0_ask_23 rfl ?_
    refine j_getf F fX0_10 0 rfl rfl dX0_ask_24 ?_
    refine j_aload_n F 1 dX0_ask_27 rfl ?_
    refine j_getf F fX0_20 0 rfl rfl dX0_ask_28 ?_
    refine j_callV F kX0_27 (As := [.int (nI b)]) (rest := []) (c_X8_dropBeyond l D ay o k (usN f n key) (usF f n key) b (usN_le hn hq) hb) 1 [1, 2] [0] [(h, .inr (0, [.ref o, .int (nI b), .int hc]))] rfl rfl rfl rfl rfl rfl rfl ⟨Nat.le_of_ble_eq_true rfl, Nat.le_of_ble_eq_true rfl⟩ dX0_ask_31 (fun v w hw => ?_)
    obtain ⟨rfl, rfl⟩ := hw
    refine j_perm [0, 1, 2] [(h, .inr (0, [.ref o, .int (nI b), .int hc])), (o, .inr (8, [.ref k, .int (nI (if (usN f n key) ≤ b then (usN f n key) else (usN f n key) - 1))])), (k, .inl (ay 0, 100, .inl (if (usN f n key) ≤ b then (usF f n key) else shf (usF f n key) 0 (usN f n key))))] rfl rfl ?_
    refine j_pop F dX0_ask_34 rfl ?_
    refine j_iload_n F 0 dX0_ask_35 rfl ?_
    exact j_zret F (Or.inl rfl) ⟨by rw [if_neg hf], by simp only [stN, stF, if_neg hf]⟩ dX0_ask_36 (Nat.le_of_ble_eq_true rfl) (Nat.le_of_ble_eq_true rfl)

set_option maxHeartbeats 4000000 in
set_option maxRecDepth 100000 in
theorem c_X0_restart (l : Launch) (D : va_G) (ay : Nat → ClassId) (h : Nat) (o : Nat) (k : Nat) (b : Nat) (hc : Int32) (n : Nat) (f : Nat → Int32) : jM l yX0_restart (jws yX0_restart cX0_restart 1 none) 1 20 0 0 D ay [.ref h] [(h, .inr (0, [.ref o, .int (nI b), .int hc])), (o, .inr (8, [.ref k, .int (nI n)])), (k, .inl (ay 0, 100, .inl f))] (fun v w => v = none ∧ w = [(h, .inr (0, [.ref o, .int (nI b), .int 0])), (o, .inr (8, [.ref k, .int (nI 0)])), (k, .inl (ay 0, 100, .inl f))]) := by
  refine jM_of l (by decide) [(0, .ref h)] rfl rfl (fun p9 e9 s9 m9 a9 b9 me9 c9 A9 F => ?_)
  refine j_aload_n F 0 dX0_restart_0 rfl ?_
  refine j_getf F fX0_10 0 rfl rfl dX0_restart_1 ?_
  refine j_callV F kX0_31 (As := []) (rest := []) (c_X8_dropAll l D ay o k n f) 1 [1, 2] [0] [(h, .inr (0, [.ref o, .int (nI b), .int hc]))] rfl rfl rfl rfl rfl rfl rfl ⟨Nat.le_of_ble_eq_true rfl, Nat.le_of_ble_eq_true rfl⟩ dX0_restart_4 (fun v w hw => ?_)
  obtain ⟨rfl, rfl⟩ := hw
  refine j_perm [0, 1, 2] [(h, .inr (0, [.ref o, .int (nI b), .int hc])), (o, .inr (8, [.ref k, .int (nI 0)])), (k, .inl (ay 0, 100, .inl f))] rfl rfl ?_
  refine j_aload_n F 0 dX0_restart_7 rfl ?_
  refine j_iconst F (v := 0) dX0_restart_8 (by decide) ?_
  refine j_putf F fX0_16 0 [(h, .inr (0, [.ref o, .int (nI b), .int 0])), (o, .inr (8, [.ref k, .int (nI 0)])), (k, .inl (ay 0, 100, .inl f))] rfl rfl rfl rfl rfl (Nat.le_of_ble_eq_true rfl) dX0_restart_9 ?_
  exact j_vret F ⟨rfl, rfl⟩ dX0_restart_12 (Nat.le_of_ble_eq_true rfl) (Nat.le_of_ble_eq_true rfl)

-- ---- RequestLog
/-- the distance of a key, from the order of the latest requests -/
def dsI (f : Nat → Int32) (n : Nat) (key : Int32) : Int32 := if fx f key n < n then nI (n - 1 - fx f key n) else -1
/-- how many of the first c distances are less than x -/
def cb (dr : Nat → Int32) (x : Int32) : Nat → Nat
  | 0 => 0
  | c + 1 => if ¬ dr c = -1 ∧ dr c < x then cb dr x c + 1 else cb dr x c
theorem cb_le (dr : Nat → Int32) (x : Int32) : ∀ c, cb dr x c ≤ c
  | 0 => Nat.le_refl 0
  | c + 1 => by
    have ih := cb_le dr x c
    show (if ¬ dr c = -1 ∧ dr c < x then cb dr x c + 1 else cb dr x c) ≤ c + 1
    split <;> omega
def dtot (dr : Nat → Int32) : Nat → Int32
  | 0 => 0
  | c + 1 => if dr c = -1 then dtot dr c else dtot dr c + dr c
set_option maxHeartbeats 4000000 in
set_option maxRecDepth 100000 in
theorem c_X5_length (l : Launch) (D : va_G) (ay : Nat → ClassId) (g : Nat) (ka : Nat) (da : Nat) (o : Nat) (k : Nat) (c : Nat) (kr : Nat → Int32) (dr : Nat → Int32) (n : Nat) (f : Nat → Int32) : jM l yX5_length (jws yX5_length cX5_length 1 (some .int)) 0 0 0 0 D ay [.ref g] [(g, .inr (5, [.ref ka, .ref da, .ref o, .int (nI c)])), (ka, .inl (ay 0, 1000, .inl kr)), (da, .inl (ay 0, 1000, .inl dr)), (o, .inr (8, [.ref k, .int (nI n)])), (k, .inl (ay 0, 100, .inl f))] (fun v w => v = some (.int (nI c)) ∧ w = [(g, .inr (5, [.ref ka, .ref da, .ref o, .int (nI c)])), (ka, .inl (ay 0, 1000, .inl kr)), (da, .inl (ay 0, 1000, .inl dr)), (o, .inr (8, [.ref k, .int (nI n)])), (k, .inl (ay 0, 100, .inl f))]) := by
  refine jM_of l (by decide) [(0, .ref g)] rfl rfl (fun p9 e9 s9 m9 a9 b9 me9 c9 A9 F => ?_)
  refine j_aload_n F 0 dX5_length_0 rfl ?_
  refine j_getf F fX5_25 0 rfl rfl dX5_length_1 ?_
  exact j_iret F ⟨rfl, rfl⟩ dX5_length_4 (Nat.le_of_ble_eq_true rfl) (Nat.le_of_ble_eq_true rfl)

set_option maxHeartbeats 4000000 in
set_option maxRecDepth 100000 in
theorem c_X5_keyIn (l : Launch) (D : va_G) (ay : Nat → ClassId) (g : Nat) (ka : Nat) (da : Nat) (o : Nat) (k : Nat) (c : Nat) (kr : Nat → Int32) (dr : Nat → Int32) (n : Nat) (f : Nat → Int32) (j : Nat) (hc : c ≤ 1000) (hj : j < c) : jM l yX5_keyIn (jws yX5_keyIn cX5_keyIn 2 (some .int)) 0 0 0 0 D ay [.ref g, .int (nI j)] [(g, .inr (5, [.ref ka, .ref da, .ref o, .int (nI c)])), (ka, .inl (ay 0, 1000, .inl kr)), (da, .inl (ay 0, 1000, .inl dr)), (o, .inr (8, [.ref k, .int (nI n)])), (k, .inl (ay 0, 100, .inl f))] (fun v w => v = some (.int (kr j)) ∧ w = [(g, .inr (5, [.ref ka, .ref da, .ref o, .int (nI c)])), (ka, .inl (ay 0, 1000, .inl kr)), (da, .inl (ay 0, 1000, .inl dr)), (o, .inr (8, [.ref k, .int (nI n)])), (k, .inl (ay 0, 100, .inl f))]) := by
  refine jM_of l (by decide) [(0, .ref g), (1, .int (nI j))] rfl rfl (fun p9 e9 s9 m9 a9 b9 me9 c9 A9 F => ?_)
  refine j_iload_n F 1 dX5_keyIn_0 rfl ?_
  refine j_if_lt F 21 dX5_keyIn_1 (by decide) (fun c_1 => absurd c_1 (nI_pos (by omega))) (fun c_1 => ?_)
  refine j_iload_n F 1 dX5_keyIn_4 rfl ?_
  refine j_aload_n F 0 dX5_keyIn_5 rfl ?_
  refine j_getf F fX5_25 0 rfl rfl dX5_keyIn_6 ?_
  refine j_icmp_ge F 21 dX5_keyIn_9 (by decide) (fun c_9 => absurd c_9 (nI_ge hj (by omega))) (fun c_9 => ?_)
  refine j_aload_n F 0 dX5_keyIn_12 rfl ?_
  refine j_getf F fX5_9 0 rfl rfl dX5_keyIn_13 ?_
  refine j_iload_n F 1 dX5_keyIn_16 rfl ?_
  refine j_iald F 1 j rfl rfl (by omega) (Nat.le_of_ble_eq_true rfl) dX5_keyIn_17 ?_
  refine j_goto F 22 dX5_keyIn_18 (by decide) ?_
  exact j_iret F ⟨rfl, rfl⟩ dX5_keyIn_22 (Nat.le_of_ble_eq_true rfl) (Nat.le_of_ble_eq_true rfl)

set_option maxHeartbeats 4000000 in
set_option maxRecDepth 100000 in
theorem c_X5_distanceIn (l : Launch) (D : va_G) (ay : Nat → ClassId) (g : Nat) (ka : Nat) (da : Nat) (o : Nat) (k : Nat) (c : Nat) (kr : Nat → Int32) (dr : Nat → Int32) (n : Nat) (f : Nat → Int32) (j : Nat) (hc : c ≤ 1000) (hj : j < c) : jM l yX5_distanceIn (jws yX5_distanceIn cX5_distanceIn 2 (some .int)) 0 0 0 0 D ay [.ref g, .int (nI j)] [(g, .inr (5, [.ref ka, .ref da, .ref o, .int (nI c)])), (ka, .inl (ay 0, 1000, .inl kr)), (da, .inl (ay 0, 1000, .inl dr)), (o, .inr (8, [.ref k, .int (nI n)])), (k, .inl (ay 0, 100, .inl f))] (fun v w => v = some (.int (dr j)) ∧ w = [(g, .inr (5, [.ref ka, .ref da, .ref o, .int (nI c)])), (ka, .inl (ay 0, 1000, .inl kr)), (da, .inl (ay 0, 1000, .inl dr)), (o, .inr (8, [.ref k, .int (nI n)])), (k, .inl (ay 0, 100, .inl f))]) := by
  refine jM_of l (by decide) [(0, .ref g), (1, .int (nI j))] rfl rfl (fun p9 e9 s9 m9 a9 b9 me9 c9 A9 F => ?_)
  refine j_iload_n F 1 dX5_distanceIn_0 rfl ?_
  refine j_if_lt F 21 dX5_distanceIn_1 (by decide) (fun c_1 => absurd c_1 (nI_pos (by omega))) (fun c_1 => ?_)
  refine j_iload_n F 1 dX5_distanceIn_4 rfl ?_
  refine j_aload_n F 0 dX5_distanceIn_5 rfl ?_
  refine j_getf F fX5_25 0 rfl rfl dX5_distanceIn_6 ?_
  refine j_icmp_ge F 21 dX5_distanceIn_9 (by decide) (fun c_9 => absurd c_9 (nI_ge hj (by omega))) (fun c_9 => ?_)
  refine j_aload_n F 0 dX5_distanceIn_12 rfl ?_
  refine j_getf F fX5_15 0 rfl rfl dX5_distanceIn_13 ?_
  refine j_iload_n F 1 dX5_distanceIn_16 rfl ?_
  refine j_iald F 2 j rfl rfl (by omega) (Nat.le_of_ble_eq_true rfl) dX5_distanceIn_17 ?_
  refine j_goto F 22 dX5_distanceIn_18 (by decide) ?_
  exact j_iret F ⟨rfl, rfl⟩ dX5_distanceIn_22 (Nat.le_of_ble_eq_true rfl) (Nat.le_of_ble_eq_true rfl)

set_option maxHeartbeats 4000000 in
set_option maxRecDepth 100000 in
theorem c_X5_distanceTo (l : Launch) (D : va_G) (ay : Nat → ClassId) (g : Nat) (ka : Nat) (da : Nat) (o : Nat) (k : Nat) (c : Nat) (kr : Nat → Int32) (dr : Nat → Int32) (n : Nat) (f : Nat → Int32) (key : Int32) (hn : n ≤ 100) : jM l yX5_distanceTo (jws yX5_distanceTo cX5_distanceTo 3 (some .int)) 1 22 0 0 D ay [.ref g, .int key] [(g, .inr (5, [.ref ka, .ref da, .ref o, .int (nI c)])), (ka, .inl (ay 0, 1000, .inl kr)), (da, .inl (ay 0, 1000, .inl dr)), (o, .inr (8, [.ref k, .int (nI n)])), (k, .inl (ay 0, 100, .inl f))] (fun v w => v = some (.int (dsI f n key)) ∧ w = [(g, .inr (5, [.ref ka, .ref da, .ref o, .int (nI c)])), (ka, .inl (ay 0, 1000, .inl kr)), (da, .inl (ay 0, 1000, .inl dr)), (o, .inr (8, [.ref k, .int (nI n)])), (k, .inl (ay 0, 100, .inl f))]) := by
  refine jM_of l (by decide) [(0, .ref g), (1, .int key)] rfl rfl (fun p9 e9 s9 m9 a9 b9 me9 c9 A9 F => ?_)
  refine j_aload_n F 0 dX5_distanceTo_0 rfl ?_
  refine j_getf F fX5_21 0 rfl rfl dX5_distanceTo_1 ?_
  refine j_iload_n F 1 dX5_distanceTo_4 rfl ?_
  refine j_callV F kX5_40 (As := [.int key]) (rest := []) (c_X8_find l D ay o k n f key (by first | assumption | omega)) 3 [3, 4] [0, 1, 2] [(g, .inr (5, [.ref ka, .ref da, .ref o, .int (nI c)])), (ka, .inl (ay 0, 1000, .inl kr)), (da, .inl (ay 0, 1000, .inl dr))] rfl rfl rfl rfl rfl rfl rfl ⟨Nat.le_of_ble_eq_true rfl, Nat.le_of_ble_eq_true rfl⟩ dX5_distanceTo_5 (fun v w hw => ?_)
  obtain ⟨rfl, rfl⟩ := hw
  refine j_perm [0, 1, 2, 3, 4] [(g, .inr (5, [.ref ka, .ref da, .ref o, .int (nI c)])), (ka, .inl (ay 0, 1000, .inl kr)), (da, .inl (ay 0, 1000, .inl dr)), (o, .inr (8, [.ref k, .int (nI n)])), (k, .inl (ay 0, 100, .inl f))] rfl rfl ?_
  by_cases hf : fx f key n < n
  · skip
    refine j_top (nI (fx f key n)) (if_pos hf) ?_
    refine j_istore_n F 2 [(2, .int (nI (fx f key n))), (0, .ref g), (1, .int key)] dX5_distanceTo_8 rfl (by decide) rfl ?_
    refine j_iload_n F 0 dX5_distanceTo_9 rfl ?_
    refine j_iconst F (v := (-1)) dX5_distanceTo_10 (by decide) ?_
    refine j_icmp_ne F 18 dX5_distanceTo_11 (by decide) (fun c_11 => ?_) (fun c_11 => absurd c_11 (nI_m1 (by omega)))
    refine j_aload_n F 1 dX5_distanceTo_18 rfl ?_
    refine j_getf F fX5_21 0 rfl rfl dX5_distanceTo_19 ?_
    refine j_callV F kX5_43 (As := []) (rest := []) (c_X8_length l D ay o k n f) 3 [3, 4] [0, 1, 2] [(g, .inr (5, [.ref ka, .ref da, .ref o, .int (nI c)])), (ka, .inl (ay 0, 1000, .inl kr)), (da, .inl (ay 0, 1000, .inl dr))] rfl rfl rfl rfl rfl rfl rfl ⟨Nat.le_of_ble_eq_true rfl, Nat.le_of_ble_eq_true rfl⟩ dX5_distanceTo_22 (fun v w hw => ?_)
    obtain ⟨rfl, rfl⟩ := hw
    refine j_perm [0, 1, 2, 3, 4] [(g, .inr (5, [.ref ka, .ref da, .ref o, .int (nI c)])), (ka, .inl (ay 0, 1000, .inl kr)), (da, .inl (ay 0, 1000, .inl dr)), (o, .inr (8, [.ref k, .int (nI n)])), (k, .inl (ay 0, 100, .inl f))] rfl rfl ?_
    refine j_iconst F (v := 1) dX5_distanceTo_25 (by decide) ?_
    refine j_isub F dX5_distanceTo_26 ?_
    refine j_top (nI (n - 1)) (pk_sub (a := n) (b := 1) (by omega)) ?_
    refine j_iload_n F 0 dX5_distanceTo_27 rfl ?_
    refine j_isub F dX5_distanceTo_28 ?_
    refine j_top (nI (n - 1 - fx f key n)) (pk_sub (by omega)) ?_
    exact j_iret F ⟨by rw [dsI, if_pos hf], rfl⟩ dX5_distanceTo_29 (Nat.le_of_ble_eq_true rfl) (Nat.le_of_ble_eq_true rfl)
  · skip
    refine j_top (-1) (if_neg hf) ?_
    refine j_istore_n F 2 [(2, .int (-1)), (0, .ref g), (1, .int key)] dX5_distanceTo_8 rfl (by decide) rfl ?_
    refine j_iload_n F 0 dX5_distanceTo_9 rfl ?_
    refine j_iconst F (v := (-1)) dX5_distanceTo_10 (by decide) ?_
    refine j_icmp_ne F 18 dX5_distanceTo_11 (by decide) (fun c_11 => absurd rfl c_11) (fun c_11 => ?_)
    refine j_iconst F (v := (-1)) dX5_distanceTo_14 (by decide) ?_
    refine j_goto F 29 dX5_distanceTo_15 (by decide) ?_
    exact j_iret F ⟨by rw [dsI, if_neg hf], rfl⟩ dX5_distanceTo_29 (Nat.le_of_ble_eq_true rfl) (Nat.le_of_ble_eq_true rfl)

set_option maxHeartbeats 4000000 in
set_option maxRecDepth 100000 in
theorem c_X5_note (l : Launch) (D : va_G) (ay : Nat → ClassId) (g : Nat) (ka : Nat) (da : Nat) (o : Nat) (k : Nat) (c : Nat) (kr : Nat → Int32) (dr : Nat → Int32) (n : Nat) (f : Nat → Int32) (key : Int32) (hc : c < 1000) (hn : n ≤ 100) (hq : fx f key n < n ∨ n < 100) : jM l yX5_note (jws yX5_note cX5_note 2 none) 2 44 0 0 D ay [.ref g, .int key] [(g, .inr (5, [.ref ka, .ref da, .ref o, .int (nI c)])), (ka, .inl (ay 0, 1000, .inl kr)), (da, .inl (ay 0, 1000, .inl dr)), (o, .inr (8, [.ref k, .int (nI n)])), (k, .inl (ay 0, 100, .inl f))] (fun v w => v = none ∧ w = [(g, .inr (5, [.ref ka, .ref da, .ref o, .int (nI (c + 1))])), (ka, .inl (ay 0, 1000, .inl (upd kr c key))), (da, .inl (ay 0, 1000, .inl (upd dr c (dsI f n key)))), (o, .inr (8, [.ref k, .int (nI (usN f n key))])), (k, .inl (ay 0, 100, .inl (usF f n key)))]) := by
  refine jM_of l (by decide) [(0, .ref g), (1, .int key)] rfl rfl (fun p9 e9 s9 m9 a9 b9 me9 c9 A9 F => ?_)
  refine j_aload_n F 0 dX5_note_0 rfl ?_
  refine j_getf F fX5_25 0 rfl rfl dX5_note_1 ?_
  refine j_sipush F (v := 1000) dX5_note_4 (by decide) ?_
  refine j_icmp_lt F 11 dX5_note_7 (by decide) (fun c_7 => ?_) (fun c_7 => absurd (nI_lt (b := 1000) hc (by decide)) c_7)
  refine j_aload_n F 0 dX5_note_11 rfl ?_
  refine j_getf F fX5_9 0 rfl rfl dX5_note_12 ?_
  refine j_aload_n F 0 dX5_note_15 rfl ?_
  refine j_getf F fX5_25 0 rfl rfl dX5_note_16 ?_
  refine j_iload_n F 1 dX5_note_19 rfl ?_
  refine j_iast F 1 [(g, .inr (5, [.ref ka, .ref da, .ref o, .int (nI c)])), (ka, .inl (ay 0, 1000, .inl (upd kr c key))), (da, .inl (ay 0, 1000, .inl dr)), (o, .inr (8, [.ref k, .int (nI n)])), (k, .inl (ay 0, 100, .inl f))] c rfl rfl (by omega) (Nat.le_of_ble_eq_true rfl) rfl dX5_note_20 ?_
  refine j_aload_n F 0 dX5_note_21 rfl ?_
  refine j_getf F fX5_15 0 rfl rfl dX5_note_22 ?_
  refine j_aload_n F 0 dX5_note_25 rfl ?_
  refine j_getf F fX5_25 0 rfl rfl dX5_note_26 ?_
  refine j_aload_n F 0 dX5_note_29 rfl ?_
  refine j_iload_n F 1 dX5_note_30 rfl ?_
  refine j_callV F kX5_29 (As := [.int key]) (rest := [.int (nI c), .ref da]) (c_X5_distanceTo l D ay g ka da o k c (upd kr c key) dr n f key (by first | assumption | omega)) 0 [0, 1, 2, 3, 4] [] [] rfl rfl rfl rfl rfl rfl rfl ⟨Nat.le_of_ble_eq_true rfl, Nat.le_of_ble_eq_true rfl⟩ dX5_note_31 (fun v w hw => ?_)
  obtain ⟨rfl, rfl⟩ := hw
  refine j_perm [0, 1, 2, 3, 4] [(g, .inr (5, [.ref ka, .ref da, .ref o, .int (nI c)])), (ka, .inl (ay 0, 1000, .inl (upd kr c key))), (da, .inl (ay 0, 1000, .inl dr)), (o, .inr (8, [.ref k, .int (nI n)])), (k, .inl (ay 0, 100, .inl f))] rfl rfl ?_
  refine j_iast F 2 [(g, .inr (5, [.ref ka, .ref da, .ref o, .int (nI c)])), (ka, .inl (ay 0, 1000, .inl (upd kr c key))), (da, .inl (ay 0, 1000, .inl (upd dr c (dsI f n key)))), (o, .inr (8, [.ref k, .int (nI n)])), (k, .inl (ay 0, 100, .inl f))] c rfl rfl (by omega) (Nat.le_of_ble_eq_true rfl) rfl dX5_note_34 ?_
  refine j_aload_n F 0 dX5_note_35 rfl ?_
  refine j_dup F dX5_note_36 rfl ?_
  refine j_getf F fX5_25 0 rfl rfl dX5_note_37 ?_
  refine j_iconst F (v := 1) dX5_note_40 (by decide) ?_
  refine j_iadd F dX5_note_41 ?_
  refine j_top (nI (c + 1)) (nI_add _ _) ?_
  refine j_putf F fX5_25 0 [(g, .inr (5, [.ref ka, .ref da, .ref o, .int (nI (c + 1))])), (ka, .inl (ay 0, 1000, .inl (upd kr c key))), (da, .inl (ay 0, 1000, .inl (upd dr c (dsI f n key)))), (o, .inr (8, [.ref k, .int (nI n)])), (k, .inl (ay 0, 100, .inl f))] rfl rfl rfl rfl rfl (Nat.le_of_ble_eq_true rfl) dX5_note_42 ?_
  refine j_aload_n F 0 dX5_note_45 rfl ?_
  refine j_getf F fX5_21 0 rfl rfl dX5_note_46 ?_
  refine j_iload_n F 1 dX5_note_49 rfl ?_
  refine j_callV F kX5_33 (As := [.int key]) (rest := []) (c_X8_use l D ay o k n f key hn hq) 3 [3, 4] [0, 1, 2] [(g, .inr (5, [.ref ka, .ref da, .ref o, .int (nI (c + 1))])), (ka, .inl (ay 0, 1000, .inl (upd kr c key))), (da, .inl (ay 0, 1000, .inl (upd dr c (dsI f n key))))] rfl rfl rfl rfl rfl rfl rfl ⟨Nat.le_of_ble_eq_true rfl, Nat.le_of_ble_eq_true rfl⟩ dX5_note_50 (fun v w hw => ?_)
  obtain ⟨rfl, rfl⟩ := hw
  refine j_perm [0, 1, 2, 3, 4] [(g, .inr (5, [.ref ka, .ref da, .ref o, .int (nI (c + 1))])), (ka, .inl (ay 0, 1000, .inl (upd kr c key))), (da, .inl (ay 0, 1000, .inl (upd dr c (dsI f n key)))), (o, .inr (8, [.ref k, .int (nI (usN f n key))])), (k, .inl (ay 0, 100, .inl (usF f n key)))] rfl rfl ?_
  refine j_pop F dX5_note_53 rfl ?_
  exact j_vret F ⟨rfl, rfl⟩ dX5_note_54 (Nat.le_of_ble_eq_true rfl) (Nat.le_of_ble_eq_true rfl)

set_option maxHeartbeats 4000000 in
set_option maxRecDepth 100000 in
theorem c_X5_countBelow (l : Launch) (D : va_G) (ay : Nat → ClassId) (g : Nat) (ka : Nat) (da : Nat) (o : Nat) (k : Nat) (c : Nat) (kr : Nat → Int32) (dr : Nat → Int32) (n : Nat) (f : Nat → Int32) (x : Int32) (hc : c ≤ 1000) : jM l yX5_countBelow (jws yX5_countBelow cX5_countBelow 4 (some .int)) 0 0 0 0 D ay [.ref g, .int x] [(g, .inr (5, [.ref ka, .ref da, .ref o, .int (nI c)])), (ka, .inl (ay 0, 1000, .inl kr)), (da, .inl (ay 0, 1000, .inl dr)), (o, .inr (8, [.ref k, .int (nI n)])), (k, .inl (ay 0, 100, .inl f))] (fun v w => v = some (.int (nI (cb dr x c))) ∧ w = [(g, .inr (5, [.ref ka, .ref da, .ref o, .int (nI c)])), (ka, .inl (ay 0, 1000, .inl kr)), (da, .inl (ay 0, 1000, .inl dr)), (o, .inr (8, [.ref k, .int (nI n)])), (k, .inl (ay 0, 100, .inl f))]) := by
  refine jM_of l (by decide) [(0, .ref g), (1, .int x)] rfl rfl (fun p9 e9 s9 m9 a9 b9 me9 c9 A9 F => ?_)
  refine j_iconst F (v := 0) dX5_countBelow_0 (by decide) ?_
  refine j_istore_n F 2 [(2, .int 0), (0, .ref g), (1, .int x)] dX5_countBelow_1 rfl (by decide) rfl ?_
  refine j_iconst F (v := 0) dX5_countBelow_2 (by decide) ?_
  refine j_istore_n F 3 [(3, .int 0), (2, .int 0), (0, .ref g), (1, .int x)] dX5_countBelow_3 rfl (by decide) rfl ?_
  refine j_loop (σ := Nat) (fun i => i ≤ c) (fun i => c - i) (fun i => [(3, .int (nI i)), (2, .int (nI (cb dr x i))), (0, .ref g), (1, .int x)]) (fun _ => [(g, .inr (5, [.ref ka, .ref da, .ref o, .int (nI c)])), (ka, .inl (ay 0, 1000, .inl kr)), (da, .inl (ay 0, 1000, .inl dr)), (o, .inr (8, [.ref k, .int (nI n)])), (k, .inl (ay 0, 100, .inl f))]) 0 (Nat.zero_le _) rfl rfl (fun i hi ih => ?_)
  refine j_iload_n F 0 dX5_countBelow_4 rfl ?_
  refine j_aload_n F 2 dX5_countBelow_5 rfl ?_
  refine j_getf F fX5_25 0 rfl rfl dX5_countBelow_6 ?_
  refine j_icmp_ge F 41 dX5_countBelow_9 (by decide) (fun c_9 => ?_) (fun c_9 => ?_)
  · skip
    have n_9 := (n_le c i rfl rfl (by omega) (by omega)).mp c_9
    refine j_iload_n F 1 dX5_countBelow_41 rfl ?_
    exact j_iret F ⟨by rw [show i = c by omega], rfl⟩ dX5_countBelow_42 (Nat.le_of_ble_eq_true rfl) (Nat.le_of_ble_eq_true rfl)
  · skip
    have n_9 := mt (n_le c i rfl rfl (by omega) (by omega)).mpr c_9
    refine j_aload_n F 2 dX5_countBelow_12 rfl ?_
    refine j_getf F fX5_15 0 rfl rfl dX5_countBelow_13 ?_
    refine j_iload_n F 0 dX5_countBelow_16 rfl ?_
    refine j_iald F 2 i rfl rfl (by omega) (Nat.le_of_ble_eq_true rfl) dX5_countBelow_17 ?_
    refine j_iconst F (v := (-1)) dX5_countBelow_18 (by decide) ?_
    refine j_icmp_eq F 35 dX5_countBelow_19 (by decide) (fun c_19 => ?_) (fun c_19 => ?_)
    · skip
      refine j_iinc F 0 (nI (i + 1)) [(3, .int (nI (i + 1))), (2, .int (nI (cb dr x i))), (0, .ref g), (1, .int x)] dX5_countBelow_35 rfl (nI_1 _) (by decide) rfl ?_
      refine j_goto F 4 dX5_countBelow_38 (by decide) ?_
      have hcb : cb dr x i = cb dr x (i + 1) := (if_neg (fun h => h.1 c_19)).symm
      rw [hcb]
      refine j_sub [0, 1, 2, 3] [(3, .int (nI (i + 1))), (2, .int (nI (cb dr x (i + 1)))), (0, .ref g), (1, .int x)] rfl ?_
      exact ih (i + 1) (by omega) (by show c - (i + 1) < c - i; omega)
    · skip
      refine j_aload_n F 2 dX5_countBelow_22 rfl ?_
      refine j_getf F fX5_15 0 rfl rfl dX5_countBelow_23 ?_
      refine j_iload_n F 0 dX5_countBelow_26 rfl ?_
      refine j_iald F 2 i rfl rfl (by omega) (Nat.le_of_ble_eq_true rfl) dX5_countBelow_27 ?_
      refine j_iload_n F 3 dX5_countBelow_28 rfl ?_
      refine j_icmp_ge F 35 dX5_countBelow_29 (by decide) (fun c_29 => ?_) (fun c_29 => ?_)
      · skip
        refine j_iinc F 0 (nI (i + 1)) [(3, .int (nI (i + 1))), (2, .int (nI (cb dr x i))), (0, .ref g), (1, .int x)] dX5_countBelow_35 rfl (nI_1 _) (by decide) rfl ?_
        refine j_goto F 4 dX5_countBelow_38 (by decide) ?_
        have hcb : cb dr x i = cb dr x (i + 1) := (if_neg (fun h => absurd h.2 (Int32.not_lt.mpr c_29))).symm
        rw [hcb]
        refine j_sub [0, 1, 2, 3] [(3, .int (nI (i + 1))), (2, .int (nI (cb dr x (i + 1)))), (0, .ref g), (1, .int x)] rfl ?_
        exact ih (i + 1) (by omega) (by show c - (i + 1) < c - i; omega)
      · skip
        refine j_iinc F 1 (nI (cb dr x i + 1)) [(2, .int (nI (cb dr x i + 1))), (3, .int (nI i)), (0, .ref g), (1, .int x)] dX5_countBelow_32 rfl (nI_1 _) (by decide) rfl ?_
        refine j_iinc F 1 (nI (i + 1)) [(3, .int (nI (i + 1))), (2, .int (nI (cb dr x i + 1))), (0, .ref g), (1, .int x)] dX5_countBelow_35 rfl (nI_1 _) (by decide) rfl ?_
        refine j_goto F 4 dX5_countBelow_38 (by decide) ?_
        have hcb : cb dr x i + 1 = cb dr x (i + 1) := (if_pos ⟨c_19, Int32.not_le.mp c_29⟩).symm
        rw [hcb]
        refine j_sub [0, 1, 2, 3] [(3, .int (nI (i + 1))), (2, .int (nI (cb dr x (i + 1)))), (0, .ref g), (1, .int x)] rfl ?_
        exact ih (i + 1) (by omega) (by show c - (i + 1) < c - i; omega)

set_option maxHeartbeats 4000000 in
set_option maxRecDepth 100000 in
theorem c_X5_distanceTotal (l : Launch) (D : va_G) (ay : Nat → ClassId) (g : Nat) (ka : Nat) (da : Nat) (o : Nat) (k : Nat) (c : Nat) (kr : Nat → Int32) (dr : Nat → Int32) (n : Nat) (f : Nat → Int32) (hc : c ≤ 1000) : jM l yX5_distanceTotal (jws yX5_distanceTotal cX5_distanceTotal 3 (some .int)) 0 0 0 0 D ay [.ref g] [(g, .inr (5, [.ref ka, .ref da, .ref o, .int (nI c)])), (ka, .inl (ay 0, 1000, .inl kr)), (da, .inl (ay 0, 1000, .inl dr)), (o, .inr (8, [.ref k, .int (nI n)])), (k, .inl (ay 0, 100, .inl f))] (fun v w => v = some (.int (dtot dr c)) ∧ w = [(g, .inr (5, [.ref ka, .ref da, .ref o, .int (nI c)])), (ka, .inl (ay 0, 1000, .inl kr)), (da, .inl (ay 0, 1000, .inl dr)), (o, .inr (8, [.ref k, .int (nI n)])), (k, .inl (ay 0, 100, .inl f))]) := by
  refine jM_of l (by decide) [(0, .ref g)] rfl rfl (fun p9 e9 s9 m9 a9 b9 me9 c9 A9 F => ?_)
  refine j_iconst F (v := 0) dX5_distanceTotal_0 (by decide) ?_
  refine j_istore_n F 1 [(1, .int 0), (0, .ref g)] dX5_distanceTotal_1 rfl (by decide) rfl ?_
  refine j_iconst F (v := 0) dX5_distanceTotal_2 (by decide) ?_
  refine j_istore_n F 2 [(2, .int 0), (1, .int 0), (0, .ref g)] dX5_distanceTotal_3 rfl (by decide) rfl ?_
  refine j_loop (σ := Nat) (fun i => i ≤ c) (fun i => c - i) (fun i => [(2, .int (nI i)), (1, .int (dtot dr i)), (0, .ref g)]) (fun _ => [(g, .inr (5, [.ref ka, .ref da, .ref o, .int (nI c)])), (ka, .inl (ay 0, 1000, .inl kr)), (da, .inl (ay 0, 1000, .inl dr)), (o, .inr (8, [.ref k, .int (nI n)])), (k, .inl (ay 0, 100, .inl f))]) 0 (Nat.zero_le _) rfl rfl (fun i hi ih => ?_)
  refine j_iload_n F 0 dX5_distanceTotal_4 rfl ?_
  refine j_aload_n F 2 dX5_distanceTotal_5 rfl ?_
  refine j_getf F fX5_25 0 rfl rfl dX5_distanceTotal_6 ?_
  refine j_icmp_ge F 37 dX5_distanceTotal_9 (by decide) (fun c_9 => ?_) (fun c_9 => ?_)
  · skip
    have n_9 := (n_le c i rfl rfl (by omega) (by omega)).mp c_9
    refine j_iload_n F 1 dX5_distanceTotal_37 rfl ?_
    exact j_iret F ⟨by rw [show i = c by omega], rfl⟩ dX5_distanceTotal_38 (Nat.le_of_ble_eq_true rfl) (Nat.le_of_ble_eq_true rfl)
  · skip
    have n_9 := mt (n_le c i rfl rfl (by omega) (by omega)).mpr c_9
    refine j_aload_n F 2 dX5_distanceTotal_12 rfl ?_
    refine j_getf F fX5_15 0 rfl rfl dX5_distanceTotal_13 ?_
    refine j_iload_n F 0 dX5_distanceTotal_16 rfl ?_
    refine j_iald F 2 i rfl rfl (by omega) (Nat.le_of_ble_eq_true rfl) dX5_distanceTotal_17 ?_
    refine j_iconst F (v := (-1)) dX5_distanceTotal_18 (by decide) ?_
    refine j_icmp_eq F 31 dX5_distanceTotal_19 (by decide) (fun c_19 => ?_) (fun c_19 => ?_)
    · skip
      refine j_iinc F 0 (nI (i + 1)) [(2, .int (nI (i + 1))), (1, .int (dtot dr i)), (0, .ref g)] dX5_distanceTotal_31 rfl (nI_1 _) (by decide) rfl ?_
      refine j_goto F 4 dX5_distanceTotal_34 (by decide) ?_
      have hcb : dtot dr i = dtot dr (i + 1) := (if_pos c_19).symm
      rw [hcb]
      refine j_sub [0, 1, 2] [(2, .int (nI (i + 1))), (1, .int (dtot dr (i + 1))), (0, .ref g)] rfl ?_
      exact ih (i + 1) (by omega) (by show c - (i + 1) < c - i; omega)
    · skip
      refine j_iload_n F 1 dX5_distanceTotal_22 rfl ?_
      refine j_aload_n F 2 dX5_distanceTotal_23 rfl ?_
      refine j_getf F fX5_15 0 rfl rfl dX5_distanceTotal_24 ?_
      refine j_iload_n F 0 dX5_distanceTotal_27 rfl ?_
      refine j_iald F 2 i rfl rfl (by omega) (Nat.le_of_ble_eq_true rfl) dX5_distanceTotal_28 ?_
      refine j_iadd F dX5_distanceTotal_29 ?_
      refine j_istore_n F 1 [(1, .int (dtot dr i + dr i)), (2, .int (nI i)), (0, .ref g)] dX5_distanceTotal_30 rfl (by decide) rfl ?_
      refine j_iinc F 1 (nI (i + 1)) [(2, .int (nI (i + 1))), (1, .int (dtot dr i + dr i)), (0, .ref g)] dX5_distanceTotal_31 rfl (nI_1 _) (by decide) rfl ?_
      refine j_goto F 4 dX5_distanceTotal_34 (by decide) ?_
      have hcb : dtot dr i + dr i = dtot dr (i + 1) := (if_neg c_19).symm
      rw [hcb]
      refine j_sub [0, 1, 2] [(2, .int (nI (i + 1))), (1, .int (dtot dr (i + 1))), (0, .ref g)] rfl ?_
      exact ih (i + 1) (by omega) (by show c - (i + 1) < c - i; omega)

set_option maxHeartbeats 4000000 in
set_option maxRecDepth 100000 in
theorem c_X5_restart (l : Launch) (D : va_G) (ay : Nat → ClassId) (g : Nat) (ka : Nat) (da : Nat) (o : Nat) (k : Nat) (c : Nat) (kr : Nat → Int32) (dr : Nat → Int32) (n : Nat) (f : Nat → Int32) : jM l yX5_restart (jws yX5_restart cX5_restart 1 none) 1 20 0 0 D ay [.ref g] [(g, .inr (5, [.ref ka, .ref da, .ref o, .int (nI c)])), (ka, .inl (ay 0, 1000, .inl kr)), (da, .inl (ay 0, 1000, .inl dr)), (o, .inr (8, [.ref k, .int (nI n)])), (k, .inl (ay 0, 100, .inl f))] (fun v w => v = none ∧ w = [(g, .inr (5, [.ref ka, .ref da, .ref o, .int (nI 0)])), (ka, .inl (ay 0, 1000, .inl kr)), (da, .inl (ay 0, 1000, .inl dr)), (o, .inr (8, [.ref k, .int (nI 0)])), (k, .inl (ay 0, 100, .inl f))]) := by
  refine jM_of l (by decide) [(0, .ref g)] rfl rfl (fun p9 e9 s9 m9 a9 b9 me9 c9 A9 F => ?_)
  refine j_aload_n F 0 dX5_restart_0 rfl ?_
  refine j_iconst F (v := 0) dX5_restart_1 (by decide) ?_
  refine j_putf F fX5_25 0 [(g, .inr (5, [.ref ka, .ref da, .ref o, .int 0])), (ka, .inl (ay 0, 1000, .inl kr)), (da, .inl (ay 0, 1000, .inl dr)), (o, .inr (8, [.ref k, .int (nI n)])), (k, .inl (ay 0, 100, .inl f))] rfl rfl rfl rfl rfl (Nat.le_of_ble_eq_true rfl) dX5_restart_2 ?_
  refine j_aload_n F 0 dX5_restart_5 rfl ?_
  refine j_getf F fX5_21 0 rfl rfl dX5_restart_6 ?_
  refine j_callV F kX5_37 (As := []) (rest := []) (c_X8_dropAll l D ay o k n f) 3 [3, 4] [0, 1, 2] [(g, .inr (5, [.ref ka, .ref da, .ref o, .int 0])), (ka, .inl (ay 0, 1000, .inl kr)), (da, .inl (ay 0, 1000, .inl dr))] rfl rfl rfl rfl rfl rfl rfl ⟨Nat.le_of_ble_eq_true rfl, Nat.le_of_ble_eq_true rfl⟩ dX5_restart_9 (fun v w hw => ?_)
  obtain ⟨rfl, rfl⟩ := hw
  refine j_perm [0, 1, 2, 3, 4] [(g, .inr (5, [.ref ka, .ref da, .ref o, .int 0])), (ka, .inl (ay 0, 1000, .inl kr)), (da, .inl (ay 0, 1000, .inl dr)), (o, .inr (8, [.ref k, .int (nI 0)])), (k, .inl (ay 0, 100, .inl f))] rfl rfl ?_
  exact j_vret F ⟨rfl, rfl⟩ dX5_restart_12 (Nat.le_of_ble_eq_true rfl) (Nat.le_of_ble_eq_true rfl)
end
section
/-- a last part, small -/
theorem zz_end : (1 : Nat) = 1 := rfl
end
