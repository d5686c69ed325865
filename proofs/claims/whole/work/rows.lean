section
-- ===== PART A: goes FIRST, ahead of the names: the tables' words, and 'selects' of the private methods out of them =====
/-- a private method of a class that the tables say can be made, by its rows of tables_1 -/
def lw_okq (q : MethodName × Nat) : Prop := (q.1.cls ≠ "java/lang/invoke/MethodHandle" ∧ q.1.cls ≠ "java/lang/invoke/VarHandle") ∧ Cond.instantiable q.1.cls q.2 ∈ tables_1 ∧ Cond.privateMethod q.1 ∈ tables_1 ∧ Cond.instanceMethod q.1 ∈ tables_1
theorem lw_p0 : lw_okq (⟨"LinkYard", "takeLinkAway", "()V"⟩, 18) := ⟨⟨by decide +kernel, by decide +kernel⟩, List.mem_of_getElem? (i := 34) (by decide +kernel), List.mem_of_getElem? (i := 517) (by decide +kernel), List.mem_of_getElem? (i := 518) (by decide +kernel)⟩
theorem lw_p1 : lw_okq (⟨"java/lang/Throwable", "fillInStackTrace", "(I)Ljava/lang/Throwable;"⟩, 6) := ⟨⟨by decide +kernel, by decide +kernel⟩, List.mem_of_getElem? (i := 578) (by decide +kernel), List.mem_of_getElem? (i := 576) (by decide +kernel), List.mem_of_getElem? (i := 577) (by decide +kernel)⟩
theorem lw_p2 : lw_okq (⟨"LinkYard$Sections", "store", "(I)V"⟩, 10) := ⟨⟨by decide +kernel, by decide +kernel⟩, List.mem_of_getElem? (i := 67) (by decide +kernel), List.mem_of_getElem? (i := 659) (by decide +kernel), List.mem_of_getElem? (i := 660) (by decide +kernel)⟩
theorem lw_p3 : lw_okq (⟨"LinkYard", "linksNames", "()Z"⟩, 18) := ⟨⟨by decide +kernel, by decide +kernel⟩, List.mem_of_getElem? (i := 34) (by decide +kernel), List.mem_of_getElem? (i := 1051) (by decide +kernel), List.mem_of_getElem? (i := 1052) (by decide +kernel)⟩
theorem lw_p4 : lw_okq (⟨"LinkYard$Arrivals", "begin", "(I)V"⟩, 4) := ⟨⟨by decide +kernel, by decide +kernel⟩, List.mem_of_getElem? (i := 221) (by decide +kernel), List.mem_of_getElem? (i := 1066) (by decide +kernel), List.mem_of_getElem? (i := 1067) (by decide +kernel)⟩
theorem lw_p5 : lw_okq (⟨"LinkYard$Arrivals", "admit", "(I)V"⟩, 4) := ⟨⟨by decide +kernel, by decide +kernel⟩, List.mem_of_getElem? (i := 221) (by decide +kernel), List.mem_of_getElem? (i := 1070) (by decide +kernel), List.mem_of_getElem? (i := 1071) (by decide +kernel)⟩
theorem lw_p6 : lw_okq (⟨"LinkYard$Arrivals", "note", "(I)V"⟩, 4) := ⟨⟨by decide +kernel, by decide +kernel⟩, List.mem_of_getElem? (i := 221) (by decide +kernel), List.mem_of_getElem? (i := 1074) (by decide +kernel), List.mem_of_getElem? (i := 1075) (by decide +kernel)⟩
theorem lw_p7 : lw_okq (⟨"LinkYard$Arrivals", "goThroughArchives", "()Z"⟩, 4) := ⟨⟨by decide +kernel, by decide +kernel⟩, List.mem_of_getElem? (i := 221) (by decide +kernel), List.mem_of_getElem? (i := 1086) (by decide +kernel), List.mem_of_getElem? (i := 1087) (by decide +kernel)⟩
theorem lw_p8 : lw_okq (⟨"LinkYard$Arrivals", "firstNeeded", "(I)I"⟩, 4) := ⟨⟨by decide +kernel, by decide +kernel⟩, List.mem_of_getElem? (i := 221) (by decide +kernel), List.mem_of_getElem? (i := 1090) (by decide +kernel), List.mem_of_getElem? (i := 1091) (by decide +kernel)⟩
theorem lw_p9 : lw_okq (⟨"LinkYard$Arrivals", "isNeeded", "(I)Z"⟩, 4) := ⟨⟨by decide +kernel, by decide +kernel⟩, List.mem_of_getElem? (i := 221) (by decide +kernel), List.mem_of_getElem? (i := 1094) (by decide +kernel), List.mem_of_getElem? (i := 1095) (by decide +kernel)⟩
theorem lw_p10 : lw_okq (⟨"LinkYard$Names", "take", "(I)V"⟩, 9) := ⟨⟨by decide +kernel, by decide +kernel⟩, List.mem_of_getElem? (i := 240) (by decide +kernel), List.mem_of_getElem? (i := 1104) (by decide +kernel), List.mem_of_getElem? (i := 1105) (by decide +kernel)⟩
theorem lw_p11 : lw_okq (⟨"LinkYard$Names", "takeGlobal", "(II)V"⟩, 9) := ⟨⟨by decide +kernel, by decide +kernel⟩, List.mem_of_getElem? (i := 240) (by decide +kernel), List.mem_of_getElem? (i := 1108) (by decide +kernel), List.mem_of_getElem? (i := 1109) (by decide +kernel)⟩
theorem lw_p12 : lw_okq (⟨"LinkYard$Names", "takeWeak", "(II)V"⟩, 9) := ⟨⟨by decide +kernel, by decide +kernel⟩, List.mem_of_getElem? (i := 240) (by decide +kernel), List.mem_of_getElem? (i := 1113) (by decide +kernel), List.mem_of_getElem? (i := 1114) (by decide +kernel)⟩
theorem lw_p13 : lw_okq (⟨"LinkYard$Names", "giveMeaning", "(I)V"⟩, 9) := ⟨⟨by decide +kernel, by decide +kernel⟩, List.mem_of_getElem? (i := 240) (by decide +kernel), List.mem_of_getElem? (i := 1117) (by decide +kernel), List.mem_of_getElem? (i := 1118) (by decide +kernel)⟩
theorem lw_p14 : lw_okq (⟨"LinkYard$Names", "setMeaning", "(IIII)V"⟩, 9) := ⟨⟨by decide +kernel, by decide +kernel⟩, List.mem_of_getElem? (i := 240) (by decide +kernel), List.mem_of_getElem? (i := 1121) (by decide +kernel), List.mem_of_getElem? (i := 1122) (by decide +kernel)⟩
theorem lw_p15 : lw_okq (⟨"LinkYard$Names", "copyMeaning", "(II)V"⟩, 9) := ⟨⟨by decide +kernel, by decide +kernel⟩, List.mem_of_getElem? (i := 240) (by decide +kernel), List.mem_of_getElem? (i := 1125) (by decide +kernel), List.mem_of_getElem? (i := 1126) (by decide +kernel)⟩
def lw_privs_1 : List (MethodName × Nat) := [(⟨"LinkYard", "takeLinkAway", "()V"⟩, 18), (⟨"java/lang/Throwable", "fillInStackTrace", "(I)Ljava/lang/Throwable;"⟩, 6), (⟨"LinkYard$Sections", "store", "(I)V"⟩, 10), (⟨"LinkYard", "linksNames", "()Z"⟩, 18), (⟨"LinkYard$Arrivals", "begin", "(I)V"⟩, 4), (⟨"LinkYard$Arrivals", "admit", "(I)V"⟩, 4), (⟨"LinkYard$Arrivals", "note", "(I)V"⟩, 4), (⟨"LinkYard$Arrivals", "goThroughArchives", "()Z"⟩, 4), (⟨"LinkYard$Arrivals", "firstNeeded", "(I)I"⟩, 4), (⟨"LinkYard$Arrivals", "isNeeded", "(I)Z"⟩, 4), (⟨"LinkYard$Names", "take", "(I)V"⟩, 9), (⟨"LinkYard$Names", "takeGlobal", "(II)V"⟩, 9), (⟨"LinkYard$Names", "takeWeak", "(II)V"⟩, 9), (⟨"LinkYard$Names", "giveMeaning", "(I)V"⟩, 9), (⟨"LinkYard$Names", "setMeaning", "(IIII)V"⟩, 9), (⟨"LinkYard$Names", "copyMeaning", "(II)V"⟩, 9)]
theorem lw_r1 : ∀ q ∈ lw_privs_1, lw_okq q := List.forall_mem_cons.mpr ⟨lw_p0, List.forall_mem_cons.mpr ⟨lw_p1, List.forall_mem_cons.mpr ⟨lw_p2, List.forall_mem_cons.mpr ⟨lw_p3, List.forall_mem_cons.mpr ⟨lw_p4, List.forall_mem_cons.mpr ⟨lw_p5, List.forall_mem_cons.mpr ⟨lw_p6, List.forall_mem_cons.mpr ⟨lw_p7, List.forall_mem_cons.mpr ⟨lw_p8, List.forall_mem_cons.mpr ⟨lw_p9, List.forall_mem_cons.mpr ⟨lw_p10, List.forall_mem_cons.mpr ⟨lw_p11, List.forall_mem_cons.mpr ⟨lw_p12, List.forall_mem_cons.mpr ⟨lw_p13, List.forall_mem_cons.mpr ⟨lw_p14, List.forall_mem_cons.mpr ⟨lw_p15, fun _ h => absurd h List.not_mem_nil⟩⟩⟩⟩⟩⟩⟩⟩⟩⟩⟩⟩⟩⟩⟩⟩
theorem lw_p16 : lw_okq (⟨"LinkYard$Names", "isCommon", "(I)Z"⟩, 9) := ⟨⟨by decide +kernel, by decide +kernel⟩, List.mem_of_getElem? (i := 240) (by decide +kernel), List.mem_of_getElem? (i := 1129) (by decide +kernel), List.mem_of_getElem? (i := 1130) (by decide +kernel)⟩
theorem lw_p17 : lw_okq (⟨"LinkYard$Names", "definer", "(I)I"⟩, 9) := ⟨⟨by decide +kernel, by decide +kernel⟩, List.mem_of_getElem? (i := 240) (by decide +kernel), List.mem_of_getElem? (i := 1133) (by decide +kernel), List.mem_of_getElem? (i := 1134) (by decide +kernel)⟩
theorem lw_p18 : lw_okq (⟨"LinkYard", "fails", "(III)Z"⟩, 18) := ⟨⟨by decide +kernel, by decide +kernel⟩, List.mem_of_getElem? (i := 34) (by decide +kernel), List.mem_of_getElem? (i := 1137) (by decide +kernel), List.mem_of_getElem? (i := 1138) (by decide +kernel)⟩
theorem lw_p19 : lw_okq (⟨"LinkYard$Reach", "forget", "()V"⟩, 8) := ⟨⟨by decide +kernel, by decide +kernel⟩, List.mem_of_getElem? (i := 288) (by decide +kernel), List.mem_of_getElem? (i := 1153) (by decide +kernel), List.mem_of_getElem? (i := 1154) (by decide +kernel)⟩
theorem lw_p20 : lw_okq (⟨"LinkYard$Reach", "find", "(I)V"⟩, 8) := ⟨⟨by decide +kernel, by decide +kernel⟩, List.mem_of_getElem? (i := 288) (by decide +kernel), List.mem_of_getElem? (i := 1157) (by decide +kernel), List.mem_of_getElem? (i := 1158) (by decide +kernel)⟩
theorem lw_p21 : lw_okq (⟨"LinkYard$Reach", "spreadFrom", "(I)V"⟩, 8) := ⟨⟨by decide +kernel, by decide +kernel⟩, List.mem_of_getElem? (i := 288) (by decide +kernel), List.mem_of_getElem? (i := 1161) (by decide +kernel), List.mem_of_getElem? (i := 1162) (by decide +kernel)⟩
theorem lw_p22 : lw_okq (⟨"LinkYard", "linksPlaces", "(I)Z"⟩, 18) := ⟨⟨by decide +kernel, by decide +kernel⟩, List.mem_of_getElem? (i := 34) (by decide +kernel), List.mem_of_getElem? (i := 1177) (by decide +kernel), List.mem_of_getElem? (i := 1178) (by decide +kernel)⟩
theorem lw_p23 : lw_okq (⟨"LinkYard$Folding", "mayFold", "(I)Z"⟩, 6) := ⟨⟨by decide +kernel, by decide +kernel⟩, List.mem_of_getElem? (i := 324) (by decide +kernel), List.mem_of_getElem? (i := 1185) (by decide +kernel), List.mem_of_getElem? (i := 1186) (by decide +kernel)⟩
theorem lw_p24 : lw_okq (⟨"LinkYard$Folding", "firstOfSameLook", "(I)I"⟩, 6) := ⟨⟨by decide +kernel, by decide +kernel⟩, List.mem_of_getElem? (i := 324) (by decide +kernel), List.mem_of_getElem? (i := 1189) (by decide +kernel), List.mem_of_getElem? (i := 1190) (by decide +kernel)⟩
theorem lw_p25 : lw_okq (⟨"LinkYard$Folding", "looksSame", "(II)Z"⟩, 6) := ⟨⟨by decide +kernel, by decide +kernel⟩, List.mem_of_getElem? (i := 324) (by decide +kernel), List.mem_of_getElem? (i := 1193) (by decide +kernel), List.mem_of_getElem? (i := 1194) (by decide +kernel)⟩
theorem lw_p26 : lw_okq (⟨"LinkYard$Folding", "hasSameWords", "(II)Z"⟩, 6) := ⟨⟨by decide +kernel, by decide +kernel⟩, List.mem_of_getElem? (i := 324) (by decide +kernel), List.mem_of_getElem? (i := 1197) (by decide +kernel), List.mem_of_getElem? (i := 1198) (by decide +kernel)⟩
theorem lw_p27 : lw_okq (⟨"LinkYard$Folding", "hasSameRelocations", "(II)Z"⟩, 6) := ⟨⟨by decide +kernel, by decide +kernel⟩, List.mem_of_getElem? (i := 324) (by decide +kernel), List.mem_of_getElem? (i := 1205) (by decide +kernel), List.mem_of_getElem? (i := 1206) (by decide +kernel)⟩
theorem lw_p28 : lw_okq (⟨"LinkYard$Folding", "isSame", "(II)Z"⟩, 6) := ⟨⟨by decide +kernel, by decide +kernel⟩, List.mem_of_getElem? (i := 324) (by decide +kernel), List.mem_of_getElem? (i := 1211) (by decide +kernel), List.mem_of_getElem? (i := 1212) (by decide +kernel)⟩
theorem lw_p29 : lw_okq (⟨"LinkYard$Folding", "split", "()Z"⟩, 6) := ⟨⟨by decide +kernel, by decide +kernel⟩, List.mem_of_getElem? (i := 324) (by decide +kernel), List.mem_of_getElem? (i := 1215) (by decide +kernel), List.mem_of_getElem? (i := 1216) (by decide +kernel)⟩
theorem lw_p30 : lw_okq (⟨"LinkYard$Folding", "firstOfSameTargets", "(I)I"⟩, 6) := ⟨⟨by decide +kernel, by decide +kernel⟩, List.mem_of_getElem? (i := 324) (by decide +kernel), List.mem_of_getElem? (i := 1219) (by decide +kernel), List.mem_of_getElem? (i := 1220) (by decide +kernel)⟩
theorem lw_p31 : lw_okq (⟨"LinkYard$Folding", "hasSameTargets", "(II)Z"⟩, 6) := ⟨⟨by decide +kernel, by decide +kernel⟩, List.mem_of_getElem? (i := 324) (by decide +kernel), List.mem_of_getElem? (i := 1223) (by decide +kernel), List.mem_of_getElem? (i := 1224) (by decide +kernel)⟩
def lw_privs_2 : List (MethodName × Nat) := [(⟨"LinkYard$Names", "isCommon", "(I)Z"⟩, 9), (⟨"LinkYard$Names", "definer", "(I)I"⟩, 9), (⟨"LinkYard", "fails", "(III)Z"⟩, 18), (⟨"LinkYard$Reach", "forget", "()V"⟩, 8), (⟨"LinkYard$Reach", "find", "(I)V"⟩, 8), (⟨"LinkYard$Reach", "spreadFrom", "(I)V"⟩, 8), (⟨"LinkYard", "linksPlaces", "(I)Z"⟩, 18), (⟨"LinkYard$Folding", "mayFold", "(I)Z"⟩, 6), (⟨"LinkYard$Folding", "firstOfSameLook", "(I)I"⟩, 6), (⟨"LinkYard$Folding", "looksSame", "(II)Z"⟩, 6), (⟨"LinkYard$Folding", "hasSameWords", "(II)Z"⟩, 6), (⟨"LinkYard$Folding", "hasSameRelocations", "(II)Z"⟩, 6), (⟨"LinkYard$Folding", "isSame", "(II)Z"⟩, 6), (⟨"LinkYard$Folding", "split", "()Z"⟩, 6), (⟨"LinkYard$Folding", "firstOfSameTargets", "(I)I"⟩, 6), (⟨"LinkYard$Folding", "hasSameTargets", "(II)Z"⟩, 6)]
theorem lw_r2 : ∀ q ∈ lw_privs_2, lw_okq q := List.forall_mem_cons.mpr ⟨lw_p16, List.forall_mem_cons.mpr ⟨lw_p17, List.forall_mem_cons.mpr ⟨lw_p18, List.forall_mem_cons.mpr ⟨lw_p19, List.forall_mem_cons.mpr ⟨lw_p20, List.forall_mem_cons.mpr ⟨lw_p21, List.forall_mem_cons.mpr ⟨lw_p22, List.forall_mem_cons.mpr ⟨lw_p23, List.forall_mem_cons.mpr ⟨lw_p24, List.forall_mem_cons.mpr ⟨lw_p25, List.forall_mem_cons.mpr ⟨lw_p26, List.forall_mem_cons.mpr ⟨lw_p27, List.forall_mem_cons.mpr ⟨lw_p28, List.forall_mem_cons.mpr ⟨lw_p29, List.forall_mem_cons.mpr ⟨lw_p30, List.forall_mem_cons.mpr ⟨lw_p31, fun _ h => absurd h List.not_mem_nil⟩⟩⟩⟩⟩⟩⟩⟩⟩⟩⟩⟩⟩⟩⟩⟩
theorem lw_p32 : lw_okq (⟨"LinkYard$Layout", "laySections", "(I)V"⟩, 10) := ⟨⟨by decide +kernel, by decide +kernel⟩, List.mem_of_getElem? (i := 351) (by decide +kernel), List.mem_of_getElem? (i := 1246) (by decide +kernel), List.mem_of_getElem? (i := 1247) (by decide +kernel)⟩
theorem lw_p33 : lw_okq (⟨"LinkYard$Layout", "put", "(II)I"⟩, 10) := ⟨⟨by decide +kernel, by decide +kernel⟩, List.mem_of_getElem? (i := 351) (by decide +kernel), List.mem_of_getElem? (i := 1254) (by decide +kernel), List.mem_of_getElem? (i := 1255) (by decide +kernel)⟩
theorem lw_p34 : lw_okq (⟨"LinkYard$Islands", "firstStranded", "()I"⟩, 11) := ⟨⟨by decide +kernel, by decide +kernel⟩, List.mem_of_getElem? (i := 397) (by decide +kernel), List.mem_of_getElem? (i := 1258) (by decide +kernel), List.mem_of_getElem? (i := 1259) (by decide +kernel)⟩
theorem lw_p35 : lw_okq (⟨"LinkYard$Islands", "mayGo", "(I)Z"⟩, 11) := ⟨⟨by decide +kernel, by decide +kernel⟩, List.mem_of_getElem? (i := 397) (by decide +kernel), List.mem_of_getElem? (i := 1262) (by decide +kernel), List.mem_of_getElem? (i := 1263) (by decide +kernel)⟩
theorem lw_p36 : lw_okq (⟨"LinkYard$Islands", "send", "(I)Z"⟩, 11) := ⟨⟨by decide +kernel, by decide +kernel⟩, List.mem_of_getElem? (i := 397) (by decide +kernel), List.mem_of_getElem? (i := 1293) (by decide +kernel), List.mem_of_getElem? (i := 1294) (by decide +kernel)⟩
theorem lw_p37 : lw_okq (⟨"LinkYard$Islands", "find", "(I)I"⟩, 11) := ⟨⟨by decide +kernel, by decide +kernel⟩, List.mem_of_getElem? (i := 397) (by decide +kernel), List.mem_of_getElem? (i := 1297) (by decide +kernel), List.mem_of_getElem? (i := 1298) (by decide +kernel)⟩
theorem lw_p38 : lw_okq (⟨"LinkYard$Islands", "raise", "(I)V"⟩, 11) := ⟨⟨by decide +kernel, by decide +kernel⟩, List.mem_of_getElem? (i := 397) (by decide +kernel), List.mem_of_getElem? (i := 1302) (by decide +kernel), List.mem_of_getElem? (i := 1303) (by decide +kernel)⟩
theorem lw_p39 : lw_okq (⟨"LinkYard$Mending", "isMended", "(II)Z"⟩, 4) := ⟨⟨by decide +kernel, by decide +kernel⟩, List.mem_of_getElem? (i := 439) (by decide +kernel), List.mem_of_getElem? (i := 1310) (by decide +kernel), List.mem_of_getElem? (i := 1311) (by decide +kernel)⟩
theorem lw_p40 : lw_okq (⟨"LinkYard", "askLinked", "()V"⟩, 18) := ⟨⟨by decide +kernel, by decide +kernel⟩, List.mem_of_getElem? (i := 34) (by decide +kernel), List.mem_of_getElem? (i := 1341) (by decide +kernel), List.mem_of_getElem? (i := 1342) (by decide +kernel)⟩
theorem lw_p41 : lw_okq (⟨"LinkYard", "askSection", "(I)V"⟩, 18) := ⟨⟨by decide +kernel, by decide +kernel⟩, List.mem_of_getElem? (i := 34) (by decide +kernel), List.mem_of_getElem? (i := 1369) (by decide +kernel), List.mem_of_getElem? (i := 1370) (by decide +kernel)⟩
theorem lw_p42 : lw_okq (⟨"LinkYard$Mending", "mended", "(II)I"⟩, 4) := ⟨⟨by decide +kernel, by decide +kernel⟩, List.mem_of_getElem? (i := 439) (by decide +kernel), List.mem_of_getElem? (i := 1439) (by decide +kernel), List.mem_of_getElem? (i := 1440) (by decide +kernel)⟩
theorem lw_p43 : lw_okq (⟨"LinkYard$Mending", "mend", "(II)I"⟩, 4) := ⟨⟨by decide +kernel, by decide +kernel⟩, List.mem_of_getElem? (i := 439) (by decide +kernel), List.mem_of_getElem? (i := 1446) (by decide +kernel), List.mem_of_getElem? (i := 1447) (by decide +kernel)⟩
theorem lw_p44 : lw_okq (⟨"LinkYardModel", "refuse", "(ZZ)Z"⟩, 50) := ⟨⟨by decide +kernel, by decide +kernel⟩, List.mem_of_getElem? (i := 1478) (by decide +kernel), List.mem_of_getElem? (i := 1647) (by decide +kernel), List.mem_of_getElem? (i := 1648) (by decide +kernel)⟩
theorem lw_p45 : lw_okq (⟨"LinkYardModel", "told", "()V"⟩, 50) := ⟨⟨by decide +kernel, by decide +kernel⟩, List.mem_of_getElem? (i := 1478) (by decide +kernel), List.mem_of_getElem? (i := 1651) (by decide +kernel), List.mem_of_getElem? (i := 1652) (by decide +kernel)⟩
theorem lw_p46 : lw_okq (⟨"LinkYardModel", "isPlace", "(II)Z"⟩, 50) := ⟨⟨by decide +kernel, by decide +kernel⟩, List.mem_of_getElem? (i := 1478) (by decide +kernel), List.mem_of_getElem? (i := 1667) (by decide +kernel), List.mem_of_getElem? (i := 1668) (by decide +kernel)⟩
theorem lw_p47 : lw_okq (⟨"LinkYardModel", "hasName", "(III)Z"⟩, 50) := ⟨⟨by decide +kernel, by decide +kernel⟩, List.mem_of_getElem? (i := 1478) (by decide +kernel), List.mem_of_getElem? (i := 1675) (by decide +kernel), List.mem_of_getElem? (i := 1676) (by decide +kernel)⟩
def lw_privs_3 : List (MethodName × Nat) := [(⟨"LinkYard$Layout", "laySections", "(I)V"⟩, 10), (⟨"LinkYard$Layout", "put", "(II)I"⟩, 10), (⟨"LinkYard$Islands", "firstStranded", "()I"⟩, 11), (⟨"LinkYard$Islands", "mayGo", "(I)Z"⟩, 11), (⟨"LinkYard$Islands", "send", "(I)Z"⟩, 11), (⟨"LinkYard$Islands", "find", "(I)I"⟩, 11), (⟨"LinkYard$Islands", "raise", "(I)V"⟩, 11), (⟨"LinkYard$Mending", "isMended", "(II)Z"⟩, 4), (⟨"LinkYard", "askLinked", "()V"⟩, 18), (⟨"LinkYard", "askSection", "(I)V"⟩, 18), (⟨"LinkYard$Mending", "mended", "(II)I"⟩, 4), (⟨"LinkYard$Mending", "mend", "(II)I"⟩, 4), (⟨"LinkYardModel", "refuse", "(ZZ)Z"⟩, 50), (⟨"LinkYardModel", "told", "()V"⟩, 50), (⟨"LinkYardModel", "isPlace", "(II)Z"⟩, 50), (⟨"LinkYardModel", "hasName", "(III)Z"⟩, 50)]
theorem lw_r3 : ∀ q ∈ lw_privs_3, lw_okq q := List.forall_mem_cons.mpr ⟨lw_p32, List.forall_mem_cons.mpr ⟨lw_p33, List.forall_mem_cons.mpr ⟨lw_p34, List.forall_mem_cons.mpr ⟨lw_p35, List.forall_mem_cons.mpr ⟨lw_p36, List.forall_mem_cons.mpr ⟨lw_p37, List.forall_mem_cons.mpr ⟨lw_p38, List.forall_mem_cons.mpr ⟨lw_p39, List.forall_mem_cons.mpr ⟨lw_p40, List.forall_mem_cons.mpr ⟨lw_p41, List.forall_mem_cons.mpr ⟨lw_p42, List.forall_mem_cons.mpr ⟨lw_p43, List.forall_mem_cons.mpr ⟨lw_p44, List.forall_mem_cons.mpr ⟨lw_p45, List.forall_mem_cons.mpr ⟨lw_p46, List.forall_mem_cons.mpr ⟨lw_p47, fun _ h => absurd h List.not_mem_nil⟩⟩⟩⟩⟩⟩⟩⟩⟩⟩⟩⟩⟩⟩⟩⟩
theorem lw_p48 : lw_okq (⟨"LinkYardModel", "newSymbol", "(IIIIII)I"⟩, 50) := ⟨⟨by decide +kernel, by decide +kernel⟩, List.mem_of_getElem? (i := 1478) (by decide +kernel), List.mem_of_getElem? (i := 1679) (by decide +kernel), List.mem_of_getElem? (i := 1680) (by decide +kernel)⟩
theorem lw_p49 : lw_okq (⟨"LinkYardModel", "findIn", "()V"⟩, 50) := ⟨⟨by decide +kernel, by decide +kernel⟩, List.mem_of_getElem? (i := 1478) (by decide +kernel), List.mem_of_getElem? (i := 1712) (by decide +kernel), List.mem_of_getElem? (i := 1713) (by decide +kernel)⟩
theorem lw_p50 : lw_okq (⟨"LinkYardModel", "bring", "(I)Z"⟩, 50) := ⟨⟨by decide +kernel, by decide +kernel⟩, List.mem_of_getElem? (i := 1478) (by decide +kernel), List.mem_of_getElem? (i := 1716) (by decide +kernel), List.mem_of_getElem? (i := 1717) (by decide +kernel)⟩
theorem lw_p51 : lw_okq (⟨"LinkYardModel", "helps", "(I)Z"⟩, 50) := ⟨⟨by decide +kernel, by decide +kernel⟩, List.mem_of_getElem? (i := 1478) (by decide +kernel), List.mem_of_getElem? (i := 1720) (by decide +kernel), List.mem_of_getElem? (i := 1721) (by decide +kernel)⟩
theorem lw_p52 : lw_okq (⟨"LinkYardModel", "isNeeded", "(I)Z"⟩, 50) := ⟨⟨by decide +kernel, by decide +kernel⟩, List.mem_of_getElem? (i := 1478) (by decide +kernel), List.mem_of_getElem? (i := 1724) (by decide +kernel), List.mem_of_getElem? (i := 1725) (by decide +kernel)⟩
theorem lw_p53 : lw_okq (⟨"LinkYardModel", "isGiven", "(I)Z"⟩, 50) := ⟨⟨by decide +kernel, by decide +kernel⟩, List.mem_of_getElem? (i := 1478) (by decide +kernel), List.mem_of_getElem? (i := 1728) (by decide +kernel), List.mem_of_getElem? (i := 1729) (by decide +kernel)⟩
theorem lw_p54 : lw_okq (⟨"LinkYardModel", "define", "()Z"⟩, 50) := ⟨⟨by decide +kernel, by decide +kernel⟩, List.mem_of_getElem? (i := 1478) (by decide +kernel), List.mem_of_getElem? (i := 1732) (by decide +kernel), List.mem_of_getElem? (i := 1733) (by decide +kernel)⟩
theorem lw_p55 : lw_okq (⟨"LinkYardModel", "fail", "(III)Z"⟩, 50) := ⟨⟨by decide +kernel, by decide +kernel⟩, List.mem_of_getElem? (i := 1478) (by decide +kernel), List.mem_of_getElem? (i := 1736) (by decide +kernel), List.mem_of_getElem? (i := 1737) (by decide +kernel)⟩
theorem lw_p56 : lw_okq (⟨"LinkYardModel", "reach", "()Z"⟩, 50) := ⟨⟨by decide +kernel, by decide +kernel⟩, List.mem_of_getElem? (i := 1478) (by decide +kernel), List.mem_of_getElem? (i := 1740) (by decide +kernel), List.mem_of_getElem? (i := 1741) (by decide +kernel)⟩
theorem lw_p57 : lw_okq (⟨"LinkYardModel", "reachBy", "(I)Z"⟩, 50) := ⟨⟨by decide +kernel, by decide +kernel⟩, List.mem_of_getElem? (i := 1478) (by decide +kernel), List.mem_of_getElem? (i := 1744) (by decide +kernel), List.mem_of_getElem? (i := 1745) (by decide +kernel)⟩
theorem lw_p58 : lw_okq (⟨"LinkYardModel", "sectionOf", "(I)I"⟩, 50) := ⟨⟨by decide +kernel, by decide +kernel⟩, List.mem_of_getElem? (i := 1478) (by decide +kernel), List.mem_of_getElem? (i := 1748) (by decide +kernel), List.mem_of_getElem? (i := 1749) (by decide +kernel)⟩
theorem lw_p59 : lw_okq (⟨"LinkYardModel", "sortOf", "(I)I"⟩, 50) := ⟨⟨by decide +kernel, by decide +kernel⟩, List.mem_of_getElem? (i := 1478) (by decide +kernel), List.mem_of_getElem? (i := 1752) (by decide +kernel), List.mem_of_getElem? (i := 1753) (by decide +kernel)⟩
theorem lw_p60 : lw_okq (⟨"LinkYardModel", "isCommon", "(I)Z"⟩, 50) := ⟨⟨by decide +kernel, by decide +kernel⟩, List.mem_of_getElem? (i := 1478) (by decide +kernel), List.mem_of_getElem? (i := 1756) (by decide +kernel), List.mem_of_getElem? (i := 1757) (by decide +kernel)⟩
theorem lw_p61 : lw_okq (⟨"LinkYardModel", "itself", "(I)I"⟩, 50) := ⟨⟨by decide +kernel, by decide +kernel⟩, List.mem_of_getElem? (i := 1478) (by decide +kernel), List.mem_of_getElem? (i := 1760) (by decide +kernel), List.mem_of_getElem? (i := 1761) (by decide +kernel)⟩
theorem lw_p62 : lw_okq (⟨"LinkYardModel", "findLike", "()V"⟩, 50) := ⟨⟨by decide +kernel, by decide +kernel⟩, List.mem_of_getElem? (i := 1478) (by decide +kernel), List.mem_of_getElem? (i := 1764) (by decide +kernel), List.mem_of_getElem? (i := 1765) (by decide +kernel)⟩
theorem lw_p63 : lw_okq (⟨"LinkYardModel", "mayFold", "(I)Z"⟩, 50) := ⟨⟨by decide +kernel, by decide +kernel⟩, List.mem_of_getElem? (i := 1478) (by decide +kernel), List.mem_of_getElem? (i := 1768) (by decide +kernel), List.mem_of_getElem? (i := 1769) (by decide +kernel)⟩
def lw_privs_4 : List (MethodName × Nat) := [(⟨"LinkYardModel", "newSymbol", "(IIIIII)I"⟩, 50), (⟨"LinkYardModel", "findIn", "()V"⟩, 50), (⟨"LinkYardModel", "bring", "(I)Z"⟩, 50), (⟨"LinkYardModel", "helps", "(I)Z"⟩, 50), (⟨"LinkYardModel", "isNeeded", "(I)Z"⟩, 50), (⟨"LinkYardModel", "isGiven", "(I)Z"⟩, 50), (⟨"LinkYardModel", "define", "()Z"⟩, 50), (⟨"LinkYardModel", "fail", "(III)Z"⟩, 50), (⟨"LinkYardModel", "reach", "()Z"⟩, 50), (⟨"LinkYardModel", "reachBy", "(I)Z"⟩, 50), (⟨"LinkYardModel", "sectionOf", "(I)I"⟩, 50), (⟨"LinkYardModel", "sortOf", "(I)I"⟩, 50), (⟨"LinkYardModel", "isCommon", "(I)Z"⟩, 50), (⟨"LinkYardModel", "itself", "(I)I"⟩, 50), (⟨"LinkYardModel", "findLike", "()V"⟩, 50), (⟨"LinkYardModel", "mayFold", "(I)Z"⟩, 50)]
theorem lw_r4 : ∀ q ∈ lw_privs_4, lw_okq q := List.forall_mem_cons.mpr ⟨lw_p48, List.forall_mem_cons.mpr ⟨lw_p49, List.forall_mem_cons.mpr ⟨lw_p50, List.forall_mem_cons.mpr ⟨lw_p51, List.forall_mem_cons.mpr ⟨lw_p52, List.forall_mem_cons.mpr ⟨lw_p53, List.forall_mem_cons.mpr ⟨lw_p54, List.forall_mem_cons.mpr ⟨lw_p55, List.forall_mem_cons.mpr ⟨lw_p56, List.forall_mem_cons.mpr ⟨lw_p57, List.forall_mem_cons.mpr ⟨lw_p58, List.forall_mem_cons.mpr ⟨lw_p59, List.forall_mem_cons.mpr ⟨lw_p60, List.forall_mem_cons.mpr ⟨lw_p61, List.forall_mem_cons.mpr ⟨lw_p62, List.forall_mem_cons.mpr ⟨lw_p63, fun _ h => absurd h List.not_mem_nil⟩⟩⟩⟩⟩⟩⟩⟩⟩⟩⟩⟩⟩⟩⟩⟩
theorem lw_p64 : lw_okq (⟨"LinkYardModel", "haveLikeWords", "(II)Z"⟩, 50) := ⟨⟨by decide +kernel, by decide +kernel⟩, List.mem_of_getElem? (i := 1478) (by decide +kernel), List.mem_of_getElem? (i := 1772) (by decide +kernel), List.mem_of_getElem? (i := 1773) (by decide +kernel)⟩
theorem lw_p65 : lw_okq (⟨"LinkYardModel", "haveLikeRelocations", "(II)Z"⟩, 50) := ⟨⟨by decide +kernel, by decide +kernel⟩, List.mem_of_getElem? (i := 1478) (by decide +kernel), List.mem_of_getElem? (i := 1776) (by decide +kernel), List.mem_of_getElem? (i := 1777) (by decide +kernel)⟩
theorem lw_p66 : lw_okq (⟨"LinkYardModel", "nextOf", "(II)I"⟩, 50) := ⟨⟨by decide +kernel, by decide +kernel⟩, List.mem_of_getElem? (i := 1478) (by decide +kernel), List.mem_of_getElem? (i := 1780) (by decide +kernel), List.mem_of_getElem? (i := 1781) (by decide +kernel)⟩
theorem lw_p67 : lw_okq (⟨"LinkYardModel", "meanLike", "(II)Z"⟩, 50) := ⟨⟨by decide +kernel, by decide +kernel⟩, List.mem_of_getElem? (i := 1478) (by decide +kernel), List.mem_of_getElem? (i := 1784) (by decide +kernel), List.mem_of_getElem? (i := 1785) (by decide +kernel)⟩
theorem lw_p68 : lw_okq (⟨"LinkYardModel", "numberOf", "(I)I"⟩, 50) := ⟨⟨by decide +kernel, by decide +kernel⟩, List.mem_of_getElem? (i := 1478) (by decide +kernel), List.mem_of_getElem? (i := 1788) (by decide +kernel), List.mem_of_getElem? (i := 1789) (by decide +kernel)⟩
theorem lw_p69 : lw_okq (⟨"LinkYardModel", "findIslands", "()Z"⟩, 50) := ⟨⟨by decide +kernel, by decide +kernel⟩, List.mem_of_getElem? (i := 1478) (by decide +kernel), List.mem_of_getElem? (i := 1792) (by decide +kernel), List.mem_of_getElem? (i := 1793) (by decide +kernel)⟩
theorem lw_p70 : lw_okq (⟨"LinkYardModel", "lay", "()V"⟩, 50) := ⟨⟨by decide +kernel, by decide +kernel⟩, List.mem_of_getElem? (i := 1478) (by decide +kernel), List.mem_of_getElem? (i := 1796) (by decide +kernel), List.mem_of_getElem? (i := 1797) (by decide +kernel)⟩
theorem lw_p71 : lw_okq (⟨"LinkYardModel", "layKind", "(II)I"⟩, 50) := ⟨⟨by decide +kernel, by decide +kernel⟩, List.mem_of_getElem? (i := 1478) (by decide +kernel), List.mem_of_getElem? (i := 1800) (by decide +kernel), List.mem_of_getElem? (i := 1801) (by decide +kernel)⟩
theorem lw_p72 : lw_okq (⟨"LinkYardModel", "stays", "(I)Z"⟩, 50) := ⟨⟨by decide +kernel, by decide +kernel⟩, List.mem_of_getElem? (i := 1478) (by decide +kernel), List.mem_of_getElem? (i := 1804) (by decide +kernel), List.mem_of_getElem? (i := 1805) (by decide +kernel)⟩
theorem lw_p73 : lw_okq (⟨"LinkYardModel", "needy", "()I"⟩, 50) := ⟨⟨by decide +kernel, by decide +kernel⟩, List.mem_of_getElem? (i := 1478) (by decide +kernel), List.mem_of_getElem? (i := 1811) (by decide +kernel), List.mem_of_getElem? (i := 1812) (by decide +kernel)⟩
theorem lw_p74 : lw_okq (⟨"LinkYardModel", "isNearTarget", "(I)Z"⟩, 50) := ⟨⟨by decide +kernel, by decide +kernel⟩, List.mem_of_getElem? (i := 1478) (by decide +kernel), List.mem_of_getElem? (i := 1815) (by decide +kernel), List.mem_of_getElem? (i := 1816) (by decide +kernel)⟩
theorem lw_p75 : lw_okq (⟨"LinkYardModel", "meaning", "(I)I"⟩, 50) := ⟨⟨by decide +kernel, by decide +kernel⟩, List.mem_of_getElem? (i := 1478) (by decide +kernel), List.mem_of_getElem? (i := 1819) (by decide +kernel), List.mem_of_getElem? (i := 1820) (by decide +kernel)⟩
theorem lw_p76 : lw_okq (⟨"LinkYardModel", "placeAt", "(I)I"⟩, 50) := ⟨⟨by decide +kernel, by decide +kernel⟩, List.mem_of_getElem? (i := 1478) (by decide +kernel), List.mem_of_getElem? (i := 1823) (by decide +kernel), List.mem_of_getElem? (i := 1824) (by decide +kernel)⟩
theorem lw_p77 : lw_okq (⟨"LinkYardModel", "sameTarget", "(II)Z"⟩, 50) := ⟨⟨by decide +kernel, by decide +kernel⟩, List.mem_of_getElem? (i := 1478) (by decide +kernel), List.mem_of_getElem? (i := 1833) (by decide +kernel), List.mem_of_getElem? (i := 1834) (by decide +kernel)⟩
theorem lw_p78 : lw_okq (⟨"LinkYardModel", "checkFar", "()Z"⟩, 50) := ⟨⟨by decide +kernel, by decide +kernel⟩, List.mem_of_getElem? (i := 1478) (by decide +kernel), List.mem_of_getElem? (i := 1837) (by decide +kernel), List.mem_of_getElem? (i := 1838) (by decide +kernel)⟩
theorem lw_p79 : lw_okq (⟨"LinkYardModel", "islandAt", "(I)I"⟩, 50) := ⟨⟨by decide +kernel, by decide +kernel⟩, List.mem_of_getElem? (i := 1478) (by decide +kernel), List.mem_of_getElem? (i := 1841) (by decide +kernel), List.mem_of_getElem? (i := 1842) (by decide +kernel)⟩
def lw_privs_5 : List (MethodName × Nat) := [(⟨"LinkYardModel", "haveLikeWords", "(II)Z"⟩, 50), (⟨"LinkYardModel", "haveLikeRelocations", "(II)Z"⟩, 50), (⟨"LinkYardModel", "nextOf", "(II)I"⟩, 50), (⟨"LinkYardModel", "meanLike", "(II)Z"⟩, 50), (⟨"LinkYardModel", "numberOf", "(I)I"⟩, 50), (⟨"LinkYardModel", "findIslands", "()Z"⟩, 50), (⟨"LinkYardModel", "lay", "()V"⟩, 50), (⟨"LinkYardModel", "layKind", "(II)I"⟩, 50), (⟨"LinkYardModel", "stays", "(I)Z"⟩, 50), (⟨"LinkYardModel", "needy", "()I"⟩, 50), (⟨"LinkYardModel", "isNearTarget", "(I)Z"⟩, 50), (⟨"LinkYardModel", "meaning", "(I)I"⟩, 50), (⟨"LinkYardModel", "placeAt", "(I)I"⟩, 50), (⟨"LinkYardModel", "sameTarget", "(II)Z"⟩, 50), (⟨"LinkYardModel", "checkFar", "()Z"⟩, 50), (⟨"LinkYardModel", "islandAt", "(I)I"⟩, 50)]
theorem lw_r5 : ∀ q ∈ lw_privs_5, lw_okq q := List.forall_mem_cons.mpr ⟨lw_p64, List.forall_mem_cons.mpr ⟨lw_p65, List.forall_mem_cons.mpr ⟨lw_p66, List.forall_mem_cons.mpr ⟨lw_p67, List.forall_mem_cons.mpr ⟨lw_p68, List.forall_mem_cons.mpr ⟨lw_p69, List.forall_mem_cons.mpr ⟨lw_p70, List.forall_mem_cons.mpr ⟨lw_p71, List.forall_mem_cons.mpr ⟨lw_p72, List.forall_mem_cons.mpr ⟨lw_p73, List.forall_mem_cons.mpr ⟨lw_p74, List.forall_mem_cons.mpr ⟨lw_p75, List.forall_mem_cons.mpr ⟨lw_p76, List.forall_mem_cons.mpr ⟨lw_p77, List.forall_mem_cons.mpr ⟨lw_p78, List.forall_mem_cons.mpr ⟨lw_p79, fun _ h => absurd h List.not_mem_nil⟩⟩⟩⟩⟩⟩⟩⟩⟩⟩⟩⟩⟩⟩⟩⟩
theorem lw_p80 : lw_okq (⟨"LinkYardModel", "mend", "()Z"⟩, 50) := ⟨⟨by decide +kernel, by decide +kernel⟩, List.mem_of_getElem? (i := 1478) (by decide +kernel), List.mem_of_getElem? (i := 1845) (by decide +kernel), List.mem_of_getElem? (i := 1846) (by decide +kernel)⟩
theorem lw_p81 : lw_okq (⟨"LinkYardModel", "mendOne", "(I)Z"⟩, 50) := ⟨⟨by decide +kernel, by decide +kernel⟩, List.mem_of_getElem? (i := 1478) (by decide +kernel), List.mem_of_getElem? (i := 1849) (by decide +kernel), List.mem_of_getElem? (i := 1850) (by decide +kernel)⟩
def lw_privs_6 : List (MethodName × Nat) := [(⟨"LinkYardModel", "mend", "()Z"⟩, 50), (⟨"LinkYardModel", "mendOne", "(I)Z"⟩, 50)]
theorem lw_r6 : ∀ q ∈ lw_privs_6, lw_okq q := List.forall_mem_cons.mpr ⟨lw_p80, List.forall_mem_cons.mpr ⟨lw_p81, fun _ h => absurd h List.not_mem_nil⟩⟩
def lw_privs : List (MethodName × Nat) := lw_privs_1 ++ (lw_privs_2 ++ (lw_privs_3 ++ (lw_privs_4 ++ (lw_privs_5 ++ (lw_privs_6)))))
def lw_tbl : List Cond := k2_sels lw_privs ++ tables_1
theorem lw_privs_ok : ∀ q ∈ lw_privs, lw_okq q := by
  show ∀ q ∈ lw_privs_1 ++ (lw_privs_2 ++ (lw_privs_3 ++ (lw_privs_4 ++ (lw_privs_5 ++ (lw_privs_6))))), lw_okq q
  exact List.forall_mem_append.mpr ⟨lw_r1, List.forall_mem_append.mpr ⟨lw_r2, List.forall_mem_append.mpr ⟨lw_r3, List.forall_mem_append.mpr ⟨lw_r4, List.forall_mem_append.mpr ⟨lw_r5, lw_r6⟩⟩⟩⟩⟩

/-- the words that every method of the walk is given -/
def ALLW : List Cond := lw_tbl.filter goodWord
theorem mw {w : Cond} (i : Nat) (h : lw_tbl[i]? = some w ∧ goodWord w = true) : w ∈ ALLW := List.mem_filter.mpr ⟨List.mem_of_getElem? h.1, h.2⟩
theorem mwAll {ws : List Cond} (h : ∀ w ∈ ws, w ∈ lw_tbl ∧ goodWord w = true) : ∀ w ∈ ws, w ∈ ALLW := fun w hw => List.mem_filter.mpr (h w hw)
theorem goodAll : ∀ w ∈ ALLW, (w.onTables && w.keeps) = true ∨ ∃ ty, w = .arrayClass ty := fun w h => good_of_word (List.mem_filter.mp h).2
theorem allw_in {args : Array Value} {s : State} (h : ∀ w ∈ lw_tbl, w.before args s = true) : ∀ w ∈ ALLW, w.before args s = true := fun w hw => h w (List.mem_filter.mp hw).1
end
section
def R_Ly : String := "LinkYard"
def F_Ly : u_T := fun k => match k with
  | 0 => ("LinkYard", "units", "LLinkYard$Units;", true)
  | 1 => ("LinkYard", "sections", "LLinkYard$Sections;", true)
  | 2 => ("LinkYard", "symbols", "LLinkYard$Symbols;", true)
  | 3 => ("LinkYard", "relocations", "LLinkYard$Relocations;", true)
  | 4 => ("LinkYard", "arrivals", "LLinkYard$Arrivals;", true)
  | 5 => ("LinkYard", "names", "LLinkYard$Names;", true)
  | 6 => ("LinkYard", "reach", "LLinkYard$Reach;", true)
  | 7 => ("LinkYard", "folding", "LLinkYard$Folding;", true)
  | 8 => ("LinkYard", "layout", "LLinkYard$Layout;", true)
  | 9 => ("LinkYard", "islands", "LLinkYard$Islands;", true)
  | 10 => ("LinkYard", "mending", "LLinkYard$Mending;", true)
  | 11 => ("LinkYard", "entryName", "I", false)
  | 12 => ("LinkYard", "folds", "Z", false)
  | 13 => ("LinkYard", "groups", "Z", false)
  | 14 => ("LinkYard", "linked", "Z", false)
  | 15 => ("LinkYard", "faultKind", "I", false)
  | 16 => ("LinkYard", "faultName", "I", false)
  | _ => ("LinkYard", "faultRelocation", "I", false)
def t_Ly : Nat → FieldType := fun k => match k with
  | 0 => .object "LinkYard$Units"
  | 1 => .object "LinkYard$Sections"
  | 2 => .object "LinkYard$Symbols"
  | 3 => .object "LinkYard$Relocations"
  | 4 => .object "LinkYard$Arrivals"
  | 5 => .object "LinkYard$Names"
  | 6 => .object "LinkYard$Reach"
  | 7 => .object "LinkYard$Folding"
  | 8 => .object "LinkYard$Layout"
  | 9 => .object "LinkYard$Islands"
  | 10 => .object "LinkYard$Mending"
  | 11 => .int
  | 12 => .boolean
  | 13 => .boolean
  | 14 => .boolean
  | 15 => .int
  | 16 => .int
  | _ => .int
abbrev N_Ly : Nat := 18
def R_Un : String := "LinkYard$Units"
def F_Un : u_T := fun k => match k with
  | 0 => ("LinkYard$Units", "count", "I", false)
  | 1 => ("LinkYard$Units", "archive", "[I", true)
  | _ => ("LinkYard$Units", "in", "[Z", true)
def t_Un : Nat → FieldType := fun k => match k with
  | 0 => .int
  | 1 => .array .int
  | _ => .array .boolean
abbrev N_Un : Nat := 3
def R_Se : String := "LinkYard$Sections"
def F_Se : u_T := fun k => match k with
  | 0 => ("LinkYard$Sections", "count", "I", false)
  | 1 => ("LinkYard$Sections", "bytes", "I", false)
  | 2 => ("LinkYard$Sections", "stored", "I", false)
  | 3 => ("LinkYard$Sections", "words", "[I", false)
  | 4 => ("LinkYard$Sections", "unit", "[I", true)
  | 5 => ("LinkYard$Sections", "kind", "[I", true)
  | 6 => ("LinkYard$Sections", "size", "[I", true)
  | 7 => ("LinkYard$Sections", "alignment", "[I", true)
  | 8 => ("LinkYard$Sections", "firstWord", "[I", true)
  | _ => ("LinkYard$Sections", "kept", "[Z", true)
def t_Se : Nat → FieldType := fun k => match k with
  | 0 => .int
  | 1 => .int
  | 2 => .int
  | 3 => .array .int
  | 4 => .array .int
  | 5 => .array .int
  | 6 => .array .int
  | 7 => .array .int
  | 8 => .array .int
  | _ => .array .boolean
abbrev N_Se : Nat := 10
def R_Sy : String := "LinkYard$Symbols"
def F_Sy : u_T := fun k => match k with
  | 0 => ("LinkYard$Symbols", "count", "I", false)
  | 1 => ("LinkYard$Symbols", "unit", "[I", true)
  | 2 => ("LinkYard$Symbols", "name", "[I", true)
  | 3 => ("LinkYard$Symbols", "binding", "[I", true)
  | 4 => ("LinkYard$Symbols", "form", "[I", true)
  | 5 => ("LinkYard$Symbols", "section", "[I", true)
  | _ => ("LinkYard$Symbols", "value", "[I", true)
def t_Sy : Nat → FieldType := fun k => match k with
  | 0 => .int
  | 1 => .array .int
  | 2 => .array .int
  | 3 => .array .int
  | 4 => .array .int
  | 5 => .array .int
  | _ => .array .int
abbrev N_Sy : Nat := 7
def R_Re : String := "LinkYard$Relocations"
def F_Re : u_T := fun k => match k with
  | 0 => ("LinkYard$Relocations", "count", "I", false)
  | 1 => ("LinkYard$Relocations", "section", "[I", true)
  | 2 => ("LinkYard$Relocations", "place", "[I", true)
  | 3 => ("LinkYard$Relocations", "sort", "[I", true)
  | 4 => ("LinkYard$Relocations", "symbol", "[I", true)
  | 5 => ("LinkYard$Relocations", "addend", "[I", true)
  | 6 => ("LinkYard$Relocations", "sorted", "[I", true)
  | 7 => ("LinkYard$Relocations", "start", "[I", true)
  | _ => ("LinkYard$Relocations", "filled", "[I", true)
def t_Re : Nat → FieldType := fun k => match k with
  | 0 => .int
  | 1 => .array .int
  | 2 => .array .int
  | 3 => .array .int
  | 4 => .array .int
  | 5 => .array .int
  | 6 => .array .int
  | 7 => .array .int
  | _ => .array .int
abbrev N_Re : Nat := 9
def R_Ar : String := "LinkYard$Arrivals"
def F_Ar : u_T := fun k => match k with
  | 0 => ("LinkYard$Arrivals", "units", "LLinkYard$Units;", true)
  | 1 => ("LinkYard$Arrivals", "symbols", "LLinkYard$Symbols;", true)
  | 2 => ("LinkYard$Arrivals", "asked", "[Z", true)
  | _ => ("LinkYard$Arrivals", "given", "[Z", true)
def t_Ar : Nat → FieldType := fun k => match k with
  | 0 => .object "LinkYard$Units"
  | 1 => .object "LinkYard$Symbols"
  | 2 => .array .boolean
  | _ => .array .boolean
abbrev N_Ar : Nat := 4
def R_Na : String := "LinkYard$Names"
def F_Na : u_T := fun k => match k with
  | 0 => ("LinkYard$Names", "units", "LLinkYard$Units;", true)
  | 1 => ("LinkYard$Names", "symbols", "LLinkYard$Symbols;", true)
  | 2 => ("LinkYard$Names", "global", "[I", true)
  | 3 => ("LinkYard$Names", "weak", "[I", true)
  | 4 => ("LinkYard$Names", "commonSize", "[I", true)
  | 5 => ("LinkYard$Names", "twice", "I", false)
  | 6 => ("LinkYard$Names", "meant", "[I", true)
  | 7 => ("LinkYard$Names", "where", "[I", true)
  | _ => ("LinkYard$Names", "value", "[I", true)
def t_Na : Nat → FieldType := fun k => match k with
  | 0 => .object "LinkYard$Units"
  | 1 => .object "LinkYard$Symbols"
  | 2 => .array .int
  | 3 => .array .int
  | 4 => .array .int
  | 5 => .int
  | 6 => .array .int
  | 7 => .array .int
  | _ => .array .int
abbrev N_Na : Nat := 9
def R_Rc : String := "LinkYard$Reach"
def F_Rc : u_T := fun k => match k with
  | 0 => ("LinkYard$Reach", "units", "LLinkYard$Units;", true)
  | 1 => ("LinkYard$Reach", "sections", "LLinkYard$Sections;", true)
  | 2 => ("LinkYard$Reach", "relocations", "LLinkYard$Relocations;", true)
  | 3 => ("LinkYard$Reach", "names", "LLinkYard$Names;", true)
  | 4 => ("LinkYard$Reach", "reached", "[Z", true)
  | 5 => ("LinkYard$Reach", "commonReached", "[Z", true)
  | 6 => ("LinkYard$Reach", "found", "I", false)
  | _ => ("LinkYard$Reach", "queue", "[I", true)
def t_Rc : Nat → FieldType := fun k => match k with
  | 0 => .object "LinkYard$Units"
  | 1 => .object "LinkYard$Sections"
  | 2 => .object "LinkYard$Relocations"
  | 3 => .object "LinkYard$Names"
  | 4 => .array .boolean
  | 5 => .array .boolean
  | 6 => .int
  | _ => .array .int
abbrev N_Rc : Nat := 8
def R_Fo : String := "LinkYard$Folding"
def F_Fo : u_T := fun k => match k with
  | 0 => ("LinkYard$Folding", "sections", "LLinkYard$Sections;", true)
  | 1 => ("LinkYard$Folding", "relocations", "LLinkYard$Relocations;", true)
  | 2 => ("LinkYard$Folding", "names", "LLinkYard$Names;", true)
  | 3 => ("LinkYard$Folding", "reach", "LLinkYard$Reach;", true)
  | 4 => ("LinkYard$Folding", "leader", "[I", true)
  | _ => ("LinkYard$Folding", "finer", "[I", true)
def t_Fo : Nat → FieldType := fun k => match k with
  | 0 => .object "LinkYard$Sections"
  | 1 => .object "LinkYard$Relocations"
  | 2 => .object "LinkYard$Names"
  | 3 => .object "LinkYard$Reach"
  | 4 => .array .int
  | _ => .array .int
abbrev N_Fo : Nat := 6
def R_La : String := "LinkYard$Layout"
def F_La : u_T := fun k => match k with
  | 0 => ("LinkYard$Layout", "sections", "LLinkYard$Sections;", true)
  | 1 => ("LinkYard$Layout", "names", "LLinkYard$Names;", true)
  | 2 => ("LinkYard$Layout", "reach", "LLinkYard$Reach;", true)
  | 3 => ("LinkYard$Layout", "folding", "LLinkYard$Folding;", true)
  | 4 => ("LinkYard$Layout", "base", "I", false)
  | 5 => ("LinkYard$Layout", "end", "I", false)
  | 6 => ("LinkYard$Layout", "times", "I", false)
  | 7 => ("LinkYard$Layout", "islandsAt", "I", false)
  | 8 => ("LinkYard$Layout", "address", "[I", true)
  | _ => ("LinkYard$Layout", "commonAddress", "[I", true)
def t_La : Nat → FieldType := fun k => match k with
  | 0 => .object "LinkYard$Sections"
  | 1 => .object "LinkYard$Names"
  | 2 => .object "LinkYard$Reach"
  | 3 => .object "LinkYard$Folding"
  | 4 => .int
  | 5 => .int
  | 6 => .int
  | 7 => .int
  | 8 => .array .int
  | _ => .array .int
abbrev N_La : Nat := 10
def R_Is : String := "LinkYard$Islands"
def F_Is : u_T := fun k => match k with
  | 0 => ("LinkYard$Islands", "sections", "LLinkYard$Sections;", true)
  | 1 => ("LinkYard$Islands", "relocations", "LLinkYard$Relocations;", true)
  | 2 => ("LinkYard$Islands", "names", "LLinkYard$Names;", true)
  | 3 => ("LinkYard$Islands", "folding", "LLinkYard$Folding;", true)
  | 4 => ("LinkYard$Islands", "layout", "LLinkYard$Layout;", true)
  | 5 => ("LinkYard$Islands", "count", "I", false)
  | 6 => ("LinkYard$Islands", "goers", "I", false)
  | 7 => ("LinkYard$Islands", "meant", "[I", true)
  | 8 => ("LinkYard$Islands", "where", "[I", true)
  | 9 => ("LinkYard$Islands", "sum", "[I", true)
  | _ => ("LinkYard$Islands", "islandOf", "[I", true)
def t_Is : Nat → FieldType := fun k => match k with
  | 0 => .object "LinkYard$Sections"
  | 1 => .object "LinkYard$Relocations"
  | 2 => .object "LinkYard$Names"
  | 3 => .object "LinkYard$Folding"
  | 4 => .object "LinkYard$Layout"
  | 5 => .int
  | 6 => .int
  | 7 => .array .int
  | 8 => .array .int
  | 9 => .array .int
  | _ => .array .int
abbrev N_Is : Nat := 11
def R_Me : String := "LinkYard$Mending"
def F_Me : u_T := fun k => match k with
  | 0 => ("LinkYard$Mending", "sections", "LLinkYard$Sections;", true)
  | 1 => ("LinkYard$Mending", "relocations", "LLinkYard$Relocations;", true)
  | 2 => ("LinkYard$Mending", "layout", "LLinkYard$Layout;", true)
  | _ => ("LinkYard$Mending", "islands", "LLinkYard$Islands;", true)
def t_Me : Nat → FieldType := fun k => match k with
  | 0 => .object "LinkYard$Sections"
  | 1 => .object "LinkYard$Relocations"
  | 2 => .object "LinkYard$Layout"
  | _ => .object "LinkYard$Islands"
abbrev N_Me : Nat := 4
def R_Mo : String := "LinkYardModel"
def F_Mo : u_T := fun k => match k with
  | 0 => ("LinkYardModel", "thrown", "I", false)
  | 1 => ("LinkYardModel", "units", "I", false)
  | 2 => ("LinkYardModel", "archive", "[I", true)
  | 3 => ("LinkYardModel", "sections", "I", false)
  | 4 => ("LinkYardModel", "unitOf", "[I", true)
  | 5 => ("LinkYardModel", "kind", "[I", true)
  | 6 => ("LinkYardModel", "size", "[I", true)
  | 7 => ("LinkYardModel", "alignment", "[I", true)
  | 8 => ("LinkYardModel", "firstWord", "[I", true)
  | 9 => ("LinkYardModel", "kept", "[Z", true)
  | 10 => ("LinkYardModel", "bytes", "I", false)
  | 11 => ("LinkYardModel", "words", "I", false)
  | 12 => ("LinkYardModel", "word", "[I", true)
  | 13 => ("LinkYardModel", "symbols", "I", false)
  | 14 => ("LinkYardModel", "syUnit", "[I", true)
  | 15 => ("LinkYardModel", "sySort", "[I", true)
  | 16 => ("LinkYardModel", "sySection", "[I", true)
  | 17 => ("LinkYardModel", "syValue", "[I", true)
  | 18 => ("LinkYardModel", "syName", "[I", true)
  | 19 => ("LinkYardModel", "syBinding", "[I", true)
  | 20 => ("LinkYardModel", "relocations", "I", false)
  | 21 => ("LinkYardModel", "reSection", "[I", true)
  | 22 => ("LinkYardModel", "rePlace", "[I", true)
  | 23 => ("LinkYardModel", "reSort", "[I", true)
  | 24 => ("LinkYardModel", "reSymbol", "[I", true)
  | 25 => ("LinkYardModel", "reAddend", "[I", true)
  | 26 => ("LinkYardModel", "entry", "I", false)
  | 27 => ("LinkYardModel", "folds", "Z", false)
  | 28 => ("LinkYardModel", "groups", "Z", false)
  | 29 => ("LinkYardModel", "linked", "Z", false)
  | 30 => ("LinkYardModel", "faultKind", "I", false)
  | 31 => ("LinkYardModel", "faultName", "I", false)
  | 32 => ("LinkYardModel", "faultRelocation", "I", false)
  | 33 => ("LinkYardModel", "base", "I", false)
  | 34 => ("LinkYardModel", "end", "I", false)
  | 35 => ("LinkYardModel", "laid", "I", false)
  | 36 => ("LinkYardModel", "in", "[Z", true)
  | 37 => ("LinkYardModel", "defines", "[I", true)
  | 38 => ("LinkYardModel", "commonSize", "[I", true)
  | 39 => ("LinkYardModel", "commonReached", "[Z", true)
  | 40 => ("LinkYardModel", "commonAt", "[I", true)
  | 41 => ("LinkYardModel", "reached", "[Z", true)
  | 42 => ("LinkYardModel", "like", "[I", true)
  | 43 => ("LinkYardModel", "sectionAt", "[I", true)
  | 44 => ("LinkYardModel", "alike", "[Z", true)
  | 45 => ("LinkYardModel", "mended", "[I", true)
  | 46 => ("LinkYardModel", "island", "[I", true)
  | 47 => ("LinkYardModel", "islands", "I", false)
  | 48 => ("LinkYardModel", "islandOf", "[I", true)
  | _ => ("LinkYardModel", "islandsAt", "I", false)
def t_Mo : Nat → FieldType := fun k => match k with
  | 0 => .int
  | 1 => .int
  | 2 => .array .int
  | 3 => .int
  | 4 => .array .int
  | 5 => .array .int
  | 6 => .array .int
  | 7 => .array .int
  | 8 => .array .int
  | 9 => .array .boolean
  | 10 => .int
  | 11 => .int
  | 12 => .array .int
  | 13 => .int
  | 14 => .array .int
  | 15 => .array .int
  | 16 => .array .int
  | 17 => .array .int
  | 18 => .array .int
  | 19 => .array .int
  | 20 => .int
  | 21 => .array .int
  | 22 => .array .int
  | 23 => .array .int
  | 24 => .array .int
  | 25 => .array .int
  | 26 => .int
  | 27 => .boolean
  | 28 => .boolean
  | 29 => .boolean
  | 30 => .int
  | 31 => .int
  | 32 => .int
  | 33 => .int
  | 34 => .int
  | 35 => .int
  | 36 => .array .boolean
  | 37 => .array .int
  | 38 => .array .int
  | 39 => .array .boolean
  | 40 => .array .int
  | 41 => .array .boolean
  | 42 => .array .int
  | 43 => .array .int
  | 44 => .array .boolean
  | 45 => .array .int
  | 46 => .array .int
  | 47 => .int
  | 48 => .array .int
  | _ => .int
abbrev N_Mo : Nat := 50
abbrev classes : List vw_C := [(R_Ly, F_Ly, N_Ly), (R_Un, F_Un, N_Un), (R_Se, F_Se, N_Se), (R_Sy, F_Sy, N_Sy), (R_Re, F_Re, N_Re), (R_Ar, F_Ar, N_Ar), (R_Na, F_Na, N_Na), (R_Rc, F_Rc, N_Rc), (R_Fo, F_Fo, N_Fo), (R_La, F_La, N_La), (R_Is, F_Is, N_Is), (R_Me, F_Me, N_Me), (R_Mo, F_Mo, N_Mo)]
set_option maxRecDepth 100000 in
theorem i_Ly : ∀ w ∈ u_ws R_Ly F_Ly N_Ly, w ∈ ALLW := mwAll (by decide +kernel)
theorem n_Ly : ∀ a, a < N_Ly → ∀ b, b < N_Ly → a ≠ b → (F_Ly a).2.1 ≠ (F_Ly b).2.1 := by decide +kernel
theorem t_Ly_ok : ∀ k, k < N_Ly → parseFieldDescriptor (F_Ly k).2.2.1 = some (t_Ly k) := by decide +kernel
theorem cls_Ly : classes[0]? = some (R_Ly, F_Ly, N_Ly) := rfl
set_option maxRecDepth 100000 in
theorem i_Un : ∀ w ∈ u_ws R_Un F_Un N_Un, w ∈ ALLW := mwAll (by decide +kernel)
theorem n_Un : ∀ a, a < N_Un → ∀ b, b < N_Un → a ≠ b → (F_Un a).2.1 ≠ (F_Un b).2.1 := by decide +kernel
theorem t_Un_ok : ∀ k, k < N_Un → parseFieldDescriptor (F_Un k).2.2.1 = some (t_Un k) := by decide +kernel
theorem cls_Un : classes[1]? = some (R_Un, F_Un, N_Un) := rfl
set_option maxRecDepth 100000 in
theorem i_Se : ∀ w ∈ u_ws R_Se F_Se N_Se, w ∈ ALLW := mwAll (by decide +kernel)
theorem n_Se : ∀ a, a < N_Se → ∀ b, b < N_Se → a ≠ b → (F_Se a).2.1 ≠ (F_Se b).2.1 := by decide +kernel
theorem t_Se_ok : ∀ k, k < N_Se → parseFieldDescriptor (F_Se k).2.2.1 = some (t_Se k) := by decide +kernel
theorem cls_Se : classes[2]? = some (R_Se, F_Se, N_Se) := rfl
set_option maxRecDepth 100000 in
theorem i_Sy : ∀ w ∈ u_ws R_Sy F_Sy N_Sy, w ∈ ALLW := mwAll (by decide +kernel)
theorem n_Sy : ∀ a, a < N_Sy → ∀ b, b < N_Sy → a ≠ b → (F_Sy a).2.1 ≠ (F_Sy b).2.1 := by decide +kernel
theorem t_Sy_ok : ∀ k, k < N_Sy → parseFieldDescriptor (F_Sy k).2.2.1 = some (t_Sy k) := by decide +kernel
theorem cls_Sy : classes[3]? = some (R_Sy, F_Sy, N_Sy) := rfl
set_option maxRecDepth 100000 in
theorem i_Re : ∀ w ∈ u_ws R_Re F_Re N_Re, w ∈ ALLW := mwAll (by decide +kernel)
theorem n_Re : ∀ a, a < N_Re → ∀ b, b < N_Re → a ≠ b → (F_Re a).2.1 ≠ (F_Re b).2.1 := by decide +kernel
theorem t_Re_ok : ∀ k, k < N_Re → parseFieldDescriptor (F_Re k).2.2.1 = some (t_Re k) := by decide +kernel
theorem cls_Re : classes[4]? = some (R_Re, F_Re, N_Re) := rfl
set_option maxRecDepth 100000 in
theorem i_Ar : ∀ w ∈ u_ws R_Ar F_Ar N_Ar, w ∈ ALLW := mwAll (by decide +kernel)
theorem n_Ar : ∀ a, a < N_Ar → ∀ b, b < N_Ar → a ≠ b → (F_Ar a).2.1 ≠ (F_Ar b).2.1 := by decide +kernel
theorem t_Ar_ok : ∀ k, k < N_Ar → parseFieldDescriptor (F_Ar k).2.2.1 = some (t_Ar k) := by decide +kernel
theorem cls_Ar : classes[5]? = some (R_Ar, F_Ar, N_Ar) := rfl
set_option maxRecDepth 100000 in
theorem i_Na : ∀ w ∈ u_ws R_Na F_Na N_Na, w ∈ ALLW := mwAll (by decide +kernel)
theorem n_Na : ∀ a, a < N_Na → ∀ b, b < N_Na → a ≠ b → (F_Na a).2.1 ≠ (F_Na b).2.1 := by decide +kernel
theorem t_Na_ok : ∀ k, k < N_Na → parseFieldDescriptor (F_Na k).2.2.1 = some (t_Na k) := by decide +kernel
theorem cls_Na : classes[6]? = some (R_Na, F_Na, N_Na) := rfl
set_option maxRecDepth 100000 in
theorem i_Rc : ∀ w ∈ u_ws R_Rc F_Rc N_Rc, w ∈ ALLW := mwAll (by decide +kernel)
theorem n_Rc : ∀ a, a < N_Rc → ∀ b, b < N_Rc → a ≠ b → (F_Rc a).2.1 ≠ (F_Rc b).2.1 := by decide +kernel
theorem t_Rc_ok : ∀ k, k < N_Rc → parseFieldDescriptor (F_Rc k).2.2.1 = some (t_Rc k) := by decide +kernel
theorem cls_Rc : classes[7]? = some (R_Rc, F_Rc, N_Rc) := rfl
set_option maxRecDepth 100000 in
theorem i_Fo : ∀ w ∈ u_ws R_Fo F_Fo N_Fo, w ∈ ALLW := mwAll (by decide +kernel)
theorem n_Fo : ∀ a, a < N_Fo → ∀ b, b < N_Fo → a ≠ b → (F_Fo a).2.1 ≠ (F_Fo b).2.1 := by decide +kernel
theorem t_Fo_ok : ∀ k, k < N_Fo → parseFieldDescriptor (F_Fo k).2.2.1 = some (t_Fo k) := by decide +kernel
theorem cls_Fo : classes[8]? = some (R_Fo, F_Fo, N_Fo) := rfl
set_option maxRecDepth 100000 in
theorem i_La : ∀ w ∈ u_ws R_La F_La N_La, w ∈ ALLW := mwAll (by decide +kernel)
theorem n_La : ∀ a, a < N_La → ∀ b, b < N_La → a ≠ b → (F_La a).2.1 ≠ (F_La b).2.1 := by decide +kernel
theorem t_La_ok : ∀ k, k < N_La → parseFieldDescriptor (F_La k).2.2.1 = some (t_La k) := by decide +kernel
theorem cls_La : classes[9]? = some (R_La, F_La, N_La) := rfl
set_option maxRecDepth 100000 in
theorem i_Is : ∀ w ∈ u_ws R_Is F_Is N_Is, w ∈ ALLW := mwAll (by decide +kernel)
theorem n_Is : ∀ a, a < N_Is → ∀ b, b < N_Is → a ≠ b → (F_Is a).2.1 ≠ (F_Is b).2.1 := by decide +kernel
theorem t_Is_ok : ∀ k, k < N_Is → parseFieldDescriptor (F_Is k).2.2.1 = some (t_Is k) := by decide +kernel
theorem cls_Is : classes[10]? = some (R_Is, F_Is, N_Is) := rfl
set_option maxRecDepth 100000 in
theorem i_Me : ∀ w ∈ u_ws R_Me F_Me N_Me, w ∈ ALLW := mwAll (by decide +kernel)
theorem n_Me : ∀ a, a < N_Me → ∀ b, b < N_Me → a ≠ b → (F_Me a).2.1 ≠ (F_Me b).2.1 := by decide +kernel
theorem t_Me_ok : ∀ k, k < N_Me → parseFieldDescriptor (F_Me k).2.2.1 = some (t_Me k) := by decide +kernel
theorem cls_Me : classes[11]? = some (R_Me, F_Me, N_Me) := rfl
set_option maxRecDepth 100000 in
theorem i_Mo : ∀ w ∈ u_ws R_Mo F_Mo N_Mo, w ∈ ALLW := mwAll (by decide +kernel)
theorem n_Mo : ∀ a, a < N_Mo → ∀ b, b < N_Mo → a ≠ b → (F_Mo a).2.1 ≠ (F_Mo b).2.1 := by decide +kernel
theorem t_Mo_ok : ∀ k, k < N_Mo → parseFieldDescriptor (F_Mo k).2.2.1 = some (t_Mo k) := by decide +kernel
theorem cls_Mo : classes[12]? = some (R_Mo, F_Mo, N_Mo) := rfl
theorem sysN : Cond.native arraycopyName ∈ ALLW := (mw 767 (by decide +kernel))
theorem sysS : Cond.static arraycopyName ∈ ALLW := (mw 766 (by decide +kernel))
theorem sysI : Cond.initialized "java/lang/System" ∈ ALLW := (mw 104 (by decide +kernel))
theorem mathmaxS : Cond.static Lib.Math.max.name ∈ ALLW := (mw 752 (by decide +kernel))
theorem mathmaxC : Cond.code Lib.Math.max.name Lib.Math.max.code 2 (some .int) ∈ ALLW := (mw 753 (by decide +kernel))
theorem mathminS : Cond.static Lib.Math.min.name ∈ ALLW := (mw 749 (by decide +kernel))
theorem mathminC : Cond.code Lib.Math.min.name Lib.Math.min.code 2 (some .int) ∈ ALLW := (mw 750 (by decide +kernel))
theorem mathI : Cond.initialized "java/lang/Math" ∈ ALLW := (mw 102 (by decide +kernel))
end
section
/-! The state of a fixed graph of cells: V k j is what the cell k holds at its slot (or place) j. Methods are functions over it, in Option. -/
abbrev Sto : Type := Nat → Nat → Int32
/-- a store: cell k, slot i -/
def sw (V : Sto) (k i : Nat) (x : Int32) : Sto := fun q => if q = k then upd (V k) i x else V q
/-- an index that is within -/
def ib (i : Int32) (n : Nat) : Bool := !(decide (i < 0) || decide (n ≤ i.toNatClampNeg))
/-- a boolean's number -/
def bb (x : Int32) : Bool := decide (x = 0) || decide (x = 1)
abbrev RT : Type := Option (Int32 × Sto)
abbrev RTT : Type := Option ((Int32 ⊕ Nat) × Sto)
def ck {α : Type} (b : Bool) (k : Option α) : Option α := match b with
  | true => k
  | false => none
def nm {α β : Type} (x : α) (k : α → Option β) : Option β := k x
def cl {β : Type} (x : RT) (k : Int32 → Sto → Option β) : Option β := match x with
  | some (r, V) => k r V
  | none => none
def clT (x : RTT) (k : Int32 → Sto → RTT) : RTT := match x with
  | some (.inl r, V) => k r V
  | some (.inr e, V) => some (.inr e, V)
  | none => none
/-- how often a loop may go round: far more than any does -/
def FU : Nat := 1000000
theorem ib_in {i : Int32} {n : Nat} (h : ib i n = true) : vp_in i n := by
  intro q
  unfold ib at h
  rcases q with q | q <;> simp [q] at h
theorem ib_of {i : Int32} {n : Nat} (h : vp_in i n) : ib i n = true := by
  unfold ib
  unfold vp_in at h
  rw [Bool.not_eq_true', Bool.or_eq_false_iff, decide_eq_false_iff_not, decide_eq_false_iff_not]
  exact ⟨fun q => h (Or.inl q), fun q => h (Or.inr q)⟩
theorem ib_nI {n N : Nat} (h : n < N) (hN : N < 2 ^ 31) : ib (nI n) N = true := ib_of (vp_in_nI h hN)
theorem ck_some {α : Type} {b : Bool} {k : Option α} {y : α} (h : ck b k = some y) : b = true ∧ k = some y := by
  cases b with
  | true => exact ⟨rfl, h⟩
  | false => cases h
theorem nm_some {α β : Type} {x : α} {k : α → Option β} {y : β} (h : nm x k = some y) : ∃ z, x = z ∧ k z = some y := ⟨x, rfl, h⟩
theorem cl_some {β : Type} {x : RT} {k : Int32 → Sto → Option β} {y : β} (h : cl x k = some y) : ∃ r V, x = some (r, V) ∧ k r V = some y := by
  cases x with
  | none => cases h
  | some q => exact ⟨q.1, q.2, rfl, h⟩
theorem ck_t {α : Type} {b : Bool} {k : Option α} (h : b = true) : ck b k = k := by rw [h]; rfl
theorem cl_s {β : Type} {x : RT} {k : Int32 → Sto → Option β} {r : Int32} {V : Sto} (h : x = some (r, V)) : cl x k = k r V := by rw [h]; rfl
theorem sw_s (V : Sto) (k i : Nat) (x : Int32) : sw V k i x k i = x := by simp [sw, upd]
theorem sw_n (V : Sto) (k i j : Nat) (x : Int32) (h : j ≠ i) : sw V k i x k j = V k j := by simp [sw, upd, h]
theorem sw_o (V : Sto) (k i q j : Nat) (x : Int32) (h : q ≠ k) : sw V k i x q j = V q j := by simp [sw, h]
theorem ifp {α : Sort _} {c : Prop} {hd : Decidable c} {a b y : α} (hc : c) (h : (@ite α c hd a b) = y) : a = y := by rw [if_pos hc] at h; exact h
theorem ifn {α : Sort _} {c : Prop} {hd : Decidable c} {a b y : α} (hc : ¬ c) (h : (@ite α c hd a b) = y) : b = y := by rw [if_neg hc] at h; exact h
/-- a place where ways meet -/
def jn {α β : Type} (k : α) (f : α → β) : β := f k
theorem jn_some {α β : Type} {k : α} {f : α → Option β} {y : β} (h : jn k f = some y) : ∃ j, k = j ∧ f j = some y := ⟨k, rfl, h⟩
end
section
/-! The world of a fixed graph: its shape, its cells, and what a store or a put does to them. -/
abbrev Shp : Type := (Nat × List (Option Nat)) ⊕ (Bool × Option Nat)
/-- a row's length: fixed, or kept at the ghost cell 1000 -/
def alenOf (V : Sto) (k : Nat) (o : Option Nat) : Nat := match o with
  | some n => n
  | none => (V 1000 k).toNatClampNeg
def fvs (a : Nat → Nat) (f : Nat → Int32) : Nat → List (Option Nat) → List Value
  | _, [] => []
  | j, none :: fs => .int (f j) :: fvs a f (j + 1) fs
  | j, some r :: fs => .ref (a r) :: fvs a f (j + 1) fs
def arrC (cI cZ : ClassId) (b : Bool) : ClassId := match b with
  | true => cZ
  | false => cI
def cellE (cI cZ : ClassId) (a : Nat → Nat) (V : Sto) (k : Nat) (sh : Shp) : va_E := match sh with
  | .inl (ci, fs) => .inr (ci, fvs a (V k) 0 fs)
  | .inr (b, o) => .inl (arrC cI cZ b, alenOf V k o, .inl (V k))
def wsF (cI cZ : ClassId) (a : Nat → Nat) (V : Sto) : Nat → List Shp → va_W
  | _, [] => []
  | k, sh :: l => (a k, cellE cI cZ a V k sh) :: wsF cI cZ a V (k + 1) l
theorem wsF_at (cI cZ : ClassId) (a : Nat → Nat) (V : Sto) : ∀ (l : List Shp) (b k : Nat), (wsF cI cZ a V b l)[k]? = (l[k]?).map (fun sh => (a (b + k), cellE cI cZ a V (b + k) sh))
  | [], b, k => by simp [wsF]
  | sh :: l, b, 0 => by simp [wsF]
  | sh :: l, b, k + 1 => by
    rw [wsF, List.getElem?_cons_succ, List.getElem?_cons_succ, wsF_at cI cZ a V l (b + 1) k]
    rw [show b + 1 + k = b + (k + 1) by omega]
theorem wsF_len (cI cZ : ClassId) (a : Nat → Nat) (V : Sto) : ∀ (l : List Shp) (b : Nat), (wsF cI cZ a V b l).length = l.length
  | [], b => rfl
  | sh :: l, b => by rw [wsF, List.length_cons, List.length_cons, wsF_len cI cZ a V l (b + 1)]
theorem fvs_at (a : Nat → Nat) (f : Nat → Int32) : ∀ (fs : List (Option Nat)) (b j : Nat), (fvs a f b fs)[j]? = (fs[j]?).map (fun o => match o with | none => Value.int (f (b + j)) | some r => Value.ref (a r))
  | [], b, j => by simp [fvs]
  | none :: fs, b, 0 => by simp [fvs]
  | some r :: fs, b, 0 => by simp [fvs]
  | none :: fs, b, j + 1 => by
    rw [fvs, List.getElem?_cons_succ, List.getElem?_cons_succ, fvs_at a f fs (b + 1) j]
    rw [show b + 1 + j = b + (j + 1) by omega]
  | some r :: fs, b, j + 1 => by
    rw [fvs, List.getElem?_cons_succ, List.getElem?_cons_succ, fvs_at a f fs (b + 1) j]
    rw [show b + 1 + j = b + (j + 1) by omega]
theorem fvs_len (a : Nat → Nat) (f : Nat → Int32) : ∀ (fs : List (Option Nat)) (b : Nat), (fvs a f b fs).length = fs.length
  | [], b => rfl
  | none :: fs, b => by rw [fvs, List.length_cons, List.length_cons, fvs_len a f fs (b + 1)]
  | some r :: fs, b => by rw [fvs, List.length_cons, List.length_cons, fvs_len a f fs (b + 1)]
/-- a field of ints is put -/
theorem fvs_set (a : Nat → Nat) (f : Nat → Int32) (fs : List (Option Nat)) (j : Nat) (x : Int32) (h : fs[j]? = some none) : (fvs a f 0 fs).set j (.int x) = fvs a (upd f j x) 0 fs := by
  apply List.ext_getElem?
  intro i
  have hl : j < (fvs a f 0 fs).length := by rw [fvs_len]; exact (List.getElem?_eq_some_iff.mp h).1
  by_cases hi : i = j
  · subst hi
    rw [List.getElem?_set_self hl, fvs_at, h]
    simp [upd]
  · rw [List.getElem?_set_ne (Ne.symm hi), fvs_at, fvs_at]
    cases hq : fs[i]? with
    | none => rfl
    | some o => cases o <;> simp [upd, hi]
/-- the world behind a change of one cell's row k -/
theorem wsF_set {cI cZ : ClassId} {a : Nat → Nat} {V : Sto} {shp : List Shp} {k : Nat} {sh : Shp} {f : Nat → Int32} (hk : shp[k]? = some sh) (h1000 : k ≠ 1000) {e : va_E} (he : e = cellE cI cZ a (va_up V k f) k sh) :
    (wsF cI cZ a V 0 shp).set k (a k, e) = wsF cI cZ a (va_up V k f) 0 shp := by
  apply List.ext_getElem?
  intro i
  have hl : k < (wsF cI cZ a V 0 shp).length := by rw [wsF_len]; exact (List.getElem?_eq_some_iff.mp hk).1
  by_cases hi : i = k
  · subst hi
    rw [List.getElem?_set_self hl, wsF_at, hk, he]
    simp
  · rw [List.getElem?_set_ne (Ne.symm hi), wsF_at, wsF_at]
    cases hq : shp[i]? with
    | none => rfl
    | some o =>
      have e1 : va_up V k f i = V i := by simp [va_up, hi]
      have e2 : va_up V k f 1000 = V 1000 := by simp [va_up, Ne.symm h1000]
      rcases o with ⟨ci, fs⟩ | ⟨b, o⟩
      · simp [cellE, e1]
      · cases o <;> simp [cellE, alenOf, e1, e2]
theorem sw_up (V : Sto) (k i : Nat) (x : Int32) : sw V k i x = va_up V k (upd (V k) i x) := by
  funext q
  by_cases h : q = k <;> simp [sw, va_up, h]
theorem wsF_put {cI cZ : ClassId} {a : Nat → Nat} {V : Sto} {shp : List Shp} {k j ci : Nat} {fs : List (Option Nat)} {x : Int32} (hk : shp[k]? = some (.inl (ci, fs))) (hj : fs[j]? = some none) (h1000 : k ≠ 1000) :
    (wsF cI cZ a V 0 shp).set k (a k, .inr (ci, (fvs a (V k) 0 fs).set j (.int x))) = wsF cI cZ a (sw V k j x) 0 shp := by
  rw [sw_up]
  refine wsF_set hk h1000 ?_
  rw [fvs_set a (V k) fs j x hj]
  simp [cellE, va_up]
theorem wsF_ast {cI cZ : ClassId} {a : Nat → Nat} {V : Sto} {shp : List Shp} {k i : Nat} {b : Bool} {o : Option Nat} {x : Int32} (hk : shp[k]? = some (.inr (b, o))) (h1000 : k ≠ 1000) :
    (wsF cI cZ a V 0 shp).set k (a k, .inl (arrC cI cZ b, alenOf V k o, .inl (upd (V k) i x))) = wsF cI cZ a (sw V k i x) 0 shp := by
  rw [sw_up]
  refine wsF_set hk h1000 ?_
  have e2 : va_up V k (upd (V k) i x) 1000 = V 1000 := by simp [va_up, Ne.symm h1000]
  have e1 : va_up V k (upd (V k) i x) k = upd (V k) i x := by simp [va_up]
  cases o <;> simp [cellE, alenOf, e1, e2]
/-- the cells of a graph, and all that come: what its methods may change -/
def RA (a : Nat → Nat) (n sz : Nat) : Nat → Prop := fun q => (∃ k, k < n ∧ q = a k) ∨ sz ≤ q
/-- a row copied into another -/
def cpw (V : Sto) (k0 k1 : Nat) (sp dp n : Int32) : Sto := va_up V k1 (va_cpy (V k0) (V k1) sp.toNatClampNeg dp.toNatClampNeg n.toNatClampNeg)
def cpb (sp dp n : Int32) (n0 n1 : Nat) : Bool := !(decide (sp < 0)) && (!(decide (dp < 0)) && (!(decide (n < 0)) && (decide (sp.toNatClampNeg + n.toNatClampNeg ≤ n0) && decide (dp.toNatClampNeg + n.toNatClampNeg ≤ n1))))
theorem cpb_s {sp dp n : Int32} {n0 n1 : Nat} (h : cpb sp dp n n0 n1 = true) : ¬ sp < 0 ∧ ¬ dp < 0 ∧ ¬ n < 0 ∧ sp.toNatClampNeg + n.toNatClampNeg ≤ n0 ∧ dp.toNatClampNeg + n.toNatClampNeg ≤ n1 := by
  unfold cpb at h
  simpa using h
theorem bb_nar {x : Int32} (h : bb x = true) : narrow .boolean (.int x) = .int x := by
  unfold bb at h
  rw [Bool.or_eq_true, decide_eq_true_eq, decide_eq_true_eq] at h
  rcases h with rfl | rfl <;> rfl
theorem bb_fit {x : Int32} (h : bb x = true) : fits .boolean (.int x) = true := by
  unfold bb at h
  rw [Bool.or_eq_true, decide_eq_true_eq, decide_eq_true_eq] at h
  rcases h with rfl | rfl <;> rfl
theorem i32_ne {x y : Int32} (h : ¬ x = y) : x.toInt ≠ y.toInt := fun e => h (Int32.toInt_inj.mp e)
theorem i32lit_0 : (0 : Int32).toInt = 0 := by decide
theorem i32lit_1 : (1 : Int32).toInt = 1 := by decide
theorem i32lit_2 : (2 : Int32).toInt = 2 := by decide
theorem i32lit_3 : (3 : Int32).toInt = 3 := by decide
theorem i32lit_4 : (4 : Int32).toInt = 4 := by decide
theorem i32lit_5 : (5 : Int32).toInt = 5 := by decide
theorem i32lit_6 : (6 : Int32).toInt = 6 := by decide
theorem i32lit_7 : (7 : Int32).toInt = 7 := by decide
end
section
/-! The walk over a fixed graph: Y C shp nL pc L st V: the machine at pc, with the locals L, the operand stack st, the graph's cells as V says, comes to C's end. -/
abbrev YC : Type := (Program × Launch × Env × Room × State) × (MethodId × Array Value × List Frame × Method × Code) × (va_G × ClassId × ClassId) × ((Nat → Nat) × (Nat → Prop)) × (Nat × Nat) × (State → Prop)
abbrev YC.p (C : YC) : Program := C.1.1
abbrev YC.l (C : YC) : Launch := C.1.2.1
abbrev YC.e (C : YC) : Env := C.1.2.2.1
abbrev YC.R (C : YC) : Room := C.1.2.2.2.1
abbrev YC.s (C : YC) : State := C.1.2.2.2.2
abbrev YC.m (C : YC) : MethodId := C.2.1.1
abbrev YC.args (C : YC) : Array Value := C.2.1.2.1
abbrev YC.below (C : YC) : List Frame := C.2.1.2.2.1
abbrev YC.meth (C : YC) : Method := C.2.1.2.2.2.1
abbrev YC.c (C : YC) : Code := C.2.1.2.2.2.2
abbrev YC.D (C : YC) : va_G := C.2.2.1.1
abbrev YC.cI (C : YC) : ClassId := C.2.2.1.2.1
abbrev YC.cZ (C : YC) : ClassId := C.2.2.1.2.2
def YC.a (C : YC) : Nat → Nat := C.2.2.2.1.1
abbrev YC.A (C : YC) : Nat → Prop := C.2.2.2.1.2
abbrev YC.k (C : YC) : Nat := C.2.2.2.2.1.1
abbrev YC.n (C : YC) : Nat := C.2.2.2.2.1.2
abbrev YC.Q (C : YC) : State → Prop := C.2.2.2.2.2
abbrev YC.go (C : YC) (H : Heap) (locs : List Loc) (g : JFrame) : Prop := W C.p C.l C.e C.R C.s C.m C.args C.below C.meth C.c H locs C.k C.n C.Q g
abbrev YC.ws (C : YC) (shp : List Shp) (V : Sto) : va_W := wsF C.cI C.cZ C.a V 0 shp
abbrev tysOf (cI cZ : ClassId) : List (ClassId × FieldType) := [(cI, .int), (cZ, .boolean)]
def Y (C : YC) (shp : List Shp) (nL pc : Nat) (L : List (Nat × Value)) (st : List Value) (V : Sto) : Prop :=
  ∀ (H : Heap) (locs : List Loc) (ls : Array Slot), va_P C.D classes (C.ws shp V) H → va_D C.A (C.ws shp V) → va_S C.A C.s.heap H locs → lv_has ls nL L → C.go H locs (F0 C.m pc ls st)
/-- what stands fast in a method's walk -/
def YF (C : YC) (own : String) (cc : ByteArray) (nL : Nat) (rm : Room) : Prop :=
  C.p.tables.exec = Jvm.exec ∧ C.c.code = cc ∧ C.c.maxLocals = nL ∧ C.s.vm.findClass own = some C.m.cls ∧ (∀ w ∈ ALLW, w.before C.args C.s = true) ∧ va_K C.D classes (tysOf C.cI C.cZ) C.s ∧ C.meth.locks = false ∧ C.R = rm ∧ (∀ q : Nat, C.s.heap.size ≤ q → C.A q) ∧ C.k ≤ C.R.cells ∧ C.n ≤ C.R.slots
section YR
variable {C : YC} {own : String} {cc : ByteArray} {nL pc : Nat} {rm : Room} {shp : List Shp} {L : List (Nat × Value)} {st : List Value} {V : Sto}
theorem Y_sub (ks : List Nat) {L' : List (Nat × Value)} (h : lv_pick L ks = L') (k : Y C shp nL pc L' st V) : Y C shp nL pc L st V := fun H locs ls hP hD hS hl => k H locs ls hP hD hS (lv_sub hl ks h)

theorem Y_iconst (hC : YF C own cc nL rm) {n : Int} {v : Int32} (d : decode cc pc = .ok (.iconst n, 1)) (hv : Int32.ofInt n = v)
    (k : Y C shp nL (pc + 1) L (.int v :: st) V) : Y C shp nL pc L (st) V := by
  obtain ⟨hx, hb, hml, hown, hts, hK, hlk, hR, hA, hk1, hk2⟩ := hC
  intro H locs ls hP hD hS hl
  exact lv_iconst hx hb d hv (k H locs ls hP hD hS hl)

theorem Y_bipush (hC : YF C own cc nL rm) {n : Int} {v : Int32} (d : decode cc pc = .ok (.bipush n, 2)) (hv : (Int8.ofInt n).toInt32 = v)
    (k : Y C shp nL (pc + 2) L (.int v :: st) V) : Y C shp nL pc L (st) V := by
  obtain ⟨hx, hb, hml, hown, hts, hK, hlk, hR, hA, hk1, hk2⟩ := hC
  intro H locs ls hP hD hS hl
  exact lv_bipush hx hb d hv (k H locs ls hP hD hS hl)

theorem Y_sipush (hC : YF C own cc nL rm) {n : Int} {v : Int32} (d : decode cc pc = .ok (.sipush n, 3)) (hv : (Int16.ofInt n).toInt32 = v)
    (k : Y C shp nL (pc + 3) L (.int v :: st) V) : Y C shp nL pc L (st) V := by
  obtain ⟨hx, hb, hml, hown, hts, hK, hlk, hR, hA, hk1, hk2⟩ := hC
  intro H locs ls hP hD hS hl
  exact lv_sipush hx hb d hv (k H locs ls hP hD hS hl)

theorem Y_ldc (hC : YF C own cc nL rm) {idx : Nat} {v : Int32} (hc : Cond.constant own idx v ∈ ALLW) (d : decode cc pc = .ok (.ldc idx, 2))
    (k : Y C shp nL (pc + 2) L (.int v :: st) V) : Y C shp nL pc L (st) V := by
  obtain ⟨hx, hb, hml, hown, hts, hK, hlk, hR, hA, hk1, hk2⟩ := hC
  intro H locs ls hP hD hS hl
  exact lv_ldc hx hb hown (hts _ hc) d (k H locs ls hP hD hS hl)

theorem Y_ldcw (hC : YF C own cc nL rm) {idx : Nat} {v : Int32} (hc : Cond.constant own idx v ∈ ALLW) (d : decode cc pc = .ok (.ldc_w idx, 3))
    (k : Y C shp nL (pc + 3) L (.int v :: st) V) : Y C shp nL pc L (st) V := by
  obtain ⟨hx, hb, hml, hown, hts, hK, hlk, hR, hA, hk1, hk2⟩ := hC
  intro H locs ls hP hD hS hl
  exact lv_ldcw hx hb hown (hts _ hc) d (k H locs ls hP hD hS hl)

theorem Y_ldc2 (hC : YF C own cc nL rm) {idx : Nat} {v : Int64} (hc : Cond.constantLong own idx v ∈ ALLW) (d : decode cc pc = .ok (.ldc2_w idx, 3))
    (k : Y C shp nL (pc + 3) L (.long v :: st) V) : Y C shp nL pc L (st) V := by
  obtain ⟨hx, hb, hml, hown, hts, hK, hlk, hR, hA, hk1, hk2⟩ := hC
  intro H locs ls hP hD hS hl
  exact lv_ldc2 hx hb hown (hts _ hc) d (k H locs ls hP hD hS hl)

theorem Y_lconst (hC : YF C own cc nL rm) {n : Fin 2} {v : Int64} (d : decode cc pc = .ok (.lconst n, 1)) (hv : Int64.ofNat (n : Nat) = v)
    (k : Y C shp nL (pc + 1) L (.long v :: st) V) : Y C shp nL pc L (st) V := by
  obtain ⟨hx, hb, hml, hown, hts, hK, hlk, hR, hA, hk1, hk2⟩ := hC
  intro H locs ls hP hD hS hl
  exact lv_lconst hx hb d hv (k H locs ls hP hD hS hl)

theorem Y_iload_n (hC : YF C own cc nL rm) {n : Fin 4} {i : Nat} {x : Int32} (d : decode cc pc = .ok (.iload_n n, 1)) (hi : (n : Nat) = i) (j : Nat) (hj : L[j]? = some (i, .int x))
    (k : Y C shp nL (pc + 1) L (.int x :: st) V) : Y C shp nL pc L (st) V := by
  obtain ⟨hx, hb, hml, hown, hts, hK, hlk, hR, hA, hk1, hk2⟩ := hC
  intro H locs ls hP hD hS hl
  exact lv_iload_n hx hb d hi (lv_at hl j hj) (k H locs ls hP hD hS hl)

theorem Y_iload (hC : YF C own cc nL rm) {i : Nat} {x : Int32} (d : decode cc pc = .ok (.iload i, 2)) (j : Nat) (hj : L[j]? = some (i, .int x))
    (k : Y C shp nL (pc + 2) L (.int x :: st) V) : Y C shp nL pc L (st) V := by
  obtain ⟨hx, hb, hml, hown, hts, hK, hlk, hR, hA, hk1, hk2⟩ := hC
  intro H locs ls hP hD hS hl
  exact lv_iload hx hb d (lv_at hl j hj) (k H locs ls hP hD hS hl)

theorem Y_istore_n (hC : YF C own cc nL rm) {n : Fin 4} {i : Nat} {x : Int32} {L' : List (Nat × Value)} (d : decode cc pc = .ok (.istore_n n, 1)) (hi : (n : Nat) = i) (hn : i < nL) (hL : (i, Value.int x) :: L.filter (fun q => !(q.1 == i) && !(q.1 + 1 == i && q.2.category == 2)) = L')
    (k : Y C shp nL (pc + 1) L' (st) V) : Y C shp nL pc L (.int x :: st) V := by
  obtain ⟨hx, hb, hml, hown, hts, hK, hlk, hR, hA, hk1, hk2⟩ := hC
  intro H locs ls hP hD hS hl
  exact lv_istore_n hx hb d hi hl hn hL (fun ls hl => k H locs ls hP hD hS hl)

theorem Y_istore (hC : YF C own cc nL rm) {i : Nat} {x : Int32} {L' : List (Nat × Value)} (d : decode cc pc = .ok (.istore i, 2)) (hn : i < nL) (hL : (i, Value.int x) :: L.filter (fun q => !(q.1 == i) && !(q.1 + 1 == i && q.2.category == 2)) = L')
    (k : Y C shp nL (pc + 2) L' (st) V) : Y C shp nL pc L (.int x :: st) V := by
  obtain ⟨hx, hb, hml, hown, hts, hK, hlk, hR, hA, hk1, hk2⟩ := hC
  intro H locs ls hP hD hS hl
  exact lv_istore hx hb d hl hn hL (fun ls hl => k H locs ls hP hD hS hl)

theorem Y_lload_n (hC : YF C own cc nL rm) {n : Fin 4} {i : Nat} {x : Int64} (d : decode cc pc = .ok (.lload_n n, 1)) (hi : (n : Nat) = i) (j : Nat) (hj : L[j]? = some (i, .long x))
    (k : Y C shp nL (pc + 1) L (.long x :: st) V) : Y C shp nL pc L (st) V := by
  obtain ⟨hx, hb, hml, hown, hts, hK, hlk, hR, hA, hk1, hk2⟩ := hC
  intro H locs ls hP hD hS hl
  exact lv_lload_n hx hb d hi (lv_at hl j hj) (k H locs ls hP hD hS hl)

theorem Y_lload (hC : YF C own cc nL rm) {i : Nat} {x : Int64} (d : decode cc pc = .ok (.lload i, 2)) (j : Nat) (hj : L[j]? = some (i, .long x))
    (k : Y C shp nL (pc + 2) L (.long x :: st) V) : Y C shp nL pc L (st) V := by
  obtain ⟨hx, hb, hml, hown, hts, hK, hlk, hR, hA, hk1, hk2⟩ := hC
  intro H locs ls hP hD hS hl
  exact lv_lload hx hb d (lv_at hl j hj) (k H locs ls hP hD hS hl)

theorem Y_lstore_n (hC : YF C own cc nL rm) {n : Fin 4} {i : Nat} {x : Int64} {L' : List (Nat × Value)} (d : decode cc pc = .ok (.lstore_n n, 1)) (hi : (n : Nat) = i) (hn : i + 1 < nL) (hL : (i, Value.long x) :: L.filter (fun q => !(q.1 == i) && (!(q.1 == i + 1) && !(q.1 + 1 == i && q.2.category == 2))) = L')
    (k : Y C shp nL (pc + 1) L' (st) V) : Y C shp nL pc L (.long x :: st) V := by
  obtain ⟨hx, hb, hml, hown, hts, hK, hlk, hR, hA, hk1, hk2⟩ := hC
  intro H locs ls hP hD hS hl
  exact lv_lstore_n hx hb d hi hl hn hL (fun ls hl => k H locs ls hP hD hS hl)

theorem Y_lstore (hC : YF C own cc nL rm) {i : Nat} {x : Int64} {L' : List (Nat × Value)} (d : decode cc pc = .ok (.lstore i, 2)) (hn : i + 1 < nL) (hL : (i, Value.long x) :: L.filter (fun q => !(q.1 == i) && (!(q.1 == i + 1) && !(q.1 + 1 == i && q.2.category == 2))) = L')
    (k : Y C shp nL (pc + 2) L' (st) V) : Y C shp nL pc L (.long x :: st) V := by
  obtain ⟨hx, hb, hml, hown, hts, hK, hlk, hR, hA, hk1, hk2⟩ := hC
  intro H locs ls hP hD hS hl
  exact lv_lstore hx hb d hl hn hL (fun ls hl => k H locs ls hP hD hS hl)

theorem Y_aload_n (hC : YF C own cc nL rm) {n : Fin 4} {i : Nat} {x : Nat} (d : decode cc pc = .ok (.aload_n n, 1)) (hi : (n : Nat) = i) (j : Nat) (hj : L[j]? = some (i, .ref x))
    (k : Y C shp nL (pc + 1) L (.ref x :: st) V) : Y C shp nL pc L (st) V := by
  obtain ⟨hx, hb, hml, hown, hts, hK, hlk, hR, hA, hk1, hk2⟩ := hC
  intro H locs ls hP hD hS hl
  exact lv_aload_n hx hb d hi (lv_at hl j hj) (k H locs ls hP hD hS hl)

theorem Y_aload (hC : YF C own cc nL rm) {i : Nat} {x : Nat} (d : decode cc pc = .ok (.aload i, 2)) (j : Nat) (hj : L[j]? = some (i, .ref x))
    (k : Y C shp nL (pc + 2) L (.ref x :: st) V) : Y C shp nL pc L (st) V := by
  obtain ⟨hx, hb, hml, hown, hts, hK, hlk, hR, hA, hk1, hk2⟩ := hC
  intro H locs ls hP hD hS hl
  exact lv_aload hx hb d (lv_at hl j hj) (k H locs ls hP hD hS hl)

theorem Y_astore_n (hC : YF C own cc nL rm) {n : Fin 4} {i : Nat} {x : Nat} {L' : List (Nat × Value)} (d : decode cc pc = .ok (.astore_n n, 1)) (hi : (n : Nat) = i) (hn : i < nL) (hL : (i, Value.ref x) :: L.filter (fun q => !(q.1 == i) && !(q.1 + 1 == i && q.2.category == 2)) = L')
    (k : Y C shp nL (pc + 1) L' (st) V) : Y C shp nL pc L (.ref x :: st) V := by
  obtain ⟨hx, hb, hml, hown, hts, hK, hlk, hR, hA, hk1, hk2⟩ := hC
  intro H locs ls hP hD hS hl
  exact lv_astore_n hx hb d hi hl hn hL (fun ls hl => k H locs ls hP hD hS hl)

theorem Y_astore (hC : YF C own cc nL rm) {i : Nat} {x : Nat} {L' : List (Nat × Value)} (d : decode cc pc = .ok (.astore i, 2)) (hn : i < nL) (hL : (i, Value.ref x) :: L.filter (fun q => !(q.1 == i) && !(q.1 + 1 == i && q.2.category == 2)) = L')
    (k : Y C shp nL (pc + 2) L' (st) V) : Y C shp nL pc L (.ref x :: st) V := by
  obtain ⟨hx, hb, hml, hown, hts, hK, hlk, hR, hA, hk1, hk2⟩ := hC
  intro H locs ls hP hD hS hl
  exact lv_astore hx hb d hl hn hL (fun ls hl => k H locs ls hP hD hS hl)

theorem Y_iinc (hC : YF C own cc nL rm) {i : Nat} {n : Int} {x v : Int32} {L' : List (Nat × Value)} (d : decode cc pc = .ok (.iinc i n, 3)) (j : Nat) (hj : L[j]? = some (i, .int x)) (hv : x + Int32.ofInt n = v) (hn : i < nL) (hL : (i, Value.int v) :: L.filter (fun q => !(q.1 == i) && !(q.1 + 1 == i && q.2.category == 2)) = L')
    (k : Y C shp nL (pc + 3) L' (st) V) : Y C shp nL pc L (st) V := by
  obtain ⟨hx, hb, hml, hown, hts, hK, hlk, hR, hA, hk1, hk2⟩ := hC
  intro H locs ls hP hD hS hl
  exact lv_iinc hx hb d hl hj hv hn hL (fun ls hl => k H locs ls hP hD hS hl)

theorem Y_iadd (hC : YF C own cc nL rm) {x y : Int32} (d : decode cc pc = .ok (.iadd, 1))
    (k : Y C shp nL (pc + 1) L (.int (x + y) :: st) V) : Y C shp nL pc L (.int y :: .int x :: st) V := by
  obtain ⟨hx, hb, hml, hown, hts, hK, hlk, hR, hA, hk1, hk2⟩ := hC
  intro H locs ls hP hD hS hl
  exact lv_iadd hx hb d (k H locs ls hP hD hS hl)

theorem Y_isub (hC : YF C own cc nL rm) {x y : Int32} (d : decode cc pc = .ok (.isub, 1))
    (k : Y C shp nL (pc + 1) L (.int (x - y) :: st) V) : Y C shp nL pc L (.int y :: .int x :: st) V := by
  obtain ⟨hx, hb, hml, hown, hts, hK, hlk, hR, hA, hk1, hk2⟩ := hC
  intro H locs ls hP hD hS hl
  exact lv_isub hx hb d (k H locs ls hP hD hS hl)

theorem Y_imul (hC : YF C own cc nL rm) {x y : Int32} (d : decode cc pc = .ok (.imul, 1))
    (k : Y C shp nL (pc + 1) L (.int (x * y) :: st) V) : Y C shp nL pc L (.int y :: .int x :: st) V := by
  obtain ⟨hx, hb, hml, hown, hts, hK, hlk, hR, hA, hk1, hk2⟩ := hC
  intro H locs ls hP hD hS hl
  exact lv_imul hx hb d (k H locs ls hP hD hS hl)

theorem Y_iand (hC : YF C own cc nL rm) {x y : Int32} (d : decode cc pc = .ok (.iand, 1))
    (k : Y C shp nL (pc + 1) L (.int (x &&& y) :: st) V) : Y C shp nL pc L (.int y :: .int x :: st) V := by
  obtain ⟨hx, hb, hml, hown, hts, hK, hlk, hR, hA, hk1, hk2⟩ := hC
  intro H locs ls hP hD hS hl
  exact lv_iand hx hb d (k H locs ls hP hD hS hl)

theorem Y_ior (hC : YF C own cc nL rm) {x y : Int32} (d : decode cc pc = .ok (.ior, 1))
    (k : Y C shp nL (pc + 1) L (.int (x ||| y) :: st) V) : Y C shp nL pc L (.int y :: .int x :: st) V := by
  obtain ⟨hx, hb, hml, hown, hts, hK, hlk, hR, hA, hk1, hk2⟩ := hC
  intro H locs ls hP hD hS hl
  exact lv_ior hx hb d (k H locs ls hP hD hS hl)

theorem Y_ixor (hC : YF C own cc nL rm) {x y : Int32} (d : decode cc pc = .ok (.ixor, 1))
    (k : Y C shp nL (pc + 1) L (.int (x ^^^ y) :: st) V) : Y C shp nL pc L (.int y :: .int x :: st) V := by
  obtain ⟨hx, hb, hml, hown, hts, hK, hlk, hR, hA, hk1, hk2⟩ := hC
  intro H locs ls hP hD hS hl
  exact lv_ixor hx hb d (k H locs ls hP hD hS hl)

theorem Y_ladd (hC : YF C own cc nL rm) {x y : Int64} (d : decode cc pc = .ok (.ladd, 1))
    (k : Y C shp nL (pc + 1) L (.long (x + y) :: st) V) : Y C shp nL pc L (.long y :: .long x :: st) V := by
  obtain ⟨hx, hb, hml, hown, hts, hK, hlk, hR, hA, hk1, hk2⟩ := hC
  intro H locs ls hP hD hS hl
  exact lv_ladd hx hb d (k H locs ls hP hD hS hl)

theorem Y_lsub (hC : YF C own cc nL rm) {x y : Int64} (d : decode cc pc = .ok (.lsub, 1))
    (k : Y C shp nL (pc + 1) L (.long (x - y) :: st) V) : Y C shp nL pc L (.long y :: .long x :: st) V := by
  obtain ⟨hx, hb, hml, hown, hts, hK, hlk, hR, hA, hk1, hk2⟩ := hC
  intro H locs ls hP hD hS hl
  exact lv_lsub hx hb d (k H locs ls hP hD hS hl)

theorem Y_lmul (hC : YF C own cc nL rm) {x y : Int64} (d : decode cc pc = .ok (.lmul, 1))
    (k : Y C shp nL (pc + 1) L (.long (x * y) :: st) V) : Y C shp nL pc L (.long y :: .long x :: st) V := by
  obtain ⟨hx, hb, hml, hown, hts, hK, hlk, hR, hA, hk1, hk2⟩ := hC
  intro H locs ls hP hD hS hl
  exact lv_lmul hx hb d (k H locs ls hP hD hS hl)

theorem Y_idiv (hC : YF C own cc nL rm) {x y : Int32} (d : decode cc pc = .ok (.idiv, 1)) (hne : ¬ y = 0)
    (k : Y C shp nL (pc + 1) L (.int (x / y) :: st) V) : Y C shp nL pc L (.int y :: .int x :: st) V := by
  obtain ⟨hx, hb, hml, hown, hts, hK, hlk, hR, hA, hk1, hk2⟩ := hC
  intro H locs ls hP hD hS hl
  exact lv_idiv hx hb d hne (k H locs ls hP hD hS hl)

theorem Y_irem (hC : YF C own cc nL rm) {x y : Int32} (d : decode cc pc = .ok (.irem, 1)) (hne : ¬ y = 0)
    (k : Y C shp nL (pc + 1) L (.int (x - x / y * y) :: st) V) : Y C shp nL pc L (.int y :: .int x :: st) V := by
  obtain ⟨hx, hb, hml, hown, hts, hK, hlk, hR, hA, hk1, hk2⟩ := hC
  intro H locs ls hP hD hS hl
  exact lv_irem hx hb d hne (k H locs ls hP hD hS hl)

theorem Y_lrem (hC : YF C own cc nL rm) {x y : Int64} (d : decode cc pc = .ok (.lrem, 1)) (hne : ¬ y = 0)
    (k : Y C shp nL (pc + 1) L (.long (x - x / y * y) :: st) V) : Y C shp nL pc L (.long y :: .long x :: st) V := by
  obtain ⟨hx, hb, hml, hown, hts, hK, hlk, hR, hA, hk1, hk2⟩ := hC
  intro H locs ls hP hD hS hl
  exact lv_lrem hx hb d hne (k H locs ls hP hD hS hl)

theorem Y_ineg (hC : YF C own cc nL rm) {x : Int32} (d : decode cc pc = .ok (.ineg, 1))
    (k : Y C shp nL (pc + 1) L (.int (-x) :: st) V) : Y C shp nL pc L (.int x :: st) V := by
  obtain ⟨hx, hb, hml, hown, hts, hK, hlk, hR, hA, hk1, hk2⟩ := hC
  intro H locs ls hP hD hS hl
  exact lv_ineg hx hb d (k H locs ls hP hD hS hl)

theorem Y_iushr (hC : YF C own cc nL rm) {x y v : Int32} (d : decode cc pc = .ok (.iushr, 1)) (hv : (x.toUInt32 >>> (y.toUInt32 &&& Int32.toUInt32 31)).toInt32 = v)
    (k : Y C shp nL (pc + 1) L (.int v :: st) V) : Y C shp nL pc L (.int y :: .int x :: st) V := by
  obtain ⟨hx, hb, hml, hown, hts, hK, hlk, hR, hA, hk1, hk2⟩ := hC
  intro H locs ls hP hD hS hl
  exact lv_iushr hx hb d hv (k H locs ls hP hD hS hl)

theorem Y_i2l (hC : YF C own cc nL rm) {x : Int32} (d : decode cc pc = .ok (.i2l, 1))
    (k : Y C shp nL (pc + 1) L (.long x.toInt64 :: st) V) : Y C shp nL pc L (.int x :: st) V := by
  obtain ⟨hx, hb, hml, hown, hts, hK, hlk, hR, hA, hk1, hk2⟩ := hC
  intro H locs ls hP hD hS hl
  exact lv_i2l hx hb d rfl (k H locs ls hP hD hS hl)

theorem Y_lcmp (hC : YF C own cc nL rm) {x y : Int64} (d : decode cc pc = .ok (.lcmp, 1))
    (k : Y C shp nL (pc + 1) L (.int (lg_cmp x y) :: st) V) : Y C shp nL pc L (.long y :: .long x :: st) V := by
  obtain ⟨hx, hb, hml, hown, hts, hK, hlk, hR, hA, hk1, hk2⟩ := hC
  intro H locs ls hP hD hS hl
  exact W.lcmp hx hb d (k H locs ls hP hD hS hl)

theorem Y_dup (hC : YF C own cc nL rm) {v : Value} (d : decode cc pc = .ok (.dup, 1)) (h : v.category = 1)
    (k : Y C shp nL (pc + 1) L (v :: v :: st) V) : Y C shp nL pc L (v :: st) V := by
  obtain ⟨hx, hb, hml, hown, hts, hK, hlk, hR, hA, hk1, hk2⟩ := hC
  intro H locs ls hP hD hS hl
  exact lv_dup hx hb d h (k H locs ls hP hD hS hl)

theorem Y_pop (hC : YF C own cc nL rm) {v : Value} (d : decode cc pc = .ok (.pop, 1)) (h : v.category = 1)
    (k : Y C shp nL (pc + 1) L (st) V) : Y C shp nL pc L (v :: st) V := by
  obtain ⟨hx, hb, hml, hown, hts, hK, hlk, hR, hA, hk1, hk2⟩ := hC
  intro H locs ls hP hD hS hl
  exact lv_pop hx hb d h (k H locs ls hP hD hS hl)

theorem Y_dup_x1 (hC : YF C own cc nL rm) {v w : Value} (d : decode cc pc = .ok (.dup_x1, 1)) (h : v.category = 1) (h' : w.category = 1)
    (k : Y C shp nL (pc + 1) L (v :: w :: v :: st) V) : Y C shp nL pc L (v :: w :: st) V := by
  obtain ⟨hx, hb, hml, hown, hts, hK, hlk, hR, hA, hk1, hk2⟩ := hC
  intro H locs ls hP hD hS hl
  exact lv_dup_x1 hx hb d h h' (k H locs ls hP hD hS hl)

theorem Y_dup2 (hC : YF C own cc nL rm) {v w : Value} (d : decode cc pc = .ok (.dup2, 1)) (h : v.category = 1) (h' : w.category = 1)
    (k : Y C shp nL (pc + 1) L (v :: w :: v :: w :: st) V) : Y C shp nL pc L (v :: w :: st) V := by
  obtain ⟨hx, hb, hml, hown, hts, hK, hlk, hR, hA, hk1, hk2⟩ := hC
  intro H locs ls hP hD hS hl
  exact lv_dup2_11 hx hb d h h' (k H locs ls hP hD hS hl)

theorem Y_if_eq (hC : YF C own cc nL rm) {x : Int32} {off : Int} (tgt : Nat) (d : decode cc pc = .ok (.ifCond .eq off, 3)) (ht : (pc : Int) + off = (tgt : Int))
    (kt : x = 0 → Y C shp nL tgt L st V) (kf : ¬ x = 0 → Y C shp nL (pc + 3) L st V) : Y C shp nL pc L (.int x :: st) V := by
  obtain ⟨hx, hb, hml, hown, hts, hK, hlk, hR, hA, hk1, hk2⟩ := hC
  intro H locs ls hP hD hS hl
  exact lv_if_eq hx hb d ht (fun q => kt q H locs ls hP hD hS hl) (fun q => kf q H locs ls hP hD hS hl)

theorem Y_icmp_eq (hC : YF C own cc nL rm) {x y : Int32} {off : Int} (tgt : Nat) (d : decode cc pc = .ok (.if_icmp .eq off, 3)) (ht : (pc : Int) + off = (tgt : Int))
    (kt : x = y → Y C shp nL tgt L st V) (kf : ¬ x = y → Y C shp nL (pc + 3) L st V) : Y C shp nL pc L (.int y :: .int x :: st) V := by
  obtain ⟨hx, hb, hml, hown, hts, hK, hlk, hR, hA, hk1, hk2⟩ := hC
  intro H locs ls hP hD hS hl
  exact lv_icmp_eq hx hb d ht (fun q => kt q H locs ls hP hD hS hl) (fun q => kf q H locs ls hP hD hS hl)

theorem Y_if_ne (hC : YF C own cc nL rm) {x : Int32} {off : Int} (tgt : Nat) (d : decode cc pc = .ok (.ifCond .ne off, 3)) (ht : (pc : Int) + off = (tgt : Int))
    (kt : ¬ x = 0 → Y C shp nL tgt L st V) (kf : x = 0 → Y C shp nL (pc + 3) L st V) : Y C shp nL pc L (.int x :: st) V := by
  obtain ⟨hx, hb, hml, hown, hts, hK, hlk, hR, hA, hk1, hk2⟩ := hC
  intro H locs ls hP hD hS hl
  exact lv_if_ne hx hb d ht (fun q => kt q H locs ls hP hD hS hl) (fun q => kf q H locs ls hP hD hS hl)

theorem Y_icmp_ne (hC : YF C own cc nL rm) {x y : Int32} {off : Int} (tgt : Nat) (d : decode cc pc = .ok (.if_icmp .ne off, 3)) (ht : (pc : Int) + off = (tgt : Int))
    (kt : ¬ x = y → Y C shp nL tgt L st V) (kf : x = y → Y C shp nL (pc + 3) L st V) : Y C shp nL pc L (.int y :: .int x :: st) V := by
  obtain ⟨hx, hb, hml, hown, hts, hK, hlk, hR, hA, hk1, hk2⟩ := hC
  intro H locs ls hP hD hS hl
  exact lv_icmp_ne hx hb d ht (fun q => kt q H locs ls hP hD hS hl) (fun q => kf q H locs ls hP hD hS hl)

theorem Y_if_lt (hC : YF C own cc nL rm) {x : Int32} {off : Int} (tgt : Nat) (d : decode cc pc = .ok (.ifCond .lt off, 3)) (ht : (pc : Int) + off = (tgt : Int))
    (kt : x < 0 → Y C shp nL tgt L st V) (kf : ¬ x < 0 → Y C shp nL (pc + 3) L st V) : Y C shp nL pc L (.int x :: st) V := by
  obtain ⟨hx, hb, hml, hown, hts, hK, hlk, hR, hA, hk1, hk2⟩ := hC
  intro H locs ls hP hD hS hl
  exact lv_if_lt hx hb d ht (fun q => kt q H locs ls hP hD hS hl) (fun q => kf q H locs ls hP hD hS hl)

theorem Y_icmp_lt (hC : YF C own cc nL rm) {x y : Int32} {off : Int} (tgt : Nat) (d : decode cc pc = .ok (.if_icmp .lt off, 3)) (ht : (pc : Int) + off = (tgt : Int))
    (kt : x < y → Y C shp nL tgt L st V) (kf : ¬ x < y → Y C shp nL (pc + 3) L st V) : Y C shp nL pc L (.int y :: .int x :: st) V := by
  obtain ⟨hx, hb, hml, hown, hts, hK, hlk, hR, hA, hk1, hk2⟩ := hC
  intro H locs ls hP hD hS hl
  exact lv_icmp_lt hx hb d ht (fun q => kt q H locs ls hP hD hS hl) (fun q => kf q H locs ls hP hD hS hl)

theorem Y_if_ge (hC : YF C own cc nL rm) {x : Int32} {off : Int} (tgt : Nat) (d : decode cc pc = .ok (.ifCond .ge off, 3)) (ht : (pc : Int) + off = (tgt : Int))
    (kt : 0 ≤ x → Y C shp nL tgt L st V) (kf : ¬ 0 ≤ x → Y C shp nL (pc + 3) L st V) : Y C shp nL pc L (.int x :: st) V := by
  obtain ⟨hx, hb, hml, hown, hts, hK, hlk, hR, hA, hk1, hk2⟩ := hC
  intro H locs ls hP hD hS hl
  exact lv_if_ge hx hb d ht (fun q => kt q H locs ls hP hD hS hl) (fun q => kf q H locs ls hP hD hS hl)

theorem Y_icmp_ge (hC : YF C own cc nL rm) {x y : Int32} {off : Int} (tgt : Nat) (d : decode cc pc = .ok (.if_icmp .ge off, 3)) (ht : (pc : Int) + off = (tgt : Int))
    (kt : y ≤ x → Y C shp nL tgt L st V) (kf : ¬ y ≤ x → Y C shp nL (pc + 3) L st V) : Y C shp nL pc L (.int y :: .int x :: st) V := by
  obtain ⟨hx, hb, hml, hown, hts, hK, hlk, hR, hA, hk1, hk2⟩ := hC
  intro H locs ls hP hD hS hl
  exact lv_icmp_ge hx hb d ht (fun q => kt q H locs ls hP hD hS hl) (fun q => kf q H locs ls hP hD hS hl)

theorem Y_if_gt (hC : YF C own cc nL rm) {x : Int32} {off : Int} (tgt : Nat) (d : decode cc pc = .ok (.ifCond .gt off, 3)) (ht : (pc : Int) + off = (tgt : Int))
    (kt : 0 < x → Y C shp nL tgt L st V) (kf : ¬ 0 < x → Y C shp nL (pc + 3) L st V) : Y C shp nL pc L (.int x :: st) V := by
  obtain ⟨hx, hb, hml, hown, hts, hK, hlk, hR, hA, hk1, hk2⟩ := hC
  intro H locs ls hP hD hS hl
  exact lv_if_gt hx hb d ht (fun q => kt q H locs ls hP hD hS hl) (fun q => kf q H locs ls hP hD hS hl)

theorem Y_icmp_gt (hC : YF C own cc nL rm) {x y : Int32} {off : Int} (tgt : Nat) (d : decode cc pc = .ok (.if_icmp .gt off, 3)) (ht : (pc : Int) + off = (tgt : Int))
    (kt : y < x → Y C shp nL tgt L st V) (kf : ¬ y < x → Y C shp nL (pc + 3) L st V) : Y C shp nL pc L (.int y :: .int x :: st) V := by
  obtain ⟨hx, hb, hml, hown, hts, hK, hlk, hR, hA, hk1, hk2⟩ := hC
  intro H locs ls hP hD hS hl
  exact lv_icmp_gt hx hb d ht (fun q => kt q H locs ls hP hD hS hl) (fun q => kf q H locs ls hP hD hS hl)

theorem Y_if_le (hC : YF C own cc nL rm) {x : Int32} {off : Int} (tgt : Nat) (d : decode cc pc = .ok (.ifCond .le off, 3)) (ht : (pc : Int) + off = (tgt : Int))
    (kt : x ≤ 0 → Y C shp nL tgt L st V) (kf : ¬ x ≤ 0 → Y C shp nL (pc + 3) L st V) : Y C shp nL pc L (.int x :: st) V := by
  obtain ⟨hx, hb, hml, hown, hts, hK, hlk, hR, hA, hk1, hk2⟩ := hC
  intro H locs ls hP hD hS hl
  exact lv_if_le hx hb d ht (fun q => kt q H locs ls hP hD hS hl) (fun q => kf q H locs ls hP hD hS hl)

theorem Y_icmp_le (hC : YF C own cc nL rm) {x y : Int32} {off : Int} (tgt : Nat) (d : decode cc pc = .ok (.if_icmp .le off, 3)) (ht : (pc : Int) + off = (tgt : Int))
    (kt : x ≤ y → Y C shp nL tgt L st V) (kf : ¬ x ≤ y → Y C shp nL (pc + 3) L st V) : Y C shp nL pc L (.int y :: .int x :: st) V := by
  obtain ⟨hx, hb, hml, hown, hts, hK, hlk, hR, hA, hk1, hk2⟩ := hC
  intro H locs ls hP hD hS hl
  exact lv_icmp_le hx hb d ht (fun q => kt q H locs ls hP hD hS hl) (fun q => kf q H locs ls hP hD hS hl)

theorem Y_goto (hC : YF C own cc nL rm) {off : Int} (tgt : Nat) (d : decode cc pc = .ok (.goto off, 3)) (ht : (pc : Int) + off = (tgt : Int))
    (k : Y C shp nL tgt L st V) : Y C shp nL pc L (st) V := by
  obtain ⟨hx, hb, hml, hown, hts, hK, hlk, hR, hA, hk1, hk2⟩ := hC
  intro H locs ls hP hD hS hl
  exact lv_goto hx hb d ht (k H locs ls hP hD hS hl)

theorem Y_tableOut (hC : YF C own cc nL rm) {dflt lo hi : Int} {offs : Array Int} {len : Nat} {x : Int32} (tgt : Nat) (d : decode cc pc = .ok (.tableswitch dflt lo hi offs, len)) (h : x.toInt < lo ∨ hi < x.toInt) (ht : (pc : Int) + dflt = (tgt : Int))
    (k : Y C shp nL tgt L st V) : Y C shp nL pc L (.int x :: st) V := by
  obtain ⟨hx, hb, hml, hown, hts, hK, hlk, hR, hA, hk1, hk2⟩ := hC
  intro H locs ls hP hD hS hl
  exact lv_tableOut hx hb d h ht (k H locs ls hP hD hS hl)

theorem Y_tableIn (hC : YF C own cc nL rm) {dflt lo hi : Int} {offs : Array Int} {len : Nat} {x : Int32} {off : Int} (tgt : Nat) (d : decode cc pc = .ok (.tableswitch dflt lo hi offs, len)) (h1 : ¬ x.toInt < lo) (h2 : ¬ hi < x.toInt) (ho : offs[(x.toInt - lo).toNat]? = some off) (ht : (pc : Int) + off = (tgt : Int))
    (k : Y C shp nL tgt L st V) : Y C shp nL pc L (.int x :: st) V := by
  obtain ⟨hx, hb, hml, hown, hts, hK, hlk, hR, hA, hk1, hk2⟩ := hC
  intro H locs ls hP hD hS hl
  exact lv_tableIn hx hb d h1 h2 ho ht (k H locs ls hP hD hS hl)

theorem Y_lookup (hC : YF C own cc nL rm) {dflt : Int} {ps : Array (Int × Int)} {len : Nat} {x : Int32} {off : Int} (tgt : Nat) (d : decode cc pc = .ok (.lookupswitch dflt ps, len)) (hp : (ps.toList.zip (ps.toList.drop 1)).all (fun (a, next) => a.1 < next.1) = true) (ho : Op.lookupswitch.offset ps.toList dflt x.toInt = off) (ht : (pc : Int) + off = (tgt : Int))
    (k : Y C shp nL tgt L st V) : Y C shp nL pc L (.int x :: st) V := by
  obtain ⟨hx, hb, hml, hown, hts, hK, hlk, hR, hA, hk1, hk2⟩ := hC
  intro H locs ls hP hD hS hl
  exact lv_lookup hx hb d hp ho ht (k H locs ls hP hD hS hl)

/-- a field's link: own's entry idx is the slot j of class ci -/
def FL (own : String) (idx ci j : Nat) : Prop := ∃ (R : String) (T : u_T) (N : Nat), classes[ci]? = some (R, T, N) ∧ j < N ∧ (∀ w ∈ u_ws R T N, w ∈ ALLW) ∧ Cond.fieldLink own idx (T j).1 (T j).2.1 (T j).2.2.1 ∈ ALLW
/-- a class whose fields may be put -/
def FPc (ci : Nat) : Prop := ∃ (R : String) (T : u_T) (N : Nat) (ty : Nat → FieldType), classes[ci]? = some (R, T, N) ∧ (∀ k, k < N → parseFieldDescriptor (T k).2.2.1 = some (ty k)) ∧ (∀ a, a < N → ∀ b, b < N → a ≠ b → (T a).2.1 ≠ (T b).2.1)
def FT (ci j : Nat) (t : FieldType) : Prop := ∃ (R : String) (T : u_T) (N : Nat), classes[ci]? = some (R, T, N) ∧ (T j).2.2.2 = false ∧ parseFieldDescriptor (T j).2.2.1 = some t

theorem Y_getI (hC : YF C own cc nL rm) {idx ci j k : Nat} {fs : List (Option Nat)} (hs : shp[k]? = some (.inl (ci, fs))) (hf : FL own idx ci j) (hj : fs[j]? = some none) (d : decode cc pc = .ok (.getfield idx, 3))
    (kk : Y C shp nL (pc + 3) L (.int (V k j) :: st) V) : Y C shp nL pc L (.ref (C.a k) :: st) V := by
  obtain ⟨hx, hb, hml, hown, hts, hK, hlk, hR, hA, hk1, hk2⟩ := hC
  intro H locs ls hP hD hS hl
  obtain ⟨R, T, N, hc, hN, hin, hlink⟩ := hf
  refine va_get (q0 := k) hx hb hts hin hown hK hP (fs := fvs C.a (V k) 0 fs) ?_ hc j hN (hts _ hlink) (fun _ h => h) (v := .int (V k j)) ?_ d (kk H locs ls hP hD hS hl)
  · show (wsF _ _ _ _ _ _)[k]? = _
    rw [wsF_at, hs]
    simp [cellE]
  · rw [fvs_at, hj]
    simp

theorem Y_getR (hC : YF C own cc nL rm) {idx ci j k r : Nat} {fs : List (Option Nat)} (hs : shp[k]? = some (.inl (ci, fs))) (hf : FL own idx ci j) (hj : fs[j]? = some (some r)) (d : decode cc pc = .ok (.getfield idx, 3))
    (kk : Y C shp nL (pc + 3) L (.ref (C.a r) :: st) V) : Y C shp nL pc L (.ref (C.a k) :: st) V := by
  obtain ⟨hx, hb, hml, hown, hts, hK, hlk, hR, hA, hk1, hk2⟩ := hC
  intro H locs ls hP hD hS hl
  obtain ⟨R, T, N, hc, hN, hin, hlink⟩ := hf
  refine va_get (q0 := k) hx hb hts hin hown hK hP (fs := fvs C.a (V k) 0 fs) ?_ hc j hN (hts _ hlink) (fun _ h => h) (v := .ref (C.a r)) ?_ d (kk H locs ls hP hD hS hl)
  · show (wsF _ _ _ _ _ _)[k]? = _
    rw [wsF_at, hs]
    simp [cellE]
  · rw [fvs_at, hj]
    rfl

theorem Y_put (hC : YF C own cc nL rm) {idx ci j k : Nat} {fs : List (Option Nat)} {t : FieldType} {x : Int32} {V1 : Sto} (hs : shp[k]? = some (.inl (ci, fs))) (hf : FL own idx ci j) (hj : fs[j]? = some none) (h1 : k ≠ 1000) (hp : FPc ci) (ht : FT ci j t) (hn : narrow t (.int x) = .int x) (hfit : fits t (.int x) = true) (hV : sw V k j x = V1) (d : decode cc pc = .ok (.putfield idx, 3))
    (kk : Y C shp nL (pc + 3) L st V1) : Y C shp nL pc L (.int x :: .ref (C.a k) :: st) V := by
  obtain ⟨hx, hb, hml, hown, hts, hK, hlk, hR, hA, hk1, hk2⟩ := hC
  intro H locs ls hP hD hS hl
  obtain ⟨R, T, N, hc, hN, hin, hlink⟩ := hf
  obtain ⟨R2, T2, N2, ty, hc2, hty, hnm⟩ := hp
  cases hc.symm.trans hc2
  obtain ⟨R3, T3, N3, hc3, hfin, hd⟩ := ht
  cases hc.symm.trans hc3
  subst hV
  refine va_put (q0 := k) hx hb hts hin ty hty hnm hown hK hP hD hS (fs := fvs C.a (V k) 0 fs) ?_ hc j hN (hts _ hlink) (fun _ h => h) hfin hd hn hfit ?_ d (fun H1 locs1 hP1 hD1 hS1 => ?_)
  · show (wsF _ _ _ _ _ _)[k]? = _
    rw [wsF_at, hs]
    simp [cellE]
  · rw [fvs_len]
    exact (List.getElem?_eq_some_iff.mp hj).1
  · rw [wsF_put hs hj h1] at hP1 hD1
    exact kk H1 locs1 ls hP1 hD1 hS1 hl

theorem Y_iald (hC : YF C own cc nL rm) {k n : Nat} {o : Option Nat} {i : Int32} (hs : shp[k]? = some (.inr (false, o))) (hn : alenOf V k o = n) (hi : ib i n = true) (d : decode cc pc = .ok (.iaload, 1))
    (kk : Y C shp nL (pc + 1) L (.int (V k i.toNatClampNeg) :: st) V) : Y C shp nL pc L (.int i :: .ref (C.a k) :: st) V := by
  obtain ⟨hx, hb, hml, hown, hts, hK, hlk, hR, hA, hk1, hk2⟩ := hC
  intro H locs ls hP hD hS hl
  refine va_iald hx hb hK hP k 0 (f := V k) (n := n) ?_ rfl (ib_in hi) d (kk H locs ls hP hD hS hl)
  show (wsF _ _ _ _ _ _)[k]? = _
  rw [wsF_at, hs]
  simp [cellE, arrC, hn]

theorem Y_zald (hC : YF C own cc nL rm) {k n : Nat} {o : Option Nat} {i : Int32} (hs : shp[k]? = some (.inr (true, o))) (hn : alenOf V k o = n) (hi : ib i n = true) (d : decode cc pc = .ok (.baload, 1))
    (kk : Y C shp nL (pc + 1) L (.int (V k i.toNatClampNeg) :: st) V) : Y C shp nL pc L (.int i :: .ref (C.a k) :: st) V := by
  obtain ⟨hx, hb, hml, hown, hts, hK, hlk, hR, hA, hk1, hk2⟩ := hC
  intro H locs ls hP hD hS hl
  refine va_zald hx hb hK hP k 1 (f := V k) (n := n) ?_ rfl (ib_in hi) d (kk H locs ls hP hD hS hl)
  show (wsF _ _ _ _ _ _)[k]? = _
  rw [wsF_at, hs]
  simp [cellE, arrC, hn]

theorem Y_iast (hC : YF C own cc nL rm) {k n : Nat} {o : Option Nat} {i x x' : Int32} {V1 : Sto} (hs : shp[k]? = some (.inr (false, o))) (h1 : k ≠ 1000) (hn : alenOf V k o = n) (hi : ib i n = true) (hx' : x = x') (hV : sw V k i.toNatClampNeg x' = V1) (d : decode cc pc = .ok (.iastore, 1))
    (kk : Y C shp nL (pc + 1) L st V1) : Y C shp nL pc L (.int x :: .int i :: .ref (C.a k) :: st) V := by
  obtain ⟨hx, hb, hml, hown, hts, hK, hlk, hR, hA, hk1, hk2⟩ := hC
  intro H locs ls hP hD hS hl
  subst hV
  subst hx'
  subst hn
  refine va_iast hx hb hK hP hD hS k 0 (f := V k) (n := alenOf V k o) ?_ rfl (ib_in hi) d (fun H1 locs1 hP1 hD1 hS1 => ?_)
  · show (wsF _ _ _ _ _ _)[k]? = _
    rw [wsF_at, hs]
    simp [cellE, arrC]
  · have e := wsF_ast (cI := C.cI) (cZ := C.cZ) (a := C.a) (V := V) (i := i.toNatClampNeg) (x := x) hs h1
    simp only [arrC] at e
    rw [e] at hP1 hD1
    exact kk H1 locs1 ls hP1 hD1 hS1 hl

theorem Y_zast (hC : YF C own cc nL rm) {k n : Nat} {o : Option Nat} {i x x' : Int32} {V1 : Sto} (hs : shp[k]? = some (.inr (true, o))) (h1 : k ≠ 1000) (hn : alenOf V k o = n) (hi : ib i n = true) (hx' : (vp_nar .boolean x) = x') (hV : sw V k i.toNatClampNeg x' = V1) (d : decode cc pc = .ok (.bastore, 1))
    (kk : Y C shp nL (pc + 1) L st V1) : Y C shp nL pc L (.int x :: .int i :: .ref (C.a k) :: st) V := by
  obtain ⟨hx, hb, hml, hown, hts, hK, hlk, hR, hA, hk1, hk2⟩ := hC
  intro H locs ls hP hD hS hl
  subst hV
  subst hx'
  subst hn
  refine va_zast hx hb hK hP hD hS k 1 (f := V k) (n := alenOf V k o) ?_ rfl (ib_in hi) d (fun H1 locs1 hP1 hD1 hS1 => ?_)
  · show (wsF _ _ _ _ _ _)[k]? = _
    rw [wsF_at, hs]
    simp [cellE, arrC]
  · have e := wsF_ast (cI := C.cI) (cZ := C.cZ) (a := C.a) (V := V) (i := i.toNatClampNeg) (x := (vp_nar .boolean x)) hs h1
    simp only [arrC] at e
    rw [e] at hP1 hD1
    exact kk H1 locs1 ls hP1 hD1 hS1 hl

theorem Y_alen (hC : YF C own cc nL rm) {k n : Nat} {o : Option Nat} (hs : shp[k]? = some (.inr (false, o))) (hn : alenOf V k o = n) (d : decode cc pc = .ok (.arraylength, 1))
    (kk : Y C shp nL (pc + 1) L (.int (nI n) :: st) V) : Y C shp nL pc L (.ref (C.a k) :: st) V := by
  obtain ⟨hx, hb, hml, hown, hts, hK, hlk, hR, hA, hk1, hk2⟩ := hC
  intro H locs ls hP hD hS hl
  subst hn
  refine va_alen hx hb hK hP k 0 (cA := C.cI) (x := (alenOf V k o, .inl (V k))) ?_ rfl rfl d (kk H locs ls hP hD hS hl)
  show (wsF _ _ _ _ _ _)[k]? = _
  rw [wsF_at, hs]
  simp [cellE, arrC]

theorem Y_mmax (hC : YF C own cc nL rm) {idx : Nat} {x y : Int32} (hl' : Cond.methodLink own idx Lib.Math.max.name ∈ ALLW) (hroom : 1 ≤ rm.frames ∧ 32 ≤ rm.locals) (hcat : (st.map fun v => v.category).sum ≤ 8) (d : decode cc pc = .ok (.invokestatic idx, 3))
    (k : Y C shp nL (pc + 3) L (.int (if x < y then y else x) :: st) V) : Y C shp nL pc L (.int y :: .int x :: st) V := by
  obtain ⟨hx, hb, hml, hown, hts, hK, hlk, hR, hA, hk1, hk2⟩ := hC
  intro H locs ls hP hD hS hl
  exact va_mmax hx hb (hml.trans hl.1.symm) hown (hts _ hl') (hts _ mathmaxS) (hts _ mathI) (hts _ mathmaxC) (by rw [hR]; exact hroom.1) (by rw [hR]; omega) hk1 hk2 d (k H locs ls hP hD hS hl)

theorem Y_mmin (hC : YF C own cc nL rm) {idx : Nat} {x y : Int32} (hl' : Cond.methodLink own idx Lib.Math.min.name ∈ ALLW) (hroom : 1 ≤ rm.frames ∧ 32 ≤ rm.locals) (hcat : (st.map fun v => v.category).sum ≤ 8) (d : decode cc pc = .ok (.invokestatic idx, 3))
    (k : Y C shp nL (pc + 3) L (.int (if y < x then y else x) :: st) V) : Y C shp nL pc L (.int y :: .int x :: st) V := by
  obtain ⟨hx, hb, hml, hown, hts, hK, hlk, hR, hA, hk1, hk2⟩ := hC
  intro H locs ls hP hD hS hl
  exact va_mmin hx hb (hml.trans hl.1.symm) hown (hts _ hl') (hts _ mathminS) (hts _ mathI) (hts _ mathminC) (by rw [hR]; exact hroom.1) (by rw [hR]; omega) hk1 hk2 d (k H locs ls hP hD hS hl)

theorem Y_copy (hC : YF C own cc nL rm) {idx k0 k1 n0 n1 : Nat} {o0 o1 : Option Nat} {sp dp n : Int32} {V1 : Sto} (hs0 : shp[k0]? = some (.inr (false, o0))) (hs1 : shp[k1]? = some (.inr (false, o1))) (h1 : k1 ≠ 1000) (hn0 : alenOf V k0 o0 = n0) (hn1 : alenOf V k1 o1 = n1) (hcp : cpb sp dp n n0 n1 = true) (hV : cpw V k0 k1 sp dp n = V1) (hl' : Cond.methodLink own idx arraycopyName ∈ ALLW) (hroom : 1 ≤ rm.frames ∧ 8 + (nativeFrameWords "java/lang/System" "arraycopy" 5 + 11) ≤ rm.locals) (hcat : (st.map fun v => v.category).sum ≤ 8) (d : decode cc pc = .ok (.invokestatic idx, 3))
    (kk : Y C shp nL (pc + 3) L st V1) : Y C shp nL pc L (.int n :: .int dp :: .ref (C.a k1) :: .int sp :: .ref (C.a k0) :: st) V := by
  obtain ⟨hx, hb, hml, hown, hts, hK, hlk, hR, hA, hk1, hk2⟩ := hC
  intro H locs ls hP hD hS hl
  obtain ⟨g1, g2, g3, g4, g5⟩ := cpb_s hcp
  subst hV
  subst hn0
  subst hn1
  refine va_copyi hx hb (hml.trans hl.1.symm) hown (hts _ hl') (hts _ sysN) (hts _ sysS) (hts _ sysI) hK hP hD hS k0 k1 0 0 (f := V k0) (g := V k1) (n0 := alenOf V k0 o0) (n1 := alenOf V k1 o1) ?_ ?_ rfl rfl rfl g1 g2 g3 g4 g5 (fun _ _ => rfl) (by rw [hR]; exact hroom.1) (by rw [hR]; omega) d (fun H1 locs1 hP1 hD1 hS1 => ?_)
  · show (wsF _ _ _ _ _ _)[k0]? = _
    rw [wsF_at, hs0]
    simp [cellE, arrC]
  · show (wsF _ _ _ _ _ _)[k1]? = _
    rw [wsF_at, hs1]
    simp [cellE, arrC]
  · have e := wsF_set (cI := C.cI) (cZ := C.cZ) (a := C.a) (V := V) (f := va_cpy (V k0) (V k1) sp.toNatClampNeg dp.toNatClampNeg n.toNatClampNeg) (e := .inl (C.cI, alenOf V k1 o1, .inl (va_cpy (V k0) (V k1) sp.toNatClampNeg dp.toNatClampNeg n.toNatClampNeg))) hs1 h1 (by
      have e2 : va_up V k1 (va_cpy (V k0) (V k1) sp.toNatClampNeg dp.toNatClampNeg n.toNatClampNeg) 1000 = V 1000 := by simp [va_up, Ne.symm h1]
      have e1 : va_up V k1 (va_cpy (V k0) (V k1) sp.toNatClampNeg dp.toNatClampNeg n.toNatClampNeg) k1 = va_cpy (V k0) (V k1) sp.toNatClampNeg dp.toNatClampNeg n.toNatClampNeg := by simp [va_up]
      cases o1 <;> simp [cellE, arrC, alenOf, e1, e2])
    rw [e] at hP1 hD1
    exact kk H1 locs1 ls hP1 hD1 hS1 hl

end YR
end
section
/-! Contracts of methods over a fixed graph: YMi (an int comes back), YMv (nothing does). -/
def YWd (D : va_G) (cI cZ : ClassId) (a : Nat → Nat) (shp : List Shp) (A : Nat → Prop) (V : Sto) (t : State) : Prop := va_P D classes (wsF cI cZ a V 0 shp) t.heap ∧ va_K D classes (tysOf cI cZ) t ∧ va_D A (wsF cI cZ a V 0 shp)
def YQi (D : va_G) (cI cZ : ClassId) (a : Nat → Nat) (shp : List Shp) (A : Nat → Prop) (r : Int32) (V' : Sto) : Array Value → State → Outcome → State → Prop := va_Qi (fun r' (_ : Unit) => r' = r) (fun _ t => YWd D cI cZ a shp A V' t) A
def YQv (D : va_G) (cI cZ : ClassId) (a : Nat → Nat) (shp : List Shp) (A : Nat → Prop) (V' : Sto) : Array Value → State → Outcome → State → Prop := va_Qv (fun (_ : Unit) => True) (fun _ t => YWd D cI cZ a shp A V' t) A
def YPc (D : va_G) (cI cZ : ClassId) (a : Nat → Nat) (shp : List Shp) (av : List Value) (V : Sto) (sz : Nat) : Array Value → State → Prop := va_Pc av (fun U => U.heap.size = sz ∧ YWd D cI cZ a shp (fun _ => True) V U)
def YMi (l : Launch) (D : va_G) (cI cZ : ClassId) (a : Nat → Nat) (shp : List Shp) (y : MethodName) (cc : ByteArray) (maxL : Nat) (ret : Option FieldType) (rm : Room) (av : List Value) (V : Sto) (r : Int32) (V' : Sto) : Prop :=
  ∀ sz : Nat, Met l y (Cond.code y cc maxL ret :: ALLW) rm (YPc D cI cZ a shp av V sz) (YQi D cI cZ a shp (RA a shp.length sz) r V') 0 0 (RA a shp.length sz)
def YMv (l : Launch) (D : va_G) (cI cZ : ClassId) (a : Nat → Nat) (shp : List Shp) (y : MethodName) (cc : ByteArray) (maxL : Nat) (rm : Room) (av : List Value) (V V' : Sto) : Prop :=
  ∀ sz : Nat, Met l y (Cond.code y cc maxL none :: ALLW) rm (YPc D cI cZ a shp av V sz) (YQv D cI cZ a shp (RA a shp.length sz) V') 0 0 (RA a shp.length sz)
/-- the end that a walk comes to -/
def YEi (C : YC) (ty : FieldType) (shp : List Shp) (r : Int32) (V' : Sto) : Prop := C.meth.sig.returnType = some ty ∧ C.Q = MQ C.below (YQi C.D C.cI C.cZ C.a shp C.A r V') C.args C.s C.k C.n C.A
def YEv (C : YC) (shp : List Shp) (V' : Sto) : Prop := C.meth.sig.returnType = none ∧ C.Q = MQ C.below (YQv C.D C.cI C.cZ C.a shp C.A V') C.args C.s C.k C.n C.A
theorem wsF_RA {cI cZ : ClassId} {a : Nat → Nat} {V : Sto} {shp : List Shp} {B : Nat → Prop} {sz : Nat} (h : va_D B (wsF cI cZ a V 0 shp)) : va_D (RA a shp.length sz) (wsF cI cZ a V 0 shp) := by
  refine h.weaken (fun k q hk _ => ?_)
  rw [wsF_at] at hk
  cases hs : shp[k]? with
  | none => rw [hs] at hk; cases hk
  | some sh =>
    rw [hs] at hk
    cases hk
    exact Or.inl ⟨0 + k, by rw [Nat.zero_add]; exact (List.getElem?_eq_some_iff.mp hs).1, rfl⟩
theorem RA_in {cI cZ : ClassId} {a : Nat → Nat} {V : Sto} {shp : List Shp} {A : Nat → Prop} {H0 H : Heap} {locs : List Loc} (hD : va_D A (wsF cI cZ a V 0 shp)) (hS : va_S A H0 H locs) (hA : ∀ q, H0.size ≤ q → A q) : ∀ q, RA a shp.length H.size q → A q := by
  intro q h
  rcases h with ⟨k, hk, rfl⟩ | h
  · obtain ⟨sh, hsh⟩ : ∃ sh, shp[k]? = some sh := ⟨_, List.getElem?_eq_getElem hk⟩
    exact hD.2 k (a k, cellE cI cZ a V k sh) (by rw [wsF_at, hsh]; simp)
  · exact hA q (Nat.le_trans hS.1 h)
theorem YPc_blind {D : va_G} {cI cZ : ClassId} {a : Nat → Nat} {shp : List Shp} {av : List Value} {V : Sto} {sz : Nat} : FrameBlind (YPc D cI cZ a shp av V sz) := fun a U g mk q => by
  obtain ⟨q0, q1, qP, qK, qD⟩ := q
  exact ⟨q0, q1, qP, va_K.moved (u := U) (U := U.calling g mk a) (Vm.Alike.refl U.vm) qK, qD⟩
section YCo
variable {l : Launch} {D : va_G} {cI cZ : ClassId} {a : Nat → Nat} {shp : List Shp} {y : MethodName} {cc : ByteArray} {maxL : Nat} {rm : Room} {av : List Value} {V : Sto}
theorem YMi_of {ty : FieldType} {r : Int32} {V' : Sto} (hy : plainName y.cls = true) (hlen : (lg_sl av).length ≤ maxL)
    (body : ∀ C : YC, C.l = l → C.D = D → C.cI = cI → C.cZ = cZ → C.a = a → YF C y.cls cc maxL rm → YEi C ty shp r V' → Y C shp maxL 0 (lv_args 0 av) [] V) : YMi l D cI cZ a shp y cc maxL (some ty) rm av V r V' := by
  intro sz
  refine Met.ofW (cc := cc) (maxL := maxL) (ret := some ty) hy rfl ?_
  intro p e s m args below meth c s₁ B hml hv
  obtain ⟨rfl, hsz, hP, hK, hD0⟩ := hv
  subst hsz
  have hts0 := atoms_spec (ws := Cond.code y cc maxL (some ty) :: ALLW) B.pre
  have hb := body ((p, l, e, (headSpec (Cond.code y cc maxL (some ty) :: ALLW) rm).room, s), (m, av.toArray, below, meth, c), (D, cI, cZ), (a, RA a shp.length s.heap.size), (0, 0), MQ below (YQi D cI cZ a shp (RA a shp.length s.heap.size) r V') av.toArray s 0 0 (RA a shp.length s.heap.size)) rfl rfl rfl rfl rfl
    ⟨B.exec, B.bytes, hml, findClass_of_methodNamed B.named, fun w hw => hts0 w (List.mem_cons_of_mem _ hw), hK, B.notSynchronized, rfl, fun q h => Or.inr h, Nat.zero_le _, Nat.zero_le _⟩ ⟨B.returns, rfl⟩
  have hl := lv_entry av (n := maxL) hlen
  rw [lg_entry_eq]
  exact hb s.heap [] _ hP (wsF_RA hD0) va_S.rf hl
theorem YMv_of {V' : Sto} (hy : plainName y.cls = true) (hlen : (lg_sl av).length ≤ maxL)
    (body : ∀ C : YC, C.l = l → C.D = D → C.cI = cI → C.cZ = cZ → C.a = a → YF C y.cls cc maxL rm → YEv C shp V' → Y C shp maxL 0 (lv_args 0 av) [] V) : YMv l D cI cZ a shp y cc maxL rm av V V' := by
  intro sz
  refine Met.ofW (cc := cc) (maxL := maxL) (ret := none) hy rfl ?_
  intro p e s m args below meth c s₁ B hml hv
  obtain ⟨rfl, hsz, hP, hK, hD0⟩ := hv
  subst hsz
  have hts0 := atoms_spec (ws := Cond.code y cc maxL none :: ALLW) B.pre
  have hb := body ((p, l, e, (headSpec (Cond.code y cc maxL none :: ALLW) rm).room, s), (m, av.toArray, below, meth, c), (D, cI, cZ), (a, RA a shp.length s.heap.size), (0, 0), MQ below (YQv D cI cZ a shp (RA a shp.length s.heap.size) V') av.toArray s 0 0 (RA a shp.length s.heap.size)) rfl rfl rfl rfl rfl
    ⟨B.exec, B.bytes, hml, findClass_of_methodNamed B.named, fun w hw => hts0 w (List.mem_cons_of_mem _ hw), hK, B.notSynchronized, rfl, fun q h => Or.inr h, Nat.zero_le _, Nat.zero_le _⟩ ⟨B.returns, rfl⟩
  have hl := lv_entry av (n := maxL) hlen
  rw [lg_entry_eq]
  exact hb s.heap [] _ hP (wsF_RA hD0) va_S.rf hl
end YCo
section YCa
variable {C : YC} {own : String} {cc : ByteArray} {nL pc : Nat} {rm : Room} {shp : List Shp} {L : List (Nat × Value)} {st : List Value} {V : Sto}
theorem Y_iret {r v : Int32} {V' : Sto} (hC : YF C own cc nL rm) (hE : YEi C .int shp r V') (d : decode cc pc = .ok (.ireturn, 1)) (h : some (v, V) = some (r, V')) : Y C shp nL pc L [.int v] V := by
  obtain ⟨hx, hb, hml, hown, hts, hK, hlk, hR, hA, hk1, hk2⟩ := hC
  obtain ⟨hr, hQ⟩ := hE
  cases h
  intro H locs ls hP hD hS hl
  show W _ _ _ _ _ _ _ _ _ _ _ _ _ _ C.Q _
  rw [hQ]
  exact W.iret (v := r) hx hb hr (fun t ht hW => ⟨⟨r, (), rfl, rfl, by rw [ht]; exact hP, va_K.moved hW.alike hK, hD⟩, hS.F ht⟩) hS.2.2 d hlk
theorem Y_zret {r v : Int32} {V' : Sto} (hC : YF C own cc nL rm) (hE : YEi C .boolean shp r V') (d : decode cc pc = .ok (.ireturn, 1)) (hn : bb v = true) (h : some (v, V) = some (r, V')) : Y C shp nL pc L [.int v] V := by
  obtain ⟨hx, hb, hml, hown, hts, hK, hlk, hR, hA, hk1, hk2⟩ := hC
  obtain ⟨hr, hQ⟩ := hE
  cases h
  intro H locs ls hP hD hS hl
  show W _ _ _ _ _ _ _ _ _ _ _ _ _ _ C.Q _
  rw [hQ]
  have hnv : narrow .boolean (.int r) = .int r := by
    unfold bb at hn
    rw [Bool.or_eq_true, decide_eq_true_eq, decide_eq_true_eq] at hn
    rcases hn with rfl | rfl <;> rfl
  exact W.zret (v := r) hx hb hr hnv (fun t ht hW => ⟨⟨r, (), rfl, rfl, by rw [ht]; exact hP, va_K.moved hW.alike hK, hD⟩, hS.F ht⟩) hS.2.2 d hlk
theorem Y_vret {r : Int32} {V' : Sto} (hC : YF C own cc nL rm) (hE : YEv C shp V') (d : decode cc pc = .ok (.return_, 1)) (h : some ((0 : Int32), V) = some (r, V')) : Y C shp nL pc L [] V := by
  obtain ⟨hx, hb, hml, hown, hts, hK, hlk, hR, hA, hk1, hk2⟩ := hC
  obtain ⟨hr, hQ⟩ := hE
  cases h
  intro H locs ls hP hD hS hl
  show W _ _ _ _ _ _ _ _ _ _ _ _ _ _ C.Q _
  rw [hQ]
  exact W.vret hx hb hr (fun t ht hW => ⟨⟨(), rfl, trivial, by rw [ht]; exact hP, va_K.moved hW.alike hK, hD⟩, hS.F ht⟩) hS.2.2 d hlk
/-- a method's words, as a call needs them -/
def MLb (own : String) (idx : Nat) (y : MethodName) (cc : ByteArray) (maxL : Nat) (ret : Option FieldType) (n : Nat) : Prop :=
  Cond.code y cc maxL ret ∈ ALLW ∧ Cond.methodLink own idx y ∈ ALLW ∧ Cond.initialized y.cls ∈ ALLW ∧ (y.cls ≠ "java/lang/invoke/MethodHandle" ∧ y.cls ≠ "java/lang/invoke/VarHandle" ∧ (parseMethodDescriptor y.desc).map (fun d => d.parameters.length) = some n)
def MLv (y : MethodName) : Prop := Cond.instanceMethod y ∈ ALLW ∧ Cond.selects y.cls y y ∈ ALLW
theorem gd_code {y : MethodName} {cc : ByteArray} {maxL : Nat} {ret : Option FieldType} (h : Cond.code y cc maxL ret ∈ ALLW) : GoodIn ALLW (Cond.code y cc maxL ret :: ALLW) := fun w hw => by
  rcases List.mem_cons.mp hw with rfl | hw
  · exact ⟨h, goodAll _ h⟩
  · exact ⟨hw, goodAll _ hw⟩
variable {idx k ci N : Nat} {y : MethodName} {cc' : ByteArray} {maxL' : Nat} {rm' : Room} {As rest : List Value} {T : u_T} {fs : List (Option Nat)}
theorem Y_cbase {ret' : Option FieldType} (hC : YF C own cc nL rm) (hm : MLb own idx y cc' maxL' ret' As.length) (hroom : (rm'.frames + 1 ≤ rm.frames ∧ 8 + (maxL' + 11) + rm'.locals ≤ rm.locals) ∧ rm'.cells = 0 ∧ rm'.slots = 0) : CallB C.R C.s C.args own idx y cc' maxL' ret' (Cond.code y cc' maxL' ret' :: ALLW) rm' 0 0 As.length := by
  obtain ⟨hx, hb, hml, hown, hts, hK, hlk, hR, hA, hk1, hk2⟩ := hC
  exact callB_of As.length hts (gd_code hm.1) rfl hroom.2.1 hroom.2.2 (hts _ hm.2.2.1) (hts _ hm.2.1) hm.2.2.2 (by rw [hR]; exact hroom.1)
theorem Y_recv {H : Heap} (hC : YF C own cc nL rm) (hs : shp[k]? = some (.inl (ci, fs))) (hc : classes[ci]? = some (y.cls, T, N)) (hP : va_P C.D classes (C.ws shp V) H) : ∃ cell : Cell, H[C.a k]? = some cell ∧ cell.vm.isStatics = false ∧ C.s.vm.findClass y.cls = some cell.cls := by
  obtain ⟨hx, hb, hml, hown, hts, hK, hlk, hR, hA, hk1, hk2⟩ := hC
  refine va_recv hK hP (ci := ci) (q0 := k) (fs := fvs C.a (V k) 0 fs) hc ?_
  show (wsF _ _ _ _ _ _)[k]? = _
  rw [wsF_at, hs]
  simp [cellE]
theorem Y_callV {ty' : FieldType} {r : Int32} {V1 : Sto} (hC : YF C own cc nL rm) (hM : YMi C.l C.D C.cI C.cZ C.a shp y cc' maxL' (some ty') rm' (.ref (C.a k) :: As) V r V1) (hs : shp[k]? = some (.inl (ci, fs))) (hc : classes[ci]? = some (y.cls, T, N)) (hm : MLb own idx y cc' maxL' (some ty') As.length) (hv : MLv y)
    (hroom : (rm'.frames + 1 ≤ rm.frames ∧ 8 + (maxL' + 11) + rm'.locals ≤ rm.locals) ∧ rm'.cells = 0 ∧ rm'.slots = 0) (hcat : (rest.map fun v => v.category).sum ≤ 8) (hst : st = As.reverse ++ .ref (C.a k) :: rest) (d : decode cc pc = .ok (.invokevirtual idx, 3)) (kk : Y C shp nL (pc + 3) L (.int r :: rest) V1) : Y C shp nL pc L st V := by
  have hcb := Y_cbase hC hm hroom
  have hC' := hC
  obtain ⟨hx, hb, hml, hown, hts, hK, hlk, hR, hA, hk1, hk2⟩ := hC'
  subst hst
  intro H locs ls hP hD hS hl
  have hFc := RA_in hD hS hA
  refine va_calli (va_runV (As := As) (rest := rest) ⟨hx, hb, hml, hown, hts⟩ (hM H.size) ⟨hcb, hts _ hv.1, hts _ hv.2⟩ ⟨YPc_blind, Y_recv hC hs hc hP, fun U hU hW => ⟨rfl, by rw [hU], by rw [hU]; exact hP, va_K.moved hW.alike hK, hD.weaken (fun _ _ _ _ => trivial)⟩⟩ rfl rfl hl.1 rfl (lv_room hcat) d ⟨hk1, hk2⟩) hS (fun q _ h => hFc q h) hFc (fun r' u t H1 locs ht hvm hw hB hz1 hkk hS => ?_)
  subst hw
  obtain ⟨hP1, hK1, hD1⟩ := hB
  rw [ht] at hP1
  exact kk H1 locs ls hP1 (hD1.weaken (fun _ _ _ h => hFc _ h)) hS hl
theorem Y_callVv {V1 : Sto} (hC : YF C own cc nL rm) (hM : YMv C.l C.D C.cI C.cZ C.a shp y cc' maxL' rm' (.ref (C.a k) :: As) V V1) (hs : shp[k]? = some (.inl (ci, fs))) (hc : classes[ci]? = some (y.cls, T, N)) (hm : MLb own idx y cc' maxL' none As.length) (hv : MLv y)
    (hroom : (rm'.frames + 1 ≤ rm.frames ∧ 8 + (maxL' + 11) + rm'.locals ≤ rm.locals) ∧ rm'.cells = 0 ∧ rm'.slots = 0) (hcat : (rest.map fun v => v.category).sum ≤ 8) (hst : st = As.reverse ++ .ref (C.a k) :: rest) (d : decode cc pc = .ok (.invokevirtual idx, 3)) (kk : Y C shp nL (pc + 3) L rest V1) : Y C shp nL pc L st V := by
  have hcb := Y_cbase hC hm hroom
  have hC' := hC
  obtain ⟨hx, hb, hml, hown, hts, hK, hlk, hR, hA, hk1, hk2⟩ := hC'
  subst hst
  intro H locs ls hP hD hS hl
  have hFc := RA_in hD hS hA
  refine va_callv (va_runV (As := As) (rest := rest) ⟨hx, hb, hml, hown, hts⟩ (hM H.size) ⟨hcb, hts _ hv.1, hts _ hv.2⟩ ⟨YPc_blind, Y_recv hC hs hc hP, fun U hU hW => ⟨rfl, by rw [hU], by rw [hU]; exact hP, va_K.moved hW.alike hK, hD.weaken (fun _ _ _ _ => trivial)⟩⟩ rfl rfl hl.1 rfl (lv_room hcat) d ⟨hk1, hk2⟩) hS (fun q _ h => hFc q h) hFc (fun u t H1 locs ht hvm hw hB hz1 hkk hS => ?_)
  obtain ⟨hP1, hK1, hD1⟩ := hB
  rw [ht] at hP1
  exact kk H1 locs ls hP1 (hD1.weaken (fun _ _ _ h => hFc _ h)) hS hl
theorem Y_callS {ty' : FieldType} {r : Int32} {V1 : Sto} (hC : YF C own cc nL rm) (hM : YMi C.l C.D C.cI C.cZ C.a shp y cc' maxL' (some ty') rm' As V r V1) (hm : MLb own idx y cc' maxL' (some ty') As.length) (hv : Cond.static y ∈ ALLW)
    (hroom : (rm'.frames + 1 ≤ rm.frames ∧ 8 + (maxL' + 11) + rm'.locals ≤ rm.locals) ∧ rm'.cells = 0 ∧ rm'.slots = 0) (hcat : (rest.map fun v => v.category).sum ≤ 8) (hst : st = As.reverse ++ rest) (d : decode cc pc = .ok (.invokestatic idx, 3)) (kk : Y C shp nL (pc + 3) L (.int r :: rest) V1) : Y C shp nL pc L st V := by
  have hcb := Y_cbase hC hm hroom
  obtain ⟨hx, hb, hml, hown, hts, hK, hlk, hR, hA, hk1, hk2⟩ := hC
  subst hst
  intro H locs ls hP hD hS hl
  have hFc := RA_in hD hS hA
  refine va_calli (va_runS (As := As) (rest := rest) ⟨hx, hb, hml, hown, hts⟩ (hM H.size) ⟨hcb, hts _ hv⟩ ⟨YPc_blind, fun U hU hW => ⟨rfl, by rw [hU], by rw [hU]; exact hP, va_K.moved hW.alike hK, hD.weaken (fun _ _ _ _ => trivial)⟩⟩ rfl rfl hl.1 rfl (lv_room hcat) d ⟨hk1, hk2⟩) hS (fun q _ h => hFc q h) hFc (fun r' u t H1 locs ht hvm hw hB hz1 hkk hS => ?_)
  subst hw
  obtain ⟨hP1, hK1, hD1⟩ := hB
  rw [ht] at hP1
  exact kk H1 locs ls hP1 (hD1.weaken (fun _ _ _ h => hFc _ h)) hS hl
theorem Y_callSv {V1 : Sto} (hC : YF C own cc nL rm) (hM : YMv C.l C.D C.cI C.cZ C.a shp y cc' maxL' rm' As V V1) (hm : MLb own idx y cc' maxL' none As.length) (hv : Cond.static y ∈ ALLW)
    (hroom : (rm'.frames + 1 ≤ rm.frames ∧ 8 + (maxL' + 11) + rm'.locals ≤ rm.locals) ∧ rm'.cells = 0 ∧ rm'.slots = 0) (hcat : (rest.map fun v => v.category).sum ≤ 8) (hst : st = As.reverse ++ rest) (d : decode cc pc = .ok (.invokestatic idx, 3)) (kk : Y C shp nL (pc + 3) L rest V1) : Y C shp nL pc L st V := by
  have hcb := Y_cbase hC hm hroom
  obtain ⟨hx, hb, hml, hown, hts, hK, hlk, hR, hA, hk1, hk2⟩ := hC
  subst hst
  intro H locs ls hP hD hS hl
  have hFc := RA_in hD hS hA
  refine va_callv (va_runS (As := As) (rest := rest) ⟨hx, hb, hml, hown, hts⟩ (hM H.size) ⟨hcb, hts _ hv⟩ ⟨YPc_blind, fun U hU hW => ⟨rfl, by rw [hU], by rw [hU]; exact hP, va_K.moved hW.alike hK, hD.weaken (fun _ _ _ _ => trivial)⟩⟩ rfl rfl hl.1 rfl (lv_room hcat) d ⟨hk1, hk2⟩) hS (fun q _ h => hFc q h) hFc (fun u t H1 locs ht hvm hw hB hz1 hkk hS => ?_)
  obtain ⟨hP1, hK1, hD1⟩ := hB
  rw [ht] at hP1
  exact kk H1 locs ls hP1 (hD1.weaken (fun _ _ _ h => hFc _ h)) hS hl
end YCa
end
section
theorem fp_Ly : FPc 0 := ⟨R_Ly, F_Ly, N_Ly, t_Ly, rfl, t_Ly_ok, n_Ly⟩
theorem fp_Un : FPc 1 := ⟨R_Un, F_Un, N_Un, t_Un, rfl, t_Un_ok, n_Un⟩
theorem fp_Se : FPc 2 := ⟨R_Se, F_Se, N_Se, t_Se, rfl, t_Se_ok, n_Se⟩
theorem fp_Sy : FPc 3 := ⟨R_Sy, F_Sy, N_Sy, t_Sy, rfl, t_Sy_ok, n_Sy⟩
theorem fp_Re : FPc 4 := ⟨R_Re, F_Re, N_Re, t_Re, rfl, t_Re_ok, n_Re⟩
theorem fp_Ar : FPc 5 := ⟨R_Ar, F_Ar, N_Ar, t_Ar, rfl, t_Ar_ok, n_Ar⟩
theorem fp_Na : FPc 6 := ⟨R_Na, F_Na, N_Na, t_Na, rfl, t_Na_ok, n_Na⟩
theorem fp_Rc : FPc 7 := ⟨R_Rc, F_Rc, N_Rc, t_Rc, rfl, t_Rc_ok, n_Rc⟩
theorem fp_Fo : FPc 8 := ⟨R_Fo, F_Fo, N_Fo, t_Fo, rfl, t_Fo_ok, n_Fo⟩
theorem fp_La : FPc 9 := ⟨R_La, F_La, N_La, t_La, rfl, t_La_ok, n_La⟩
theorem fp_Is : FPc 10 := ⟨R_Is, F_Is, N_Is, t_Is, rfl, t_Is_ok, n_Is⟩
theorem fp_Me : FPc 11 := ⟨R_Me, F_Me, N_Me, t_Me, rfl, t_Me_ok, n_Me⟩
theorem fp_Mo : FPc 12 := ⟨R_Mo, F_Mo, N_Mo, t_Mo, rfl, t_Mo_ok, n_Mo⟩
def shpC : List Shp := [.inl (0, [some 1, some 2, some 3, some 4, some 5, some 6, some 7, some 8, some 9, some 10, some 11, none, none, none, none, none, none, none]), .inl (1, [none, some 12, some 13]), .inl (2, [none, none, none, some 14, some 15, some 16, some 17, some 18, some 19, some 20]), .inl (3, [none, some 21, some 22, some 23, some 24, some 25, some 26]), .inl (4, [none, some 27, some 28, some 29, some 30, some 31, some 32, some 33, some 34]), .inl (5, [some 1, some 3, some 35, some 36]), .inl (6, [some 1, some 3, some 37, some 38, some 39, none, some 40, some 41, some 42]), .inl (7, [some 1, some 2, some 4, some 6, some 43, some 44, none, some 45]), .inl (8, [some 2, some 4, some 6, some 7, some 46, some 47]), .inl (9, [some 2, some 6, some 7, some 8, none, none, none, none, some 48, some 49]), .inl (10, [some 2, some 4, some 6, some 8, some 9, none, none, some 50, some 51, some 52, some 53]), .inl (11, [some 2, some 4, some 9, some 10]), .inr (false, some 24), .inr (true, some 24), .inr (false, none), .inr (false, some 96), .inr (false, some 96), .inr (false, some 96), .inr (false, some 96), .inr (false, some 96), .inr (true, some 96), .inr (false, some 400), .inr (false, some 400), .inr (false, some 400), .inr (false, some 400), .inr (false, some 400), .inr (false, some 400), .inr (false, some 600), .inr (false, some 600), .inr (false, some 600), .inr (false, some 600), .inr (false, some 600), .inr (false, some 600), .inr (false, some 97), .inr (false, some 96), .inr (true, some 200), .inr (true, some 200), .inr (false, some 200), .inr (false, some 200), .inr (false, some 200), .inr (false, some 400), .inr (false, some 400), .inr (false, some 400), .inr (true, some 96), .inr (true, some 200), .inr (false, some 96), .inr (false, some 96), .inr (false, some 96), .inr (false, some 96), .inr (false, some 200), .inr (false, some 32), .inr (false, some 32), .inr (false, some 32), .inr (false, some 600)]
theorem sc_0 : shpC[0]? = some (.inl (0, [some 1, some 2, some 3, some 4, some 5, some 6, some 7, some 8, some 9, some 10, some 11, none, none, none, none, none, none, none])) := rfl
theorem sc_1 : shpC[1]? = some (.inl (1, [none, some 12, some 13])) := rfl
theorem sc_2 : shpC[2]? = some (.inl (2, [none, none, none, some 14, some 15, some 16, some 17, some 18, some 19, some 20])) := rfl
theorem sc_3 : shpC[3]? = some (.inl (3, [none, some 21, some 22, some 23, some 24, some 25, some 26])) := rfl
theorem sc_4 : shpC[4]? = some (.inl (4, [none, some 27, some 28, some 29, some 30, some 31, some 32, some 33, some 34])) := rfl
theorem sc_5 : shpC[5]? = some (.inl (5, [some 1, some 3, some 35, some 36])) := rfl
theorem sc_6 : shpC[6]? = some (.inl (6, [some 1, some 3, some 37, some 38, some 39, none, some 40, some 41, some 42])) := rfl
theorem sc_7 : shpC[7]? = some (.inl (7, [some 1, some 2, some 4, some 6, some 43, some 44, none, some 45])) := rfl
theorem sc_8 : shpC[8]? = some (.inl (8, [some 2, some 4, some 6, some 7, some 46, some 47])) := rfl
theorem sc_9 : shpC[9]? = some (.inl (9, [some 2, some 6, some 7, some 8, none, none, none, none, some 48, some 49])) := rfl
theorem sc_10 : shpC[10]? = some (.inl (10, [some 2, some 4, some 6, some 8, some 9, none, none, some 50, some 51, some 52, some 53])) := rfl
theorem sc_11 : shpC[11]? = some (.inl (11, [some 2, some 4, some 9, some 10])) := rfl
theorem sc_12 : shpC[12]? = some (.inr (false, some 24)) := rfl
theorem sc_13 : shpC[13]? = some (.inr (true, some 24)) := rfl
theorem sc_14 : shpC[14]? = some (.inr (false, none)) := rfl
theorem sc_15 : shpC[15]? = some (.inr (false, some 96)) := rfl
theorem sc_16 : shpC[16]? = some (.inr (false, some 96)) := rfl
theorem sc_17 : shpC[17]? = some (.inr (false, some 96)) := rfl
theorem sc_18 : shpC[18]? = some (.inr (false, some 96)) := rfl
theorem sc_19 : shpC[19]? = some (.inr (false, some 96)) := rfl
theorem sc_20 : shpC[20]? = some (.inr (true, some 96)) := rfl
theorem sc_21 : shpC[21]? = some (.inr (false, some 400)) := rfl
theorem sc_22 : shpC[22]? = some (.inr (false, some 400)) := rfl
theorem sc_23 : shpC[23]? = some (.inr (false, some 400)) := rfl
theorem sc_24 : shpC[24]? = some (.inr (false, some 400)) := rfl
theorem sc_25 : shpC[25]? = some (.inr (false, some 400)) := rfl
theorem sc_26 : shpC[26]? = some (.inr (false, some 400)) := rfl
theorem sc_27 : shpC[27]? = some (.inr (false, some 600)) := rfl
theorem sc_28 : shpC[28]? = some (.inr (false, some 600)) := rfl
theorem sc_29 : shpC[29]? = some (.inr (false, some 600)) := rfl
theorem sc_30 : shpC[30]? = some (.inr (false, some 600)) := rfl
theorem sc_31 : shpC[31]? = some (.inr (false, some 600)) := rfl
theorem sc_32 : shpC[32]? = some (.inr (false, some 600)) := rfl
theorem sc_33 : shpC[33]? = some (.inr (false, some 97)) := rfl
theorem sc_34 : shpC[34]? = some (.inr (false, some 96)) := rfl
theorem sc_35 : shpC[35]? = some (.inr (true, some 200)) := rfl
theorem sc_36 : shpC[36]? = some (.inr (true, some 200)) := rfl
theorem sc_37 : shpC[37]? = some (.inr (false, some 200)) := rfl
theorem sc_38 : shpC[38]? = some (.inr (false, some 200)) := rfl
theorem sc_39 : shpC[39]? = some (.inr (false, some 200)) := rfl
theorem sc_40 : shpC[40]? = some (.inr (false, some 400)) := rfl
theorem sc_41 : shpC[41]? = some (.inr (false, some 400)) := rfl
theorem sc_42 : shpC[42]? = some (.inr (false, some 400)) := rfl
theorem sc_43 : shpC[43]? = some (.inr (true, some 96)) := rfl
theorem sc_44 : shpC[44]? = some (.inr (true, some 200)) := rfl
theorem sc_45 : shpC[45]? = some (.inr (false, some 96)) := rfl
theorem sc_46 : shpC[46]? = some (.inr (false, some 96)) := rfl
theorem sc_47 : shpC[47]? = some (.inr (false, some 96)) := rfl
theorem sc_48 : shpC[48]? = some (.inr (false, some 96)) := rfl
theorem sc_49 : shpC[49]? = some (.inr (false, some 200)) := rfl
theorem sc_50 : shpC[50]? = some (.inr (false, some 32)) := rfl
theorem sc_51 : shpC[51]? = some (.inr (false, some 32)) := rfl
theorem sc_52 : shpC[52]? = some (.inr (false, some 32)) := rfl
theorem sc_53 : shpC[53]? = some (.inr (false, some 600)) := rfl
def shpM : List Shp := [.inl (12, [none, none, some 1, none, some 2, some 3, some 4, some 5, some 6, some 7, none, none, some 8, none, some 9, some 10, some 11, some 12, some 13, some 14, none, some 15, some 16, some 17, some 18, some 19, none, none, none, none, none, none, none, none, none, none, some 20, some 21, some 22, some 23, some 24, some 25, some 26, some 27, some 28, some 29, some 30, none, some 31, none]), .inr (false, some 24), .inr (false, some 96), .inr (false, some 96), .inr (false, some 96), .inr (false, some 96), .inr (false, some 96), .inr (true, some 96), .inr (false, some 100000), .inr (false, some 400), .inr (false, some 400), .inr (false, some 400), .inr (false, some 400), .inr (false, some 400), .inr (false, some 400), .inr (false, some 600), .inr (false, some 600), .inr (false, some 600), .inr (false, some 600), .inr (false, some 600), .inr (true, some 24), .inr (false, some 200), .inr (false, some 200), .inr (true, some 200), .inr (false, some 200), .inr (true, some 96), .inr (false, some 96), .inr (false, some 96), .inr (true, some 9216), .inr (false, some 100000), .inr (false, some 600), .inr (false, some 32)]
theorem sm_0 : shpM[0]? = some (.inl (12, [none, none, some 1, none, some 2, some 3, some 4, some 5, some 6, some 7, none, none, some 8, none, some 9, some 10, some 11, some 12, some 13, some 14, none, some 15, some 16, some 17, some 18, some 19, none, none, none, none, none, none, none, none, none, none, some 20, some 21, some 22, some 23, some 24, some 25, some 26, some 27, some 28, some 29, some 30, none, some 31, none])) := rfl
theorem sm_1 : shpM[1]? = some (.inr (false, some 24)) := rfl
theorem sm_2 : shpM[2]? = some (.inr (false, some 96)) := rfl
theorem sm_3 : shpM[3]? = some (.inr (false, some 96)) := rfl
theorem sm_4 : shpM[4]? = some (.inr (false, some 96)) := rfl
theorem sm_5 : shpM[5]? = some (.inr (false, some 96)) := rfl
theorem sm_6 : shpM[6]? = some (.inr (false, some 96)) := rfl
theorem sm_7 : shpM[7]? = some (.inr (true, some 96)) := rfl
theorem sm_8 : shpM[8]? = some (.inr (false, some 100000)) := rfl
theorem sm_9 : shpM[9]? = some (.inr (false, some 400)) := rfl
theorem sm_10 : shpM[10]? = some (.inr (false, some 400)) := rfl
theorem sm_11 : shpM[11]? = some (.inr (false, some 400)) := rfl
theorem sm_12 : shpM[12]? = some (.inr (false, some 400)) := rfl
theorem sm_13 : shpM[13]? = some (.inr (false, some 400)) := rfl
theorem sm_14 : shpM[14]? = some (.inr (false, some 400)) := rfl
theorem sm_15 : shpM[15]? = some (.inr (false, some 600)) := rfl
theorem sm_16 : shpM[16]? = some (.inr (false, some 600)) := rfl
theorem sm_17 : shpM[17]? = some (.inr (false, some 600)) := rfl
theorem sm_18 : shpM[18]? = some (.inr (false, some 600)) := rfl
theorem sm_19 : shpM[19]? = some (.inr (false, some 600)) := rfl
theorem sm_20 : shpM[20]? = some (.inr (true, some 24)) := rfl
theorem sm_21 : shpM[21]? = some (.inr (false, some 200)) := rfl
theorem sm_22 : shpM[22]? = some (.inr (false, some 200)) := rfl
theorem sm_23 : shpM[23]? = some (.inr (true, some 200)) := rfl
theorem sm_24 : shpM[24]? = some (.inr (false, some 200)) := rfl
theorem sm_25 : shpM[25]? = some (.inr (true, some 96)) := rfl
theorem sm_26 : shpM[26]? = some (.inr (false, some 96)) := rfl
theorem sm_27 : shpM[27]? = some (.inr (false, some 96)) := rfl
theorem sm_28 : shpM[28]? = some (.inr (true, some 9216)) := rfl
theorem sm_29 : shpM[29]? = some (.inr (false, some 100000)) := rfl
theorem sm_30 : shpM[30]? = some (.inr (false, some 600)) := rfl
theorem sm_31 : shpM[31]? = some (.inr (false, some 32)) := rfl
abbrev b_Ly_takeLinkAway : ByteArray := prog_1_method_21_code
def y_Ly_takeLinkAway : MethodName := ⟨R_Ly, "takeLinkAway", "()V"⟩
abbrev rm_Ly_takeLinkAway : Room := { frames := 0, cells := 0, slots := 0, locals := 0 }
abbrev b_Ly_fold : ByteArray := prog_1_method_10_code
def y_Ly_fold : MethodName := ⟨R_Ly, "fold", "(ZZ)V"⟩
abbrev rm_Ly_fold : Room := { frames := 1, cells := 0, slots := 0, locals := 20 }
abbrev b_Se_forget : ByteArray := prog_10_method_9_code
def y_Se_forget : MethodName := ⟨R_Se, "forget", "()V"⟩
abbrev rm_Se_forget : Room := { frames := 0, cells := 0, slots := 0, locals := 0 }
abbrev b_Ly_clear : ByteArray := prog_1_method_11_code
def y_Ly_clear : MethodName := ⟨R_Ly, "clear", "()V"⟩
abbrev rm_Ly_clear : Room := { frames := 1, cells := 0, slots := 0, locals := 20 }
abbrev b_Sy_asksForName : ByteArray := prog_11_method_7_code
def y_Sy_asksForName : MethodName := ⟨R_Sy, "asksForName", "(I)Z"⟩
abbrev rm_Sy_asksForName : Room := { frames := 0, cells := 0, slots := 0, locals := 0 }
abbrev b_Sy_givesName : ByteArray := prog_11_method_6_code
def y_Sy_givesName : MethodName := ⟨R_Sy, "givesName", "(I)Z"⟩
abbrev rm_Sy_givesName : Room := { frames := 0, cells := 0, slots := 0, locals := 0 }
abbrev b_Ar_note : ByteArray := prog_2_method_6_code
def y_Ar_note : MethodName := ⟨R_Ar, "note", "(I)V"⟩
abbrev rm_Ar_note : Room := { frames := 1, cells := 0, slots := 0, locals := 21 }
abbrev b_Ar_admit : ByteArray := prog_2_method_5_code
def y_Ar_admit : MethodName := ⟨R_Ar, "admit", "(I)V"⟩
abbrev rm_Ar_admit : Room := { frames := 2, cells := 0, slots := 0, locals := 42 }
abbrev b_Ar_begin : ByteArray := prog_2_method_3_code
def y_Ar_begin : MethodName := ⟨R_Ar, "begin", "(I)V"⟩
abbrev rm_Ar_begin : Room := { frames := 3, cells := 0, slots := 0, locals := 64 }
abbrev b_Ar_isNeeded : ByteArray := prog_2_method_8_code
def y_Ar_isNeeded : MethodName := ⟨R_Ar, "isNeeded", "(I)Z"⟩
abbrev rm_Ar_isNeeded : Room := { frames := 1, cells := 0, slots := 0, locals := 21 }
abbrev b_Ar_firstNeeded : ByteArray := prog_2_method_7_code
def y_Ar_firstNeeded : MethodName := ⟨R_Ar, "firstNeeded", "(I)I"⟩
abbrev rm_Ar_firstNeeded : Room := { frames := 2, cells := 0, slots := 0, locals := 43 }
abbrev b_Ar_goThroughArchives : ByteArray := prog_2_method_4_code
def y_Ar_goThroughArchives : MethodName := ⟨R_Ar, "goThroughArchives", "()Z"⟩
abbrev rm_Ar_goThroughArchives : Room := { frames := 3, cells := 0, slots := 0, locals := 68 }
abbrev b_Ar_bringIn : ByteArray := prog_2_method_2_code
def y_Ar_bringIn : MethodName := ⟨R_Ar, "bringIn", "(IZ)V"⟩
abbrev rm_Ar_bringIn : Room := { frames := 4, cells := 0, slots := 0, locals := 92 }
abbrev b_Na_isCommon : ByteArray := prog_7_method_7_code
def y_Na_isCommon : MethodName := ⟨R_Na, "isCommon", "(I)Z"⟩
abbrev rm_Na_isCommon : Room := { frames := 0, cells := 0, slots := 0, locals := 0 }
abbrev b_Na_definer : ByteArray := prog_7_method_8_code
def y_Na_definer : MethodName := ⟨R_Na, "definer", "(I)I"⟩
abbrev rm_Na_definer : Room := { frames := 1, cells := 0, slots := 0, locals := 21 }
abbrev b_Na_isDefined : ByteArray := prog_7_method_6_code
def y_Na_isDefined : MethodName := ⟨R_Na, "isDefined", "(I)Z"⟩
abbrev rm_Na_isDefined : Room := { frames := 2, cells := 0, slots := 0, locals := 42 }
abbrev b_Na_sectionOf : ByteArray := prog_7_method_9_code
def y_Na_sectionOf : MethodName := ⟨R_Na, "sectionOf", "(I)I"⟩
abbrev rm_Na_sectionOf : Room := { frames := 2, cells := 0, slots := 0, locals := 42 }
abbrev b_Na_setMeaning : ByteArray := prog_7_method_12_code
def y_Na_setMeaning : MethodName := ⟨R_Na, "setMeaning", "(IIII)V"⟩
abbrev rm_Na_setMeaning : Room := { frames := 0, cells := 0, slots := 0, locals := 0 }
abbrev b_Na_copyMeaning : ByteArray := prog_7_method_11_code
def y_Na_copyMeaning : MethodName := ⟨R_Na, "copyMeaning", "(II)V"⟩
abbrev rm_Na_copyMeaning : Room := { frames := 1, cells := 0, slots := 0, locals := 24 }
abbrev b_Na_giveMeaning : ByteArray := prog_7_method_10_code
def y_Na_giveMeaning : MethodName := ⟨R_Na, "giveMeaning", "(I)V"⟩
abbrev rm_Na_giveMeaning : Room := { frames := 2, cells := 0, slots := 0, locals := 46 }
abbrev b_Na_takeGlobal : ByteArray := prog_7_method_4_code
def y_Na_takeGlobal : MethodName := ⟨R_Na, "takeGlobal", "(II)V"⟩
abbrev rm_Na_takeGlobal : Room := { frames := 0, cells := 0, slots := 0, locals := 0 }
abbrev b_Na_takeWeak : ByteArray := prog_7_method_5_code
def y_Na_takeWeak : MethodName := ⟨R_Na, "takeWeak", "(II)V"⟩
abbrev rm_Na_takeWeak : Room := { frames := 0, cells := 0, slots := 0, locals := 0 }
abbrev b_Na_take : ByteArray := prog_7_method_3_code
def y_Na_take : MethodName := ⟨R_Na, "take", "(I)V"⟩
abbrev rm_Na_take : Room := { frames := 1, cells := 0, slots := 0, locals := 32 }
abbrev b_fill37 : ByteArray := prog_32_method_103_code
def y_fill37 : MethodName := ⟨"java/util/Arrays", "fill", "([II)V"⟩
abbrev rm_fill37 : Room := { frames := 0, cells := 0, slots := 0, locals := 0 }
abbrev b_fill38 : ByteArray := prog_32_method_103_code
def y_fill38 : MethodName := ⟨"java/util/Arrays", "fill", "([II)V"⟩
abbrev rm_fill38 : Room := { frames := 0, cells := 0, slots := 0, locals := 0 }
abbrev b_fill39 : ByteArray := prog_32_method_103_code
def y_fill39 : MethodName := ⟨"java/util/Arrays", "fill", "([II)V"⟩
abbrev rm_fill39 : Room := { frames := 0, cells := 0, slots := 0, locals := 0 }
abbrev b_Na_settle : ByteArray := prog_7_method_2_code
def y_Na_settle : MethodName := ⟨R_Na, "settle", "()V"⟩
abbrev rm_Na_settle : Room := { frames := 3, cells := 0, slots := 0, locals := 68 }
abbrev b_Rc_firstMissing : ByteArray := prog_8_method_6_code
def y_Rc_firstMissing : MethodName := ⟨R_Rc, "firstMissing", "()I"⟩
abbrev rm_Rc_firstMissing : Room := { frames := 0, cells := 0, slots := 0, locals := 0 }
abbrev b_Rc_find : ByteArray := prog_8_method_4_code
def y_Rc_find : MethodName := ⟨R_Rc, "find", "(I)V"⟩
abbrev rm_Rc_find : Room := { frames := 0, cells := 0, slots := 0, locals := 0 }
abbrev b_Rc_forget : ByteArray := prog_8_method_3_code
def y_Rc_forget : MethodName := ⟨R_Rc, "forget", "()V"⟩
abbrev rm_Rc_forget : Room := { frames := 0, cells := 0, slots := 0, locals := 0 }
abbrev b_Re_countOf : ByteArray := prog_9_method_4_code
def y_Re_countOf : MethodName := ⟨R_Re, "countOf", "(I)I"⟩
abbrev rm_Re_countOf : Room := { frames := 0, cells := 0, slots := 0, locals := 0 }
abbrev b_Re_pick : ByteArray := prog_9_method_5_code
def y_Re_pick : MethodName := ⟨R_Re, "pick", "(II)I"⟩
abbrev rm_Re_pick : Room := { frames := 0, cells := 0, slots := 0, locals := 0 }
abbrev b_Rc_spreadFrom : ByteArray := prog_8_method_5_code
def y_Rc_spreadFrom : MethodName := ⟨R_Rc, "spreadFrom", "(I)V"⟩
abbrev rm_Rc_spreadFrom : Room := { frames := 1, cells := 0, slots := 0, locals := 22 }
abbrev b_Rc_spread : ByteArray := prog_8_method_2_code
def y_Rc_spread : MethodName := ⟨R_Rc, "spread", "(I)V"⟩
abbrev rm_Rc_spread : Room := { frames := 2, cells := 0, slots := 0, locals := 45 }
abbrev b_fill33 : ByteArray := prog_32_method_103_code
def y_fill33 : MethodName := ⟨"java/util/Arrays", "fill", "([II)V"⟩
abbrev rm_fill33 : Room := { frames := 0, cells := 0, slots := 0, locals := 0 }
abbrev b_Re_putInOrder : ByteArray := prog_9_method_3_code
def y_Re_putInOrder : MethodName := ⟨R_Re, "putInOrder", "(I)V"⟩
abbrev rm_Re_putInOrder : Room := { frames := 1, cells := 0, slots := 0, locals := 23 }
abbrev b_Ly_fails : ByteArray := prog_1_method_26_code
def y_Ly_fails : MethodName := ⟨R_Ly, "fails", "(III)Z"⟩
abbrev rm_Ly_fails : Room := { frames := 0, cells := 0, slots := 0, locals := 0 }
abbrev b_Ly_linksNames : ByteArray := prog_1_method_24_code
def y_Ly_linksNames : MethodName := ⟨R_Ly, "linksNames", "()Z"⟩
abbrev rm_Ly_linksNames : Room := { frames := 5, cells := 0, slots := 0, locals := 116 }
abbrev b_Fo_isSame : ByteArray := prog_3_method_10_code
def y_Fo_isSame : MethodName := ⟨R_Fo, "isSame", "(II)Z"⟩
abbrev rm_Fo_isSame : Room := { frames := 0, cells := 0, slots := 0, locals := 0 }
abbrev b_Fo_hasSameRelocations : ByteArray := prog_3_method_9_code
def y_Fo_hasSameRelocations : MethodName := ⟨R_Fo, "hasSameRelocations", "(II)Z"⟩
abbrev rm_Fo_hasSameRelocations : Room := { frames := 1, cells := 0, slots := 0, locals := 24 }
abbrev b_Se_read : ByteArray := prog_10_method_7_code
def y_Se_read : MethodName := ⟨R_Se, "read", "(II)I"⟩
abbrev rm_Se_read : Room := { frames := 0, cells := 0, slots := 0, locals := 0 }
abbrev b_Fo_hasSameWords : ByteArray := prog_3_method_8_code
def y_Fo_hasSameWords : MethodName := ⟨R_Fo, "hasSameWords", "(II)Z"⟩
abbrev rm_Fo_hasSameWords : Room := { frames := 1, cells := 0, slots := 0, locals := 22 }
abbrev b_Fo_looksSame : ByteArray := prog_3_method_7_code
def y_Fo_looksSame : MethodName := ⟨R_Fo, "looksSame", "(II)Z"⟩
abbrev rm_Fo_looksSame : Room := { frames := 2, cells := 0, slots := 0, locals := 47 }
abbrev b_Fo_mayFold : ByteArray := prog_3_method_5_code
def y_Fo_mayFold : MethodName := ⟨R_Fo, "mayFold", "(I)Z"⟩
abbrev rm_Fo_mayFold : Room := { frames := 0, cells := 0, slots := 0, locals := 0 }
abbrev b_Fo_firstOfSameLook : ByteArray := prog_3_method_6_code
def y_Fo_firstOfSameLook : MethodName := ⟨R_Fo, "firstOfSameLook", "(I)I"⟩
abbrev rm_Fo_firstOfSameLook : Room := { frames := 3, cells := 0, slots := 0, locals := 69 }
abbrev b_Fo_leaderOfMeant : ByteArray := prog_3_method_14_code
def y_Fo_leaderOfMeant : MethodName := ⟨R_Fo, "leaderOfMeant", "(I)I"⟩
abbrev rm_Fo_leaderOfMeant : Room := { frames := 0, cells := 0, slots := 0, locals := 0 }
abbrev b_Fo_hasSameTargets : ByteArray := prog_3_method_13_code
def y_Fo_hasSameTargets : MethodName := ⟨R_Fo, "hasSameTargets", "(II)Z"⟩
abbrev rm_Fo_hasSameTargets : Room := { frames := 1, cells := 0, slots := 0, locals := 22 }
abbrev b_Fo_firstOfSameTargets : ByteArray := prog_3_method_12_code
def y_Fo_firstOfSameTargets : MethodName := ⟨R_Fo, "firstOfSameTargets", "(I)I"⟩
abbrev rm_Fo_firstOfSameTargets : Room := { frames := 2, cells := 0, slots := 0, locals := 47 }
abbrev b_Fo_split : ByteArray := prog_3_method_11_code
def y_Fo_split : MethodName := ⟨R_Fo, "split", "()Z"⟩
abbrev rm_Fo_split : Room := { frames := 3, cells := 0, slots := 0, locals := 69 }
abbrev b_Fo_settle : ByteArray := prog_3_method_2_code
def y_Fo_settle : MethodName := ⟨R_Fo, "settle", "(Z)V"⟩
abbrev rm_Fo_settle : Room := { frames := 4, cells := 0, slots := 0, locals := 91 }
abbrev b_Is_placeOf : ByteArray := prog_4_method_9_code
def y_Is_placeOf : MethodName := ⟨R_Is, "placeOf", "(I)I"⟩
abbrev rm_Is_placeOf : Room := { frames := 0, cells := 0, slots := 0, locals := 0 }
abbrev b_Is_isNear : ByteArray := prog_4_method_11_code
def y_Is_isNear : MethodName := ⟨R_Is, "isNear", "(II)Z"⟩
abbrev rm_Is_isNear : Room := { frames := 1, cells := 0, slots := 0, locals := 21 }
abbrev b_Fo_isFolded : ByteArray := prog_3_method_3_code
def y_Fo_isFolded : MethodName := ⟨R_Fo, "isFolded", "(I)Z"⟩
abbrev rm_Fo_isFolded : Room := { frames := 0, cells := 0, slots := 0, locals := 0 }
abbrev b_La_isStanding : ByteArray := prog_5_method_6_code
def y_La_isStanding : MethodName := ⟨R_La, "isStanding", "(I)Z"⟩
abbrev rm_La_isStanding : Room := { frames := 1, cells := 0, slots := 0, locals := 21 }
abbrev b_Is_mayGo : ByteArray := prog_4_method_4_code
def y_Is_mayGo : MethodName := ⟨R_Is, "mayGo", "(I)Z"⟩
abbrev rm_Is_mayGo : Room := { frames := 2, cells := 0, slots := 0, locals := 42 }
abbrev b_La_startOf : ByteArray := prog_5_method_9_code
def y_La_startOf : MethodName := ⟨R_La, "startOf", "(II)I"⟩
abbrev rm_La_startOf : Room := { frames := 0, cells := 0, slots := 0, locals := 0 }
abbrev b_La_addressOf : ByteArray := prog_5_method_8_code
def y_La_addressOf : MethodName := ⟨R_La, "addressOf", "(I)I"⟩
abbrev rm_La_addressOf : Room := { frames := 1, cells := 0, slots := 0, locals := 22 }
abbrev b_Is_targetOf : ByteArray := prog_4_method_8_code
def y_Is_targetOf : MethodName := ⟨R_Is, "targetOf", "(I)I"⟩
abbrev rm_Is_targetOf : Room := { frames := 2, cells := 0, slots := 0, locals := 43 }
abbrev b_Is_firstStranded : ByteArray := prog_4_method_3_code
def y_Is_firstStranded : MethodName := ⟨R_Is, "firstStranded", "()I"⟩
abbrev rm_Is_firstStranded : Room := { frames := 3, cells := 0, slots := 0, locals := 64 }
abbrev b_Is_find : ByteArray := prog_4_method_6_code
def y_Is_find : MethodName := ⟨R_Is, "find", "(I)I"⟩
abbrev rm_Is_find : Room := { frames := 1, cells := 0, slots := 0, locals := 22 }
abbrev b_Is_raise : ByteArray := prog_4_method_7_code
def y_Is_raise : MethodName := ⟨R_Is, "raise", "(I)V"⟩
abbrev rm_Is_raise : Room := { frames := 1, cells := 0, slots := 0, locals := 22 }
abbrev b_Is_send : ByteArray := prog_4_method_5_code
def y_Is_send : MethodName := ⟨R_Is, "send", "(I)Z"⟩
abbrev rm_Is_send : Room := { frames := 2, cells := 0, slots := 0, locals := 45 }
abbrev b_La_put : ByteArray := prog_5_method_5_code
def y_La_put : MethodName := ⟨R_La, "put", "(II)I"⟩
abbrev rm_La_put : Room := { frames := 0, cells := 0, slots := 0, locals := 0 }
abbrev b_La_laySections : ByteArray := prog_5_method_4_code
def y_La_laySections : MethodName := ⟨R_La, "laySections", "(I)V"⟩
abbrev rm_La_laySections : Room := { frames := 1, cells := 0, slots := 0, locals := 23 }
abbrev b_La_lay : ByteArray := prog_5_method_3_code
def y_La_lay : MethodName := ⟨R_La, "lay", "(I)V"⟩
abbrev rm_La_lay : Room := { frames := 2, cells := 0, slots := 0, locals := 45 }
abbrev b_fill53 : ByteArray := prog_32_method_103_code
def y_fill53 : MethodName := ⟨"java/util/Arrays", "fill", "([II)V"⟩
abbrev rm_fill53 : Room := { frames := 0, cells := 0, slots := 0, locals := 0 }
abbrev b_Is_settle : ByteArray := prog_4_method_2_code
def y_Is_settle : MethodName := ⟨R_Is, "settle", "()Z"⟩
abbrev rm_Is_settle : Room := { frames := 4, cells := 0, slots := 0, locals := 86 }
abbrev b_fill48 : ByteArray := prog_32_method_103_code
def y_fill48 : MethodName := ⟨"java/util/Arrays", "fill", "([II)V"⟩
abbrev rm_fill48 : Room := { frames := 0, cells := 0, slots := 0, locals := 0 }
abbrev b_fill49 : ByteArray := prog_32_method_103_code
def y_fill49 : MethodName := ⟨"java/util/Arrays", "fill", "([II)V"⟩
abbrev rm_fill49 : Room := { frames := 0, cells := 0, slots := 0, locals := 0 }
abbrev b_La_begin : ByteArray := prog_5_method_2_code
def y_La_begin : MethodName := ⟨R_La, "begin", "(I)V"⟩
abbrev rm_La_begin : Room := { frames := 1, cells := 0, slots := 0, locals := 23 }
abbrev b_Is_goalOf : ByteArray := prog_4_method_10_code
def y_Is_goalOf : MethodName := ⟨R_Is, "goalOf", "(II)I"⟩
abbrev rm_Is_goalOf : Room := { frames := 0, cells := 0, slots := 0, locals := 0 }
abbrev b_Me_isMended : ByteArray := prog_6_method_4_code
def y_Me_isMended : MethodName := ⟨R_Me, "isMended", "(II)Z"⟩
abbrev rm_Me_isMended : Room := { frames := 2, cells := 0, slots := 0, locals := 42 }
abbrev b_Me_firstFar : ByteArray := prog_6_method_2_code
def y_Me_firstFar : MethodName := ⟨R_Me, "firstFar", "()I"⟩
abbrev rm_Me_firstFar : Room := { frames := 3, cells := 0, slots := 0, locals := 64 }
abbrev b_Me_firstMisplacedJump : ByteArray := prog_6_method_3_code
def y_Me_firstMisplacedJump : MethodName := ⟨R_Me, "firstMisplacedJump", "()I"⟩
abbrev rm_Me_firstMisplacedJump : Room := { frames := 3, cells := 0, slots := 0, locals := 64 }
abbrev b_Ly_linksPlaces : ByteArray := prog_1_method_25_code
def y_Ly_linksPlaces : MethodName := ⟨R_Ly, "linksPlaces", "(I)Z"⟩
abbrev rm_Ly_linksPlaces : Room := { frames := 5, cells := 0, slots := 0, locals := 113 }
abbrev b_Ly_isName : ByteArray := prog_1_method_27_code
def y_Ly_isName : MethodName := ⟨R_Ly, "isName", "(I)Z"⟩
abbrev rm_Ly_isName : Room := { frames := 0, cells := 0, slots := 0, locals := 0 }
abbrev b_Ly_isSize : ByteArray := prog_1_method_28_code
def y_Ly_isSize : MethodName := ⟨R_Ly, "isSize", "(II)Z"⟩
abbrev rm_Ly_isSize : Room := { frames := 0, cells := 0, slots := 0, locals := 0 }
abbrev b_bitCount : ByteArray := prog_22_method_49_code
def y_bitCount : MethodName := ⟨"java/lang/Integer", "bitCount", "(I)I"⟩
abbrev rm_bitCount : Room := { frames := 0, cells := 0, slots := 0, locals := 0 }
abbrev b_Ly_isAlignment : ByteArray := prog_1_method_29_code
def y_Ly_isAlignment : MethodName := ⟨R_Ly, "isAlignment", "(I)Z"⟩
abbrev rm_Ly_isAlignment : Room := { frames := 1, cells := 0, slots := 0, locals := 20 }
abbrev b_Ly_isOther : ByteArray := prog_1_method_30_code
def y_Ly_isOther : MethodName := ⟨R_Ly, "isOther", "(III)Z"⟩
abbrev rm_Ly_isOther : Room := { frames := 1, cells := 0, slots := 0, locals := 21 }
abbrev b_Ly_formOfOther : ByteArray := prog_1_method_31_code
def y_Ly_formOfOther : MethodName := ⟨R_Ly, "formOfOther", "(I)I"⟩
abbrev rm_Ly_formOfOther : Room := { frames := 0, cells := 0, slots := 0, locals := 0 }
abbrev b_Un_has : ByteArray := prog_12_method_2_code
def y_Un_has : MethodName := ⟨R_Un, "has", "(I)Z"⟩
abbrev rm_Un_has : Room := { frames := 0, cells := 0, slots := 0, locals := 0 }
abbrev b_Un_add : ByteArray := prog_12_method_3_code
def y_Un_add : MethodName := ⟨R_Un, "add", "(I)I"⟩
abbrev rm_Un_add : Room := { frames := 0, cells := 0, slots := 0, locals := 0 }
abbrev b_Un_countIn : ByteArray := prog_12_method_4_code
def y_Un_countIn : MethodName := ⟨R_Un, "countIn", "()I"⟩
abbrev rm_Un_countIn : Room := { frames := 0, cells := 0, slots := 0, locals := 0 }
abbrev b_Se_has : ByteArray := prog_10_method_2_code
def y_Se_has : MethodName := ⟨R_Se, "has", "(I)Z"⟩
abbrev rm_Se_has : Room := { frames := 0, cells := 0, slots := 0, locals := 0 }
abbrev b_Se_hasWord : ByteArray := prog_10_method_3_code
def y_Se_hasWord : MethodName := ⟨R_Se, "hasWord", "(II)Z"⟩
abbrev rm_Se_hasWord : Room := { frames := 1, cells := 0, slots := 0, locals := 21 }
abbrev b_Se_roomier : ByteArray := prog_10_method_6_code
def y_Se_roomier : MethodName := ⟨R_Se, "roomier", "(I)I"⟩
abbrev rm_Se_roomier : Room := { frames := 1, cells := 0, slots := 0, locals := 32 }
abbrev b_Se_write : ByteArray := prog_10_method_8_code
def y_Se_write : MethodName := ⟨R_Se, "write", "(III)V"⟩
abbrev rm_Se_write : Room := { frames := 0, cells := 0, slots := 0, locals := 0 }
abbrev b_Sy_has : ByteArray := prog_11_method_2_code
def y_Sy_has : MethodName := ⟨R_Sy, "has", "(I)Z"⟩
abbrev rm_Sy_has : Room := { frames := 0, cells := 0, slots := 0, locals := 0 }
abbrev b_Sy_clashes : ByteArray := prog_11_method_3_code
def y_Sy_clashes : MethodName := ⟨R_Sy, "clashes", "(III)Z"⟩
abbrev rm_Sy_clashes : Room := { frames := 0, cells := 0, slots := 0, locals := 0 }
abbrev b_Sy_add : ByteArray := prog_11_method_4_code
def y_Sy_add : MethodName := ⟨R_Sy, "add", "(III)I"⟩
abbrev rm_Sy_add : Room := { frames := 0, cells := 0, slots := 0, locals := 0 }
abbrev b_Sy_define : ByteArray := prog_11_method_5_code
def y_Sy_define : MethodName := ⟨R_Sy, "define", "(IIII)V"⟩
abbrev rm_Sy_define : Room := { frames := 0, cells := 0, slots := 0, locals := 0 }
abbrev b_Re_add : ByteArray := prog_9_method_2_code
def y_Re_add : MethodName := ⟨R_Re, "add", "(IIIII)I"⟩
abbrev rm_Re_add : Room := { frames := 0, cells := 0, slots := 0, locals := 0 }
abbrev b_Fo_countFolded : ByteArray := prog_3_method_4_code
def y_Fo_countFolded : MethodName := ⟨R_Fo, "countFolded", "()I"⟩
abbrev rm_Fo_countFolded : Room := { frames := 1, cells := 0, slots := 0, locals := 21 }
abbrev b_La_isLaid : ByteArray := prog_5_method_7_code
def y_La_isLaid : MethodName := ⟨R_La, "isLaid", "(I)Z"⟩
abbrev rm_La_isLaid : Room := { frames := 0, cells := 0, slots := 0, locals := 0 }
abbrev b_La_sectionAt : ByteArray := prog_5_method_10_code
def y_La_sectionAt : MethodName := ⟨R_La, "sectionAt", "(I)I"⟩
abbrev rm_La_sectionAt : Room := { frames := 2, cells := 0, slots := 0, locals := 42 }
abbrev b_Is_covers : ByteArray := prog_4_method_12_code
def y_Is_covers : MethodName := ⟨R_Is, "covers", "(I)Z"⟩
abbrev rm_Is_covers : Room := { frames := 0, cells := 0, slots := 0, locals := 0 }
abbrev b_Is_read : ByteArray := prog_4_method_13_code
def y_Is_read : MethodName := ⟨R_Is, "read", "(I)I"⟩
abbrev rm_Is_read : Room := { frames := 1, cells := 0, slots := 0, locals := 22 }
abbrev b_Me_withLowerHalf : ByteArray := prog_6_method_9_code
def y_Me_withLowerHalf : MethodName := ⟨R_Me, "withLowerHalf", "(II)I"⟩
abbrev rm_Me_withLowerHalf : Room := { frames := 0, cells := 0, slots := 0, locals := 0 }
abbrev b_Me_wordsBetween : ByteArray := prog_6_method_8_code
def y_Me_wordsBetween : MethodName := ⟨R_Me, "wordsBetween", "(II)I"⟩
abbrev rm_Me_wordsBetween : Room := { frames := 0, cells := 0, slots := 0, locals := 0 }
abbrev b_Me_mend : ByteArray := prog_6_method_7_code
def y_Me_mend : MethodName := ⟨R_Me, "mend", "(II)I"⟩
abbrev rm_Me_mend : Room := { frames := 3, cells := 0, slots := 0, locals := 64 }
abbrev b_Me_mended : ByteArray := prog_6_method_6_code
def y_Me_mended : MethodName := ⟨R_Me, "mended", "(II)I"⟩
abbrev rm_Me_mended : Room := { frames := 4, cells := 0, slots := 0, locals := 88 }
abbrev b_Me_read : ByteArray := prog_6_method_5_code
def y_Me_read : MethodName := ⟨R_Me, "read", "(I)I"⟩
abbrev rm_Me_read : Room := { frames := 5, cells := 0, slots := 0, locals := 113 }
abbrev b_Mo_thrown : ByteArray := prog_14_method_2_code
def y_Mo_thrown : MethodName := ⟨R_Mo, "thrown", "()I"⟩
abbrev rm_Mo_thrown : Room := { frames := 0, cells := 0, slots := 0, locals := 0 }
abbrev b_Mo_refuse : ByteArray := prog_14_method_3_code
def y_Mo_refuse : MethodName := ⟨R_Mo, "refuse", "(ZZ)Z"⟩
abbrev rm_Mo_refuse : Room := { frames := 0, cells := 0, slots := 0, locals := 0 }
abbrev b_Mo_within : ByteArray := prog_14_method_4_code
def y_Mo_within : MethodName := ⟨R_Mo, "within", "(III)Z"⟩
abbrev rm_Mo_within : Room := { frames := 0, cells := 0, slots := 0, locals := 0 }
abbrev b_Mo_told : ByteArray := prog_14_method_5_code
def y_Mo_told : MethodName := ⟨R_Mo, "told", "()V"⟩
abbrev rm_Mo_told : Room := { frames := 0, cells := 0, slots := 0, locals := 0 }
abbrev b_Mo_unit : ByteArray := prog_14_method_6_code
def y_Mo_unit : MethodName := ⟨R_Mo, "unit", "(I)I"⟩
abbrev rm_Mo_unit : Room := { frames := 1, cells := 0, slots := 0, locals := 22 }
abbrev b_Mo_isAlignment : ByteArray := prog_14_method_7_code
def y_Mo_isAlignment : MethodName := ⟨R_Mo, "isAlignment", "(I)Z"⟩
abbrev rm_Mo_isAlignment : Room := { frames := 1, cells := 0, slots := 0, locals := 22 }
abbrev b_Mo_section : ByteArray := prog_14_method_8_code
def y_Mo_section : MethodName := ⟨R_Mo, "section", "(IIII)I"⟩
abbrev rm_Mo_section : Room := { frames := 2, cells := 0, slots := 0, locals := 42 }
abbrev b_Mo_isPlace : ByteArray := prog_14_method_9_code
def y_Mo_isPlace : MethodName := ⟨R_Mo, "isPlace", "(II)Z"⟩
abbrev rm_Mo_isPlace : Room := { frames := 1, cells := 0, slots := 0, locals := 22 }
abbrev b_Mo_word : ByteArray := prog_14_method_10_code
def y_Mo_word : MethodName := ⟨R_Mo, "word", "(III)V"⟩
abbrev rm_Mo_word : Room := { frames := 2, cells := 0, slots := 0, locals := 44 }
abbrev b_Mo_hasName : ByteArray := prog_14_method_11_code
def y_Mo_hasName : MethodName := ⟨R_Mo, "hasName", "(III)Z"⟩
abbrev rm_Mo_hasName : Room := { frames := 0, cells := 0, slots := 0, locals := 0 }
abbrev b_Mo_newSymbol : ByteArray := prog_14_method_12_code
def y_Mo_newSymbol : MethodName := ⟨R_Mo, "newSymbol", "(IIIIII)I"⟩
abbrev rm_Mo_newSymbol : Room := { frames := 1, cells := 0, slots := 0, locals := 20 }
abbrev b_Mo_symbol : ByteArray := prog_14_method_13_code
def y_Mo_symbol : MethodName := ⟨R_Mo, "symbol", "(IIII)I"⟩
abbrev rm_Mo_symbol : Room := { frames := 2, cells := 0, slots := 0, locals := 46 }
abbrev b_Mo_other : ByteArray := prog_14_method_14_code
def y_Mo_other : MethodName := ⟨R_Mo, "other", "(IIIII)I"⟩
abbrev rm_Mo_other : Room := { frames := 2, cells := 0, slots := 0, locals := 46 }
abbrev b_Mo_relocation : ByteArray := prog_14_method_15_code
def y_Mo_relocation : MethodName := ⟨R_Mo, "relocation", "(IIIII)I"⟩
abbrev rm_Mo_relocation : Room := { frames := 2, cells := 0, slots := 0, locals := 44 }
abbrev b_Mo_entry : ByteArray := prog_14_method_16_code
def y_Mo_entry : MethodName := ⟨R_Mo, "entry", "(I)V"⟩
abbrev rm_Mo_entry : Room := { frames := 1, cells := 0, slots := 0, locals := 22 }
abbrev b_Mo_keep : ByteArray := prog_14_method_17_code
def y_Mo_keep : MethodName := ⟨R_Mo, "keep", "(IZ)V"⟩
abbrev rm_Mo_keep : Room := { frames := 1, cells := 0, slots := 0, locals := 22 }
abbrev b_Mo_fold : ByteArray := prog_14_method_18_code
def y_Mo_fold : MethodName := ⟨R_Mo, "fold", "(ZZ)V"⟩
abbrev rm_Mo_fold : Room := { frames := 1, cells := 0, slots := 0, locals := 20 }
abbrev b_Mo_clear : ByteArray := prog_14_method_19_code
def y_Mo_clear : MethodName := ⟨R_Mo, "clear", "()V"⟩
abbrev rm_Mo_clear : Room := { frames := 1, cells := 0, slots := 0, locals := 20 }
abbrev b_Mo_fail : ByteArray := prog_14_method_20_code
def y_Mo_fail : MethodName := ⟨R_Mo, "fail", "(III)Z"⟩
abbrev rm_Mo_fail : Room := { frames := 0, cells := 0, slots := 0, locals := 0 }
abbrev b_Mo_isGiven : ByteArray := prog_14_method_21_code
def y_Mo_isGiven : MethodName := ⟨R_Mo, "isGiven", "(I)Z"⟩
abbrev rm_Mo_isGiven : Room := { frames := 0, cells := 0, slots := 0, locals := 0 }
abbrev b_Mo_isNeeded : ByteArray := prog_14_method_22_code
def y_Mo_isNeeded : MethodName := ⟨R_Mo, "isNeeded", "(I)Z"⟩
abbrev rm_Mo_isNeeded : Room := { frames := 1, cells := 0, slots := 0, locals := 23 }
abbrev b_Mo_helps : ByteArray := prog_14_method_23_code
def y_Mo_helps : MethodName := ⟨R_Mo, "helps", "(I)Z"⟩
abbrev rm_Mo_helps : Room := { frames := 2, cells := 0, slots := 0, locals := 46 }
abbrev b_Mo_bring : ByteArray := prog_14_method_24_code
def y_Mo_bring : MethodName := ⟨R_Mo, "bring", "(I)Z"⟩
abbrev rm_Mo_bring : Room := { frames := 3, cells := 0, slots := 0, locals := 70 }
abbrev b_Mo_findIn : ByteArray := prog_14_method_25_code
def y_Mo_findIn : MethodName := ⟨R_Mo, "findIn", "()V"⟩
abbrev rm_Mo_findIn : Room := { frames := 4, cells := 0, slots := 0, locals := 95 }
abbrev b_Mo_define : ByteArray := prog_14_method_26_code
def y_Mo_define : MethodName := ⟨R_Mo, "define", "()Z"⟩
abbrev rm_Mo_define : Room := { frames := 1, cells := 0, slots := 0, locals := 23 }
abbrev b_Mo_itself : ByteArray := prog_14_method_27_code
def y_Mo_itself : MethodName := ⟨R_Mo, "itself", "(I)I"⟩
abbrev rm_Mo_itself : Room := { frames := 0, cells := 0, slots := 0, locals := 0 }
abbrev b_Mo_isCommon : ByteArray := prog_14_method_28_code
def y_Mo_isCommon : MethodName := ⟨R_Mo, "isCommon", "(I)Z"⟩
abbrev rm_Mo_isCommon : Room := { frames := 0, cells := 0, slots := 0, locals := 0 }
abbrev b_Mo_sortOf : ByteArray := prog_14_method_29_code
def y_Mo_sortOf : MethodName := ⟨R_Mo, "sortOf", "(I)I"⟩
abbrev rm_Mo_sortOf : Room := { frames := 1, cells := 0, slots := 0, locals := 21 }
abbrev b_Mo_numberOf : ByteArray := prog_14_method_30_code
def y_Mo_numberOf : MethodName := ⟨R_Mo, "numberOf", "(I)I"⟩
abbrev rm_Mo_numberOf : Room := { frames := 1, cells := 0, slots := 0, locals := 21 }
abbrev b_Mo_sectionOf : ByteArray := prog_14_method_31_code
def y_Mo_sectionOf : MethodName := ⟨R_Mo, "sectionOf", "(I)I"⟩
abbrev rm_Mo_sectionOf : Room := { frames := 2, cells := 0, slots := 0, locals := 43 }
abbrev b_Mo_reachBy : ByteArray := prog_14_method_33_code
def y_Mo_reachBy : MethodName := ⟨R_Mo, "reachBy", "(I)Z"⟩
abbrev rm_Mo_reachBy : Room := { frames := 3, cells := 0, slots := 0, locals := 64 }
abbrev b_Mo_reach : ByteArray := prog_14_method_32_code
def y_Mo_reach : MethodName := ⟨R_Mo, "reach", "()Z"⟩
abbrev rm_Mo_reach : Room := { frames := 4, cells := 0, slots := 0, locals := 88 }
abbrev b_Mo_mayFold : ByteArray := prog_14_method_34_code
def y_Mo_mayFold : MethodName := ⟨R_Mo, "mayFold", "(I)Z"⟩
abbrev rm_Mo_mayFold : Room := { frames := 0, cells := 0, slots := 0, locals := 0 }
abbrev b_Mo_haveLikeWords : ByteArray := prog_14_method_35_code
def y_Mo_haveLikeWords : MethodName := ⟨R_Mo, "haveLikeWords", "(II)Z"⟩
abbrev rm_Mo_haveLikeWords : Room := { frames := 0, cells := 0, slots := 0, locals := 0 }
abbrev b_Mo_nextOf : ByteArray := prog_14_method_36_code
def y_Mo_nextOf : MethodName := ⟨R_Mo, "nextOf", "(II)I"⟩
abbrev rm_Mo_nextOf : Room := { frames := 0, cells := 0, slots := 0, locals := 0 }
abbrev b_Mo_meanLike : ByteArray := prog_14_method_37_code
def y_Mo_meanLike : MethodName := ⟨R_Mo, "meanLike", "(II)Z"⟩
abbrev rm_Mo_meanLike : Room := { frames := 3, cells := 0, slots := 0, locals := 64 }
abbrev b_Mo_haveLikeRelocations : ByteArray := prog_14_method_38_code
def y_Mo_haveLikeRelocations : MethodName := ⟨R_Mo, "haveLikeRelocations", "(II)Z"⟩
abbrev rm_Mo_haveLikeRelocations : Room := { frames := 4, cells := 0, slots := 0, locals := 88 }
abbrev b_Mo_findLike : ByteArray := prog_14_method_39_code
def y_Mo_findLike : MethodName := ⟨R_Mo, "findLike", "()V"⟩
abbrev rm_Mo_findLike : Room := { frames := 5, cells := 0, slots := 0, locals := 112 }
abbrev b_Mo_stays : ByteArray := prog_14_method_40_code
def y_Mo_stays : MethodName := ⟨R_Mo, "stays", "(I)Z"⟩
abbrev rm_Mo_stays : Room := { frames := 0, cells := 0, slots := 0, locals := 0 }
abbrev b_Mo_up : ByteArray := prog_14_method_41_code
def y_Mo_up : MethodName := ⟨R_Mo, "up", "(II)I"⟩
abbrev rm_Mo_up : Room := { frames := 0, cells := 0, slots := 0, locals := 0 }
abbrev b_Mo_layKind : ByteArray := prog_14_method_42_code
def y_Mo_layKind : MethodName := ⟨R_Mo, "layKind", "(II)I"⟩
abbrev rm_Mo_layKind : Room := { frames := 1, cells := 0, slots := 0, locals := 21 }
abbrev b_Mo_lay : ByteArray := prog_14_method_43_code
def y_Mo_lay : MethodName := ⟨R_Mo, "lay", "()V"⟩
abbrev rm_Mo_lay : Room := { frames := 2, cells := 0, slots := 0, locals := 45 }
abbrev b_Mo_meaning : ByteArray := prog_14_method_44_code
def y_Mo_meaning : MethodName := ⟨R_Mo, "meaning", "(I)I"⟩
abbrev rm_Mo_meaning : Room := { frames := 3, cells := 0, slots := 0, locals := 64 }
abbrev b_Mo_placeAt : ByteArray := prog_14_method_45_code
def y_Mo_placeAt : MethodName := ⟨R_Mo, "placeAt", "(I)I"⟩
abbrev rm_Mo_placeAt : Room := { frames := 0, cells := 0, slots := 0, locals := 0 }
abbrev b_Mo_isNear : ByteArray := prog_14_method_46_code
def y_Mo_isNear : MethodName := ⟨R_Mo, "isNear", "(J)Z"⟩
abbrev rm_Mo_isNear : Room := { frames := 0, cells := 0, slots := 0, locals := 0 }
abbrev b_Mo_isNearTarget : ByteArray := prog_14_method_47_code
def y_Mo_isNearTarget : MethodName := ⟨R_Mo, "isNearTarget", "(I)Z"⟩
abbrev rm_Mo_isNearTarget : Room := { frames := 4, cells := 0, slots := 0, locals := 86 }
abbrev b_Mo_islandAt : ByteArray := prog_14_method_48_code
def y_Mo_islandAt : MethodName := ⟨R_Mo, "islandAt", "(I)I"⟩
abbrev rm_Mo_islandAt : Room := { frames := 0, cells := 0, slots := 0, locals := 0 }
abbrev b_Mo_sameTarget : ByteArray := prog_14_method_49_code
def y_Mo_sameTarget : MethodName := ⟨R_Mo, "sameTarget", "(II)Z"⟩
abbrev rm_Mo_sameTarget : Room := { frames := 3, cells := 0, slots := 0, locals := 64 }
abbrev b_Mo_needy : ByteArray := prog_14_method_50_code
def y_Mo_needy : MethodName := ⟨R_Mo, "needy", "()I"⟩
abbrev rm_Mo_needy : Room := { frames := 5, cells := 0, slots := 0, locals := 107 }
abbrev b_Mo_findIslands : ByteArray := prog_14_method_51_code
def y_Mo_findIslands : MethodName := ⟨R_Mo, "findIslands", "()Z"⟩
abbrev rm_Mo_findIslands : Room := { frames := 6, cells := 0, slots := 0, locals := 130 }
abbrev b_Mo_checkFar : ByteArray := prog_14_method_52_code
def y_Mo_checkFar : MethodName := ⟨R_Mo, "checkFar", "()Z"⟩
abbrev rm_Mo_checkFar : Room := { frames := 5, cells := 0, slots := 0, locals := 107 }
abbrev b_Mo_mendOne : ByteArray := prog_14_method_54_code
def y_Mo_mendOne : MethodName := ⟨R_Mo, "mendOne", "(I)Z"⟩
abbrev rm_Mo_mendOne : Room := { frames := 4, cells := 0, slots := 0, locals := 86 }
abbrev b_Mo_mend : ByteArray := prog_14_method_53_code
def y_Mo_mend : MethodName := ⟨R_Mo, "mend", "()Z"⟩
abbrev rm_Mo_mend : Room := { frames := 5, cells := 0, slots := 0, locals := 111 }
abbrev b_Mo_link : ByteArray := prog_14_method_55_code
def y_Mo_link : MethodName := ⟨R_Mo, "link", "(I)I"⟩
abbrev rm_Mo_link : Room := { frames := 7, cells := 0, slots := 0, locals := 152 }
abbrev b_Mo_fault : ByteArray := prog_14_method_56_code
def y_Mo_fault : MethodName := ⟨R_Mo, "fault", "(I)I"⟩
abbrev rm_Mo_fault : Room := { frames := 1, cells := 0, slots := 0, locals := 22 }
abbrev b_Mo_isIn : ByteArray := prog_14_method_57_code
def y_Mo_isIn : MethodName := ⟨R_Mo, "isIn", "(I)Z"⟩
abbrev rm_Mo_isIn : Room := { frames := 1, cells := 0, slots := 0, locals := 22 }
abbrev b_Mo_address : ByteArray := prog_14_method_58_code
def y_Mo_address : MethodName := ⟨R_Mo, "address", "(I)I"⟩
abbrev rm_Mo_address : Room := { frames := 1, cells := 0, slots := 0, locals := 22 }
abbrev b_Mo_like : ByteArray := prog_14_method_59_code
def y_Mo_like : MethodName := ⟨R_Mo, "like", "(I)I"⟩
abbrev rm_Mo_like : Room := { frames := 1, cells := 0, slots := 0, locals := 22 }
abbrev b_Mo_means : ByteArray := prog_14_method_60_code
def y_Mo_means : MethodName := ⟨R_Mo, "means", "(II)I"⟩
abbrev rm_Mo_means : Room := { frames := 4, cells := 0, slots := 0, locals := 86 }
abbrev b_Mo_common : ByteArray := prog_14_method_61_code
def y_Mo_common : MethodName := ⟨R_Mo, "common", "(I)I"⟩
abbrev rm_Mo_common : Room := { frames := 1, cells := 0, slots := 0, locals := 22 }
abbrev b_Mo_at : ByteArray := prog_14_method_62_code
def y_Mo_at : MethodName := ⟨R_Mo, "at", "(I)I"⟩
abbrev rm_Mo_at : Room := { frames := 4, cells := 0, slots := 0, locals := 86 }
abbrev b_Mo_about : ByteArray := prog_14_method_63_code
def y_Mo_about : MethodName := ⟨R_Mo, "about", "(I)I"⟩
abbrev rm_Mo_about : Room := { frames := 1, cells := 0, slots := 0, locals := 22 }
end
section
def f_Ly_takeLinkAway (V : Sto) : RT :=
  nm (sw V 0 14 0) fun V1 =>
  nm (sw V1 0 15 0) fun V2 =>
  nm (sw V2 0 16 (-1)) fun V3 =>
  nm (sw V3 0 17 (-1)) fun V4 =>
  some (0, V4)
def f_Ly_fold (V : Sto) (p1 p2 : Int32) : RT :=
  cl (f_Ly_takeLinkAway V) fun r1 V1 =>
  ck (bb p1) <| nm (sw V1 0 12 p1) fun V2 =>
  ck (bb p2) <| nm (sw V2 0 13 p2) fun V3 =>
  some (0, V3)
def f_Se_forget (V : Sto) : RT :=
  nm (sw V 2 0 0) fun V1 =>
  nm (sw V1 2 1 0) fun V2 =>
  nm (sw V2 2 2 0) fun V3 =>
  some (0, V3)
def f_Ly_clear (V : Sto) : RT :=
  cl (f_Ly_takeLinkAway V) fun r1 V1 =>
  nm (sw V1 1 0 0) fun V2 =>
  cl (f_Se_forget V2) fun r2 V3 =>
  nm (sw V3 3 0 0) fun V4 =>
  nm (sw V4 4 0 0) fun V5 =>
  nm (sw V5 0 11 (-1)) fun V6 =>
  nm (sw V6 0 12 0) fun V7 =>
  nm (sw V7 0 13 0) fun V8 =>
  some (0, V8)
def f_Sy_asksForName (V : Sto) (p1 : Int32) : RT :=
  ck (ib p1 400) <|
  if (V 23 p1.toNatClampNeg) = 1 then
    ck (ib p1 400) <|
    if (V 24 p1.toNatClampNeg) = 0 then
      some (1, V)
    else
    some (0, V)
  else
  some (0, V)
def f_Sy_givesName (V : Sto) (p1 : Int32) : RT :=
  ck (ib p1 400) <|
  if (V 23 p1.toNatClampNeg) = 0 then
    some (0, V)
  else
  ck (ib p1 400) <|
  if (V 24 p1.toNatClampNeg) = 0 then
    some (0, V)
  else
  some (1, V)
def f_Ar_note (V : Sto) (p1 : Int32) : RT :=
  cl (f_Sy_asksForName V p1) fun r1 V1 =>
  jn (fun (V3 : Sto) =>
      cl (f_Sy_givesName V3 p1) fun r2 V4 =>
      if r2 = 0 then
        some (0, V4)
      else
      ck (ib p1 400) <|
      ck (ib (V4 22 p1.toNatClampNeg) 200) <| nm (sw V4 36 (V4 22 p1.toNatClampNeg).toNatClampNeg 1) fun V5 =>
      some (0, V5)) fun j1 =>
  if r1 = 0 then
    j1 V1
  else
  ck (ib p1 400) <|
  ck (ib (V1 22 p1.toNatClampNeg) 200) <| nm (sw V1 35 (V1 22 p1.toNatClampNeg).toNatClampNeg 1) fun V2 =>
  j1 V2
def lp_Ar_admit_12 (x1 : Int32) (k47 : Sto → RT) : Nat → Int32 → Sto → RT
  | 0, _, _ => none
  | n + 1, x2, V =>
    if (V 3 0) ≤ x2 then
      k47 V
    else
    ck (ib x2 400) <|
    if (V 21 x2.toNatClampNeg) = x1 then
      cl (f_Ar_note V x2) fun r1 V2 =>
      lp_Ar_admit_12 x1 k47 n (x2 + 1) V2
    else
    lp_Ar_admit_12 x1 k47 n (x2 + 1) V
def f_Ar_admit (V : Sto) (p1 : Int32) : RT :=
  ck (ib p1 24) <| nm (sw V 13 p1.toNatClampNeg 1) fun V1 =>
  lp_Ar_admit_12 p1
    (fun V3 =>
      some (0, V3)) FU 0 V1
def lp_Ar_begin_2 (x1 : Int32) (k38 : Sto → RT) : Nat → Int32 → Sto → RT
  | 0, _, _ => none
  | n + 1, x2, V =>
    if 200 ≤ x2 then
      k38 V
    else
    if x2 = x1 then
      ck (ib x2 200) <| nm (sw V 35 x2.toNatClampNeg 1) fun V3 =>
      ck (ib x2 200) <| nm (sw V3 36 x2.toNatClampNeg 0) fun V4 =>
      lp_Ar_begin_2 x1 k38 n (x2 + 1) V4
    else
    ck (ib x2 200) <| nm (sw V 35 x2.toNatClampNeg 0) fun V1 =>
    ck (ib x2 200) <| nm (sw V1 36 x2.toNatClampNeg 0) fun V2 =>
    lp_Ar_begin_2 x1 k38 n (x2 + 1) V2
def lp_Ar_begin_40 (k67 : Sto → RT) : Nat → Int32 → Sto → RT
  | 0, _, _ => none
  | n + 1, x2, V =>
    if (V 1 0) ≤ x2 then
      k67 V
    else
    ck (ib x2 24) <| nm (sw V 13 x2.toNatClampNeg 0) fun V6 =>
    lp_Ar_begin_40 k67 n (x2 + 1) V6
def lp_Ar_begin_69 (k104 : Sto → RT) : Nat → Int32 → Sto → RT
  | 0, _, _ => none
  | n + 1, x2, V =>
    if (V 1 0) ≤ x2 then
      k104 V
    else
    ck (ib x2 24) <|
    if (V 12 x2.toNatClampNeg) = (-1) then
      cl (f_Ar_admit V x2) fun r1 V8 =>
      lp_Ar_begin_69 k104 n (x2 + 1) V8
    else
    lp_Ar_begin_69 k104 n (x2 + 1) V
def f_Ar_begin (V : Sto) (p1 : Int32) : RT :=
  lp_Ar_begin_2 p1
    (fun V5 =>
      lp_Ar_begin_40
        (fun V7 =>
          lp_Ar_begin_69
            (fun V9 =>
              some (0, V9)) FU 0 V7) FU 0 V5) FU 0 V
def f_Ar_isNeeded (V : Sto) (p1 : Int32) : RT :=
  ck (ib p1 400) <|
  cl (f_Sy_givesName V p1) fun r1 V1 =>
  if r1 = 0 then
    some (0, V1)
  else
  ck (ib p1 400) <|
  if (V1 23 p1.toNatClampNeg) = 2 then
    some (0, V1)
  else
  ck (ib (V 22 p1.toNatClampNeg) 200) <|
  if (V1 35 (V 22 p1.toNatClampNeg).toNatClampNeg) = 0 then
    some (0, V1)
  else
  ck (ib (V 22 p1.toNatClampNeg) 200) <|
  if (V1 36 (V 22 p1.toNatClampNeg).toNatClampNeg) = 0 then
    some (1, V1)
  else
  some (0, V1)
def lp_Ar_firstNeeded_4 (x1 : Int32) (k93 : Int32 → Sto → RT) : Nat → Int32 → Int32 → Sto → RT
  | 0, _, _, _ => none
  | n + 1, x2, x3, V =>
    if (V 3 0) ≤ x3 then
      k93 x2 V
    else
    ck (ib x3 400) <|
    ck (ib (V 21 x3.toNatClampNeg) 24) <|
    jn (fun (z1 : Int32) =>
        if z1 = 0 then
          lp_Ar_firstNeeded_4 x1 k93 n x2 (x3 + 1) V
        else
        cl (f_Ar_isNeeded V x3) fun r1 V1 =>
        if r1 = 0 then
          lp_Ar_firstNeeded_4 x1 k93 n x2 (x3 + 1) V1
        else
        if x2 = (-1) then
          lp_Ar_firstNeeded_4 x1 k93 n (V 21 x3.toNatClampNeg) (x3 + 1) V1
        else
        if x2 ≤ (V 21 x3.toNatClampNeg) then
          lp_Ar_firstNeeded_4 x1 k93 n x2 (x3 + 1) V1
        else
        lp_Ar_firstNeeded_4 x1 k93 n (V 21 x3.toNatClampNeg) (x3 + 1) V1) fun j1 =>
    if (V 12 (V 21 x3.toNatClampNeg).toNatClampNeg) = x1 then
      ck (ib (V 21 x3.toNatClampNeg) 24) <|
      if (V 13 (V 21 x3.toNatClampNeg).toNatClampNeg) = 0 then
        j1 1
      else
      j1 0
    else
    j1 0
def f_Ar_firstNeeded (V : Sto) (p1 : Int32) : RT :=
  lp_Ar_firstNeeded_4 p1
    (fun y1 V2 =>
      some (y1, V2)) FU (-1) 0 V
def lp_Ar_goThroughArchives_11 (x2 : Int32) (k47 : Int32 → Sto → RT) : Nat → Int32 → Int32 → Sto → RT
  | 0, _, _, _ => none
  | n + 1, x1, x3, V =>
    if 24 ≤ x3 then
      k47 x1 V
    else
    cl (f_Ar_firstNeeded V x2) fun r1 V1 =>
    if r1 = (-1) then
      k47 x1 V1
    else
    cl (f_Ar_admit V1 r1) fun r2 V2 =>
    lp_Ar_goThroughArchives_11 x2 k47 n 1 (x3 + 1) V2
def lp_Ar_goThroughArchives_4 (k53 : Int32 → Sto → RT) : Nat → Int32 → Int32 → Sto → RT
  | 0, _, _, _ => none
  | n + 1, x1, x2, V =>
    if 4 ≤ x2 then
      k53 x1 V
    else
    lp_Ar_goThroughArchives_11 x2
      (fun y1 V3 =>
        lp_Ar_goThroughArchives_4 k53 n y1 (x2 + 1) V3) FU x1 0 V
def f_Ar_goThroughArchives (V : Sto) : RT :=
  lp_Ar_goThroughArchives_4
    (fun y2 V4 =>
      ck (bb y2) <| some (y2, V4)) FU 0 0 V
def lp_Ar_bringIn_19 (x3 : Int32) (k41 : Sto → RT) : Nat → Int32 → Sto → RT
  | 0, _, _ => none
  | n + 1, x4, V =>
    if x3 ≤ x4 then
      k41 V
    else
    cl (f_Ar_goThroughArchives V) fun r2 V2 =>
    if r2 = 0 then
      k41 V2
    else
    lp_Ar_bringIn_19 x3 k41 n (x4 + 1) V2
def f_Ar_bringIn (V : Sto) (p1 p2 : Int32) : RT :=
  cl (f_Ar_begin V p1) fun r1 V1 =>
  jn (fun (z1 : Int32) =>
      lp_Ar_bringIn_19 z1
        (fun V3 =>
          some (0, V3)) FU 0 V1) fun j1 =>
  if p2 = 0 then
    j1 1
  else
  j1 25
def f_Na_isCommon (V : Sto) (p1 : Int32) : RT :=
  ck (ib p1 200) <|
  if (V 37 p1.toNatClampNeg) = (-1) then
    ck (ib p1 200) <|
    if (V 39 p1.toNatClampNeg) ≤ 0 then
      some (0, V)
    else
    some (1, V)
  else
  some (0, V)
def f_Na_definer (V : Sto) (p1 : Int32) : RT :=
  ck (ib p1 200) <|
  if (V 37 p1.toNatClampNeg) = (-1) then
    cl (f_Na_isCommon V p1) fun r1 V1 =>
    if r1 = 0 then
      ck (ib p1 200) <|
      some (V1 38 p1.toNatClampNeg, V1)
    else
    some ((-1), V1)
  else
  ck (ib p1 200) <|
  some (V 37 p1.toNatClampNeg, V)
def f_Na_isDefined (V : Sto) (p1 : Int32) : RT :=
  cl (f_Na_isCommon V p1) fun r1 V1 =>
  if r1 = 0 then
    cl (f_Na_definer V1 p1) fun r2 V2 =>
    if r2 = (-1) then
      some (0, V2)
    else
    some (1, V2)
  else
  some (1, V1)
def f_Na_sectionOf (V : Sto) (p1 : Int32) : RT :=
  cl (f_Na_definer V p1) fun r1 V1 =>
  if r1 = (-1) then
    some ((-1), V1)
  else
  ck (ib r1 400) <|
  some (V1 25 r1.toNatClampNeg, V1)
def f_Na_setMeaning (V : Sto) (p1 p2 p3 p4 : Int32) : RT :=
  ck (ib p1 400) <| nm (sw V 40 p1.toNatClampNeg p2) fun V1 =>
  ck (ib p1 400) <| nm (sw V1 41 p1.toNatClampNeg p3) fun V2 =>
  ck (ib p1 400) <| nm (sw V2 42 p1.toNatClampNeg p4) fun V3 =>
  some (0, V3)
def f_Na_copyMeaning (V : Sto) (p1 p2 : Int32) : RT :=
  ck (ib p2 400) <|
  ck (ib p2 400) <|
  ck (ib p2 400) <|
  cl (f_Na_setMeaning V p1 (V 24 p2.toNatClampNeg) (V 25 p2.toNatClampNeg) (V 26 p2.toNatClampNeg)) fun r1 V1 =>
  some (0, V1)
end
section
theorem ki_0 : Int32.ofInt 0 = 0 := by decide
theorem fl_Ly_243 : FL R_Ly 243 0 14 := ⟨R_Ly, F_Ly, N_Ly, rfl, by decide, i_Ly, (mw 553 (by decide +kernel))⟩
theorem ft_Ly_14 : FT 0 14 .boolean := ⟨R_Ly, F_Ly, N_Ly, rfl, rfl, by decide +kernel⟩
theorem fl_Ly_249 : FL R_Ly 249 0 15 := ⟨R_Ly, F_Ly, N_Ly, rfl, by decide, i_Ly, (mw 554 (by decide +kernel))⟩
theorem ft_Ly_15 : FT 0 15 .int := ⟨R_Ly, F_Ly, N_Ly, rfl, rfl, by decide +kernel⟩
theorem ki_m1 : Int32.ofInt (-1) = (-1) := by decide
theorem fl_Ly_102 : FL R_Ly 102 0 16 := ⟨R_Ly, F_Ly, N_Ly, rfl, by decide, i_Ly, (mw 555 (by decide +kernel))⟩
theorem ft_Ly_16 : FT 0 16 .int := ⟨R_Ly, F_Ly, N_Ly, rfl, rfl, by decide +kernel⟩
theorem fl_Ly_105 : FL R_Ly 105 0 17 := ⟨R_Ly, F_Ly, N_Ly, rfl, by decide, i_Ly, (mw 556 (by decide +kernel))⟩
theorem ft_Ly_17 : FT 0 17 .int := ⟨R_Ly, F_Ly, N_Ly, rfl, rfl, by decide +kernel⟩
theorem ml_Ly_123 : MLb R_Ly 123 y_Ly_takeLinkAway b_Ly_takeLinkAway 1 (none) 0 := ⟨(mw 601 (by decide +kernel)), (mw 598 (by decide +kernel)), (mw 83 (by decide +kernel)), by decide +kernel⟩
theorem mv_Ly_takeLinkAway : MLv y_Ly_takeLinkAway := ⟨(mw 600 (by decide +kernel)), (mw 0 (by decide +kernel))⟩
theorem fl_Ly_223 : FL R_Ly 223 0 12 := ⟨R_Ly, F_Ly, N_Ly, rfl, by decide, i_Ly, (mw 551 (by decide +kernel))⟩
theorem ft_Ly_12 : FT 0 12 .boolean := ⟨R_Ly, F_Ly, N_Ly, rfl, rfl, by decide +kernel⟩
theorem fl_Ly_227 : FL R_Ly 227 0 13 := ⟨R_Ly, F_Ly, N_Ly, rfl, by decide, i_Ly, (mw 552 (by decide +kernel))⟩
theorem ft_Ly_13 : FT 0 13 .boolean := ⟨R_Ly, F_Ly, N_Ly, rfl, rfl, by decide +kernel⟩
theorem fl_Se_34 : FL R_Se 34 2 0 := ⟨R_Se, F_Se, N_Se, rfl, by decide, i_Se, (mw 154 (by decide +kernel))⟩
theorem ft_Se_0 : FT 2 0 .int := ⟨R_Se, F_Se, N_Se, rfl, rfl, by decide +kernel⟩
theorem fl_Se_45 : FL R_Se 45 2 1 := ⟨R_Se, F_Se, N_Se, rfl, by decide, i_Se, (mw 160 (by decide +kernel))⟩
theorem ft_Se_1 : FT 2 1 .int := ⟨R_Se, F_Se, N_Se, rfl, rfl, by decide +kernel⟩
theorem fl_Se_42 : FL R_Se 42 2 2 := ⟨R_Se, F_Se, N_Se, rfl, by decide, i_Se, (mw 161 (by decide +kernel))⟩
theorem ft_Se_2 : FT 2 2 .int := ⟨R_Se, F_Se, N_Se, rfl, rfl, by decide +kernel⟩
theorem fl_Ly_10 : FL R_Ly 10 0 0 := ⟨R_Ly, F_Ly, N_Ly, rfl, by decide, i_Ly, (mw 539 (by decide +kernel))⟩
theorem fl_Ly_115 : FL R_Ly 115 1 0 := ⟨R_Un, F_Un, N_Un, rfl, by decide, i_Un, (mw 130 (by decide +kernel))⟩
theorem ft_Un_0 : FT 1 0 .int := ⟨R_Un, F_Un, N_Un, rfl, rfl, by decide +kernel⟩
theorem fl_Ly_19 : FL R_Ly 19 0 1 := ⟨R_Ly, F_Ly, N_Ly, rfl, by decide, i_Ly, (mw 540 (by decide +kernel))⟩
theorem ml_Ly_230 : MLb R_Ly 230 y_Se_forget b_Se_forget 1 (none) 0 := ⟨(mw 609 (by decide +kernel)), (mw 606 (by decide +kernel)), (mw 85 (by decide +kernel)), by decide +kernel⟩
theorem mv_Se_forget : MLv y_Se_forget := ⟨(mw 607 (by decide +kernel)), (mw 608 (by decide +kernel))⟩
theorem fl_Ly_26 : FL R_Ly 26 0 2 := ⟨R_Ly, F_Ly, N_Ly, rfl, by decide, i_Ly, (mw 541 (by decide +kernel))⟩
theorem fl_Ly_185 : FL R_Ly 185 3 0 := ⟨R_Sy, F_Sy, N_Sy, rfl, by decide, i_Sy, (mw 213 (by decide +kernel))⟩
theorem ft_Sy_0 : FT 3 0 .int := ⟨R_Sy, F_Sy, N_Sy, rfl, rfl, by decide +kernel⟩
theorem fl_Ly_33 : FL R_Ly 33 0 3 := ⟨R_Ly, F_Ly, N_Ly, rfl, by decide, i_Ly, (mw 542 (by decide +kernel))⟩
theorem fl_Ly_209 : FL R_Ly 209 4 0 := ⟨R_Re, F_Re, N_Re, rfl, by decide, i_Re, (mw 256 (by decide +kernel))⟩
theorem ft_Re_0 : FT 4 0 .int := ⟨R_Re, F_Re, N_Re, rfl, rfl, by decide +kernel⟩
theorem fl_Ly_98 : FL R_Ly 98 0 11 := ⟨R_Ly, F_Ly, N_Ly, rfl, by decide, i_Ly, (mw 550 (by decide +kernel))⟩
theorem ft_Ly_11 : FT 0 11 .int := ⟨R_Ly, F_Ly, N_Ly, rfl, rfl, by decide +kernel⟩
theorem fl_Sy_18 : FL R_Sy 18 3 3 := ⟨R_Sy, F_Sy, N_Sy, rfl, by decide, i_Sy, (mw 222 (by decide +kernel))⟩
theorem ki_1 : Int32.ofInt 1 = 1 := by decide
theorem fl_Sy_21 : FL R_Sy 21 3 4 := ⟨R_Sy, F_Sy, N_Sy, rfl, by decide, i_Sy, (mw 225 (by decide +kernel))⟩
theorem fl_Ar_22 : FL R_Ar 22 5 1 := ⟨R_Ar, F_Ar, N_Ar, rfl, by decide, i_Ar, (mw 309 (by decide +kernel))⟩
theorem ml_Ar_63 : MLb R_Ar 63 y_Sy_asksForName b_Sy_asksForName 2 (some .boolean) 1 := ⟨(mw 1162 (by decide +kernel)), (mw 1159 (by decide +kernel)), (mw 86 (by decide +kernel)), by decide +kernel⟩
theorem mv_Sy_asksForName : MLv y_Sy_asksForName := ⟨(mw 1160 (by decide +kernel)), (mw 1161 (by decide +kernel))⟩
theorem ml_Ar_70 : MLb R_Ar 70 y_Sy_givesName b_Sy_givesName 2 (some .boolean) 1 := ⟨(mw 1166 (by decide +kernel)), (mw 1163 (by decide +kernel)), (mw 86 (by decide +kernel)), by decide +kernel⟩
theorem mv_Sy_givesName : MLv y_Sy_givesName := ⟨(mw 1164 (by decide +kernel)), (mw 1165 (by decide +kernel))⟩
theorem fl_Ar_15 : FL R_Ar 15 5 3 := ⟨R_Ar, F_Ar, N_Ar, rfl, by decide, i_Ar, (mw 311 (by decide +kernel))⟩
theorem fl_Ar_67 : FL R_Ar 67 3 2 := ⟨R_Sy, F_Sy, N_Sy, rfl, by decide, i_Sy, (mw 220 (by decide +kernel))⟩
theorem fl_Ar_9 : FL R_Ar 9 5 2 := ⟨R_Ar, F_Ar, N_Ar, rfl, by decide, i_Ar, (mw 310 (by decide +kernel))⟩
theorem fl_Ar_54 : FL R_Ar 54 3 0 := ⟨R_Sy, F_Sy, N_Sy, rfl, by decide, i_Sy, (mw 212 (by decide +kernel))⟩
theorem fl_Ar_57 : FL R_Ar 57 3 1 := ⟨R_Sy, F_Sy, N_Sy, rfl, by decide, i_Sy, (mw 216 (by decide +kernel))⟩
theorem ml_Ar_60 : MLb R_Ar 60 y_Ar_note b_Ar_note 2 (none) 1 := ⟨(mw 1158 (by decide +kernel)), (mw 1155 (by decide +kernel)), (mw 88 (by decide +kernel)), by decide +kernel⟩
theorem mv_Ar_note : MLv y_Ar_note := ⟨(mw 1157 (by decide +kernel)), (mw 6 (by decide +kernel))⟩
theorem fl_Ar_18 : FL R_Ar 18 5 0 := ⟨R_Ar, F_Ar, N_Ar, rfl, by decide, i_Ar, (mw 308 (by decide +kernel))⟩
theorem fl_Ar_40 : FL R_Ar 40 1 2 := ⟨R_Un, F_Un, N_Un, rfl, by decide, i_Un, (mw 137 (by decide +kernel))⟩
theorem ks_200 : (Int16.ofInt 200).toInt32 = 200 := by decide
theorem fl_Ar_34 : FL R_Ar 34 1 0 := ⟨R_Un, F_Un, N_Un, rfl, by decide, i_Un, (mw 131 (by decide +kernel))⟩
theorem fl_Ar_43 : FL R_Ar 43 1 1 := ⟨R_Un, F_Un, N_Un, rfl, by decide, i_Un, (mw 133 (by decide +kernel))⟩
theorem ml_Ar_47 : MLb R_Ar 47 y_Ar_admit b_Ar_admit 3 (none) 1 := ⟨(mw 1154 (by decide +kernel)), (mw 1151 (by decide +kernel)), (mw 88 (by decide +kernel)), by decide +kernel⟩
theorem mv_Ar_admit : MLv y_Ar_admit := ⟨(mw 1153 (by decide +kernel)), (mw 5 (by decide +kernel))⟩
theorem fl_Ar_76 : FL R_Ar 76 3 3 := ⟨R_Sy, F_Sy, N_Sy, rfl, by decide, i_Sy, (mw 224 (by decide +kernel))⟩
theorem ki_2 : Int32.ofInt 2 = 2 := by decide
theorem ml_Ar_73 : MLb R_Ar 73 y_Ar_isNeeded b_Ar_isNeeded 3 (some .boolean) 1 := ⟨(mw 1178 (by decide +kernel)), (mw 1175 (by decide +kernel)), (mw 88 (by decide +kernel)), by decide +kernel⟩
theorem mv_Ar_isNeeded : MLv y_Ar_isNeeded := ⟨(mw 1177 (by decide +kernel)), (mw 9 (by decide +kernel))⟩
theorem kb_24 : (Int8.ofInt 24).toInt32 = 24 := by decide
theorem ml_Ar_50 : MLb R_Ar 50 y_Ar_firstNeeded b_Ar_firstNeeded 6 (some .int) 1 := ⟨(mw 1174 (by decide +kernel)), (mw 1171 (by decide +kernel)), (mw 88 (by decide +kernel)), by decide +kernel⟩
theorem mv_Ar_firstNeeded : MLv y_Ar_firstNeeded := ⟨(mw 1173 (by decide +kernel)), (mw 8 (by decide +kernel))⟩
theorem ki_4 : Int32.ofInt 4 = 4 := by decide
theorem ml_Ar_30 : MLb R_Ar 30 y_Ar_goThroughArchives b_Ar_goThroughArchives 5 (some .boolean) 0 := ⟨(mw 1170 (by decide +kernel)), (mw 1167 (by decide +kernel)), (mw 88 (by decide +kernel)), by decide +kernel⟩
theorem mv_Ar_goThroughArchives : MLv y_Ar_goThroughArchives := ⟨(mw 1169 (by decide +kernel)), (mw 7 (by decide +kernel))⟩
theorem ml_Ar_26 : MLb R_Ar 26 y_Ar_begin b_Ar_begin 3 (none) 1 := ⟨(mw 1150 (by decide +kernel)), (mw 1147 (by decide +kernel)), (mw 88 (by decide +kernel)), by decide +kernel⟩
theorem mv_Ar_begin : MLv y_Ar_begin := ⟨(mw 1149 (by decide +kernel)), (mw 4 (by decide +kernel))⟩
theorem kb_25 : (Int8.ofInt 25).toInt32 = 25 := by decide
theorem fl_Na_9 : FL R_Na 9 6 2 := ⟨R_Na, F_Na, N_Na, rfl, by decide, i_Na, (mw 329 (by decide +kernel))⟩
theorem fl_Na_18 : FL R_Na 18 6 4 := ⟨R_Na, F_Na, N_Na, rfl, by decide, i_Na, (mw 331 (by decide +kernel))⟩
theorem ml_Na_93 : MLb R_Na 93 y_Na_isCommon b_Na_isCommon 2 (some .boolean) 1 := ⟨(mw 1213 (by decide +kernel)), (mw 1210 (by decide +kernel)), (mw 89 (by decide +kernel)), by decide +kernel⟩
theorem mv_Na_isCommon : MLv y_Na_isCommon := ⟨(mw 1212 (by decide +kernel)), (mw 16 (by decide +kernel))⟩
theorem fl_Na_15 : FL R_Na 15 6 3 := ⟨R_Na, F_Na, N_Na, rfl, by decide, i_Na, (mw 330 (by decide +kernel))⟩
theorem ml_Na_96 : MLb R_Na 96 y_Na_definer b_Na_definer 2 (some .int) 1 := ⟨(mw 1217 (by decide +kernel)), (mw 1214 (by decide +kernel)), (mw 89 (by decide +kernel)), by decide +kernel⟩
theorem mv_Na_definer : MLv y_Na_definer := ⟨(mw 1216 (by decide +kernel)), (mw 17 (by decide +kernel))⟩
theorem fl_Na_34 : FL R_Na 34 6 1 := ⟨R_Na, F_Na, N_Na, rfl, by decide, i_Na, (mw 328 (by decide +kernel))⟩
theorem fl_Na_100 : FL R_Na 100 3 5 := ⟨R_Sy, F_Sy, N_Sy, rfl, by decide, i_Sy, (mw 228 (by decide +kernel))⟩
theorem fl_Na_21 : FL R_Na 21 6 6 := ⟨R_Na, F_Na, N_Na, rfl, by decide, i_Na, (mw 335 (by decide +kernel))⟩
theorem fl_Na_24 : FL R_Na 24 6 7 := ⟨R_Na, F_Na, N_Na, rfl, by decide, i_Na, (mw 341 (by decide +kernel))⟩
theorem fl_Na_27 : FL R_Na 27 6 8 := ⟨R_Na, F_Na, N_Na, rfl, by decide, i_Na, (mw 346 (by decide +kernel))⟩
theorem fl_Na_110 : FL R_Na 110 3 4 := ⟨R_Sy, F_Sy, N_Sy, rfl, by decide, i_Sy, (mw 226 (by decide +kernel))⟩
theorem fl_Na_83 : FL R_Na 83 3 6 := ⟨R_Sy, F_Sy, N_Sy, rfl, by decide, i_Sy, (mw 230 (by decide +kernel))⟩
theorem ml_Na_103 : MLb R_Na 103 y_Na_setMeaning b_Na_setMeaning 5 (none) 4 := ⟨(mw 1205 (by decide +kernel)), (mw 1202 (by decide +kernel)), (mw 89 (by decide +kernel)), by decide +kernel⟩
theorem mv_Na_setMeaning : MLv y_Na_setMeaning := ⟨(mw 1204 (by decide +kernel)), (mw 14 (by decide +kernel))⟩
theorem d_Ly_takeLinkAway_0 : decode b_Ly_takeLinkAway 0 = .ok (.aload_n 0, 1) := by decide +kernel
theorem d_Ly_takeLinkAway_1 : decode b_Ly_takeLinkAway 1 = .ok (.iconst 0, 1) := by decide +kernel
theorem d_Ly_takeLinkAway_2 : decode b_Ly_takeLinkAway 2 = .ok (.putfield 243, 3) := by decide +kernel
theorem d_Ly_takeLinkAway_5 : decode b_Ly_takeLinkAway 5 = .ok (.aload_n 0, 1) := by decide +kernel
theorem d_Ly_takeLinkAway_6 : decode b_Ly_takeLinkAway 6 = .ok (.iconst 0, 1) := by decide +kernel
theorem d_Ly_takeLinkAway_7 : decode b_Ly_takeLinkAway 7 = .ok (.putfield 249, 3) := by decide +kernel
theorem d_Ly_takeLinkAway_10 : decode b_Ly_takeLinkAway 10 = .ok (.aload_n 0, 1) := by decide +kernel
theorem d_Ly_takeLinkAway_11 : decode b_Ly_takeLinkAway 11 = .ok (.iconst (-1), 1) := by decide +kernel
theorem d_Ly_takeLinkAway_12 : decode b_Ly_takeLinkAway 12 = .ok (.putfield 102, 3) := by decide +kernel
theorem d_Ly_takeLinkAway_15 : decode b_Ly_takeLinkAway 15 = .ok (.aload_n 0, 1) := by decide +kernel
theorem d_Ly_takeLinkAway_16 : decode b_Ly_takeLinkAway 16 = .ok (.iconst (-1), 1) := by decide +kernel
theorem d_Ly_takeLinkAway_17 : decode b_Ly_takeLinkAway 17 = .ok (.putfield 105, 3) := by decide +kernel
theorem d_Ly_takeLinkAway_20 : decode b_Ly_takeLinkAway 20 = .ok (.return_, 1) := by decide +kernel
theorem d_Ly_fold_0 : decode b_Ly_fold 0 = .ok (.aload_n 0, 1) := by decide +kernel
theorem d_Ly_fold_1 : decode b_Ly_fold 1 = .ok (.invokevirtual 123, 3) := by decide +kernel
theorem d_Ly_fold_4 : decode b_Ly_fold 4 = .ok (.aload_n 0, 1) := by decide +kernel
theorem d_Ly_fold_5 : decode b_Ly_fold 5 = .ok (.iload_n 1, 1) := by decide +kernel
theorem d_Ly_fold_6 : decode b_Ly_fold 6 = .ok (.putfield 223, 3) := by decide +kernel
theorem d_Ly_fold_9 : decode b_Ly_fold 9 = .ok (.aload_n 0, 1) := by decide +kernel
theorem d_Ly_fold_10 : decode b_Ly_fold 10 = .ok (.iload_n 2, 1) := by decide +kernel
theorem d_Ly_fold_11 : decode b_Ly_fold 11 = .ok (.putfield 227, 3) := by decide +kernel
theorem d_Ly_fold_14 : decode b_Ly_fold 14 = .ok (.return_, 1) := by decide +kernel
theorem d_Se_forget_0 : decode b_Se_forget 0 = .ok (.aload_n 0, 1) := by decide +kernel
theorem d_Se_forget_1 : decode b_Se_forget 1 = .ok (.iconst 0, 1) := by decide +kernel
theorem d_Se_forget_2 : decode b_Se_forget 2 = .ok (.putfield 34, 3) := by decide +kernel
theorem d_Se_forget_5 : decode b_Se_forget 5 = .ok (.aload_n 0, 1) := by decide +kernel
theorem d_Se_forget_6 : decode b_Se_forget 6 = .ok (.iconst 0, 1) := by decide +kernel
theorem d_Se_forget_7 : decode b_Se_forget 7 = .ok (.putfield 45, 3) := by decide +kernel
theorem d_Se_forget_10 : decode b_Se_forget 10 = .ok (.aload_n 0, 1) := by decide +kernel
theorem d_Se_forget_11 : decode b_Se_forget 11 = .ok (.iconst 0, 1) := by decide +kernel
theorem d_Se_forget_12 : decode b_Se_forget 12 = .ok (.putfield 42, 3) := by decide +kernel
theorem d_Se_forget_15 : decode b_Se_forget 15 = .ok (.return_, 1) := by decide +kernel
theorem d_Ly_clear_0 : decode b_Ly_clear 0 = .ok (.aload_n 0, 1) := by decide +kernel
theorem d_Ly_clear_1 : decode b_Ly_clear 1 = .ok (.invokevirtual 123, 3) := by decide +kernel
theorem d_Ly_clear_4 : decode b_Ly_clear 4 = .ok (.aload_n 0, 1) := by decide +kernel
theorem d_Ly_clear_5 : decode b_Ly_clear 5 = .ok (.getfield 10, 3) := by decide +kernel
theorem d_Ly_clear_8 : decode b_Ly_clear 8 = .ok (.iconst 0, 1) := by decide +kernel
theorem d_Ly_clear_9 : decode b_Ly_clear 9 = .ok (.putfield 115, 3) := by decide +kernel
theorem d_Ly_clear_12 : decode b_Ly_clear 12 = .ok (.aload_n 0, 1) := by decide +kernel
theorem d_Ly_clear_13 : decode b_Ly_clear 13 = .ok (.getfield 19, 3) := by decide +kernel
theorem d_Ly_clear_16 : decode b_Ly_clear 16 = .ok (.invokevirtual 230, 3) := by decide +kernel
theorem d_Ly_clear_19 : decode b_Ly_clear 19 = .ok (.aload_n 0, 1) := by decide +kernel
theorem d_Ly_clear_20 : decode b_Ly_clear 20 = .ok (.getfield 26, 3) := by decide +kernel
theorem d_Ly_clear_23 : decode b_Ly_clear 23 = .ok (.iconst 0, 1) := by decide +kernel
theorem d_Ly_clear_24 : decode b_Ly_clear 24 = .ok (.putfield 185, 3) := by decide +kernel
theorem d_Ly_clear_27 : decode b_Ly_clear 27 = .ok (.aload_n 0, 1) := by decide +kernel
theorem d_Ly_clear_28 : decode b_Ly_clear 28 = .ok (.getfield 33, 3) := by decide +kernel
theorem d_Ly_clear_31 : decode b_Ly_clear 31 = .ok (.iconst 0, 1) := by decide +kernel
theorem d_Ly_clear_32 : decode b_Ly_clear 32 = .ok (.putfield 209, 3) := by decide +kernel
theorem d_Ly_clear_35 : decode b_Ly_clear 35 = .ok (.aload_n 0, 1) := by decide +kernel
theorem d_Ly_clear_36 : decode b_Ly_clear 36 = .ok (.iconst (-1), 1) := by decide +kernel
theorem d_Ly_clear_37 : decode b_Ly_clear 37 = .ok (.putfield 98, 3) := by decide +kernel
theorem d_Ly_clear_40 : decode b_Ly_clear 40 = .ok (.aload_n 0, 1) := by decide +kernel
theorem d_Ly_clear_41 : decode b_Ly_clear 41 = .ok (.iconst 0, 1) := by decide +kernel
theorem d_Ly_clear_42 : decode b_Ly_clear 42 = .ok (.putfield 223, 3) := by decide +kernel
theorem d_Ly_clear_45 : decode b_Ly_clear 45 = .ok (.aload_n 0, 1) := by decide +kernel
theorem d_Ly_clear_46 : decode b_Ly_clear 46 = .ok (.iconst 0, 1) := by decide +kernel
theorem d_Ly_clear_47 : decode b_Ly_clear 47 = .ok (.putfield 227, 3) := by decide +kernel
theorem d_Ly_clear_50 : decode b_Ly_clear 50 = .ok (.return_, 1) := by decide +kernel
theorem d_Sy_asksForName_0 : decode b_Sy_asksForName 0 = .ok (.aload_n 0, 1) := by decide +kernel
theorem d_Sy_asksForName_1 : decode b_Sy_asksForName 1 = .ok (.getfield 18, 3) := by decide +kernel
theorem d_Sy_asksForName_4 : decode b_Sy_asksForName 4 = .ok (.iload_n 1, 1) := by decide +kernel
theorem d_Sy_asksForName_5 : decode b_Sy_asksForName 5 = .ok (.iaload, 1) := by decide +kernel
theorem d_Sy_asksForName_6 : decode b_Sy_asksForName 6 = .ok (.iconst 1, 1) := by decide +kernel
theorem d_Sy_asksForName_7 : decode b_Sy_asksForName 7 = .ok (.if_icmp .ne 16, 3) := by decide +kernel
theorem d_Sy_asksForName_10 : decode b_Sy_asksForName 10 = .ok (.aload_n 0, 1) := by decide +kernel
theorem d_Sy_asksForName_11 : decode b_Sy_asksForName 11 = .ok (.getfield 21, 3) := by decide +kernel
theorem d_Sy_asksForName_14 : decode b_Sy_asksForName 14 = .ok (.iload_n 1, 1) := by decide +kernel
theorem d_Sy_asksForName_15 : decode b_Sy_asksForName 15 = .ok (.iaload, 1) := by decide +kernel
theorem d_Sy_asksForName_16 : decode b_Sy_asksForName 16 = .ok (.ifCond .ne 7, 3) := by decide +kernel
theorem d_Sy_asksForName_19 : decode b_Sy_asksForName 19 = .ok (.iconst 1, 1) := by decide +kernel
theorem d_Sy_asksForName_20 : decode b_Sy_asksForName 20 = .ok (.goto 4, 3) := by decide +kernel
theorem d_Sy_asksForName_23 : decode b_Sy_asksForName 23 = .ok (.iconst 0, 1) := by decide +kernel
theorem d_Sy_asksForName_24 : decode b_Sy_asksForName 24 = .ok (.ireturn, 1) := by decide +kernel
theorem d_Sy_givesName_0 : decode b_Sy_givesName 0 = .ok (.aload_n 0, 1) := by decide +kernel
theorem d_Sy_givesName_1 : decode b_Sy_givesName 1 = .ok (.getfield 18, 3) := by decide +kernel
theorem d_Sy_givesName_4 : decode b_Sy_givesName 4 = .ok (.iload_n 1, 1) := by decide +kernel
theorem d_Sy_givesName_5 : decode b_Sy_givesName 5 = .ok (.iaload, 1) := by decide +kernel
theorem d_Sy_givesName_6 : decode b_Sy_givesName 6 = .ok (.ifCond .eq 16, 3) := by decide +kernel
theorem d_Sy_givesName_9 : decode b_Sy_givesName 9 = .ok (.aload_n 0, 1) := by decide +kernel
theorem d_Sy_givesName_10 : decode b_Sy_givesName 10 = .ok (.getfield 21, 3) := by decide +kernel
theorem d_Sy_givesName_13 : decode b_Sy_givesName 13 = .ok (.iload_n 1, 1) := by decide +kernel
theorem d_Sy_givesName_14 : decode b_Sy_givesName 14 = .ok (.iaload, 1) := by decide +kernel
theorem d_Sy_givesName_15 : decode b_Sy_givesName 15 = .ok (.ifCond .eq 7, 3) := by decide +kernel
theorem d_Sy_givesName_18 : decode b_Sy_givesName 18 = .ok (.iconst 1, 1) := by decide +kernel
theorem d_Sy_givesName_19 : decode b_Sy_givesName 19 = .ok (.goto 4, 3) := by decide +kernel
theorem d_Sy_givesName_22 : decode b_Sy_givesName 22 = .ok (.iconst 0, 1) := by decide +kernel
theorem d_Sy_givesName_23 : decode b_Sy_givesName 23 = .ok (.ireturn, 1) := by decide +kernel
theorem d_Ar_note_0 : decode b_Ar_note 0 = .ok (.aload_n 0, 1) := by decide +kernel
theorem d_Ar_note_1 : decode b_Ar_note 1 = .ok (.getfield 22, 3) := by decide +kernel
theorem d_Ar_note_4 : decode b_Ar_note 4 = .ok (.iload_n 1, 1) := by decide +kernel
theorem d_Ar_note_5 : decode b_Ar_note 5 = .ok (.invokevirtual 63, 3) := by decide +kernel
theorem d_Ar_note_8 : decode b_Ar_note 8 = .ok (.ifCond .eq 18, 3) := by decide +kernel
theorem d_Ar_note_11 : decode b_Ar_note 11 = .ok (.aload_n 0, 1) := by decide +kernel
theorem d_Ar_note_12 : decode b_Ar_note 12 = .ok (.getfield 9, 3) := by decide +kernel
theorem d_Ar_note_15 : decode b_Ar_note 15 = .ok (.aload_n 0, 1) := by decide +kernel
theorem d_Ar_note_16 : decode b_Ar_note 16 = .ok (.getfield 22, 3) := by decide +kernel
theorem d_Ar_note_19 : decode b_Ar_note 19 = .ok (.getfield 67, 3) := by decide +kernel
theorem d_Ar_note_22 : decode b_Ar_note 22 = .ok (.iload_n 1, 1) := by decide +kernel
theorem d_Ar_note_23 : decode b_Ar_note 23 = .ok (.iaload, 1) := by decide +kernel
theorem d_Ar_note_24 : decode b_Ar_note 24 = .ok (.iconst 1, 1) := by decide +kernel
theorem d_Ar_note_25 : decode b_Ar_note 25 = .ok (.bastore, 1) := by decide +kernel
theorem d_Ar_note_26 : decode b_Ar_note 26 = .ok (.aload_n 0, 1) := by decide +kernel
theorem d_Ar_note_27 : decode b_Ar_note 27 = .ok (.getfield 22, 3) := by decide +kernel
theorem d_Ar_note_30 : decode b_Ar_note 30 = .ok (.iload_n 1, 1) := by decide +kernel
theorem d_Ar_note_31 : decode b_Ar_note 31 = .ok (.invokevirtual 70, 3) := by decide +kernel
theorem d_Ar_note_34 : decode b_Ar_note 34 = .ok (.ifCond .eq 18, 3) := by decide +kernel
theorem d_Ar_note_37 : decode b_Ar_note 37 = .ok (.aload_n 0, 1) := by decide +kernel
theorem d_Ar_note_38 : decode b_Ar_note 38 = .ok (.getfield 15, 3) := by decide +kernel
theorem d_Ar_note_41 : decode b_Ar_note 41 = .ok (.aload_n 0, 1) := by decide +kernel
theorem d_Ar_note_42 : decode b_Ar_note 42 = .ok (.getfield 22, 3) := by decide +kernel
theorem d_Ar_note_45 : decode b_Ar_note 45 = .ok (.getfield 67, 3) := by decide +kernel
theorem d_Ar_note_48 : decode b_Ar_note 48 = .ok (.iload_n 1, 1) := by decide +kernel
theorem d_Ar_note_49 : decode b_Ar_note 49 = .ok (.iaload, 1) := by decide +kernel
theorem d_Ar_note_50 : decode b_Ar_note 50 = .ok (.iconst 1, 1) := by decide +kernel
theorem d_Ar_note_51 : decode b_Ar_note 51 = .ok (.bastore, 1) := by decide +kernel
theorem d_Ar_note_52 : decode b_Ar_note 52 = .ok (.return_, 1) := by decide +kernel
theorem d_Ar_admit_0 : decode b_Ar_admit 0 = .ok (.aload_n 0, 1) := by decide +kernel
theorem d_Ar_admit_1 : decode b_Ar_admit 1 = .ok (.getfield 18, 3) := by decide +kernel
theorem d_Ar_admit_4 : decode b_Ar_admit 4 = .ok (.getfield 40, 3) := by decide +kernel
theorem d_Ar_admit_7 : decode b_Ar_admit 7 = .ok (.iload_n 1, 1) := by decide +kernel
theorem d_Ar_admit_8 : decode b_Ar_admit 8 = .ok (.iconst 1, 1) := by decide +kernel
theorem d_Ar_admit_9 : decode b_Ar_admit 9 = .ok (.bastore, 1) := by decide +kernel
theorem d_Ar_admit_10 : decode b_Ar_admit 10 = .ok (.iconst 0, 1) := by decide +kernel
theorem d_Ar_admit_11 : decode b_Ar_admit 11 = .ok (.istore_n 2, 1) := by decide +kernel
theorem d_Ar_admit_12 : decode b_Ar_admit 12 = .ok (.iload_n 2, 1) := by decide +kernel
theorem d_Ar_admit_13 : decode b_Ar_admit 13 = .ok (.aload_n 0, 1) := by decide +kernel
theorem d_Ar_admit_14 : decode b_Ar_admit 14 = .ok (.getfield 22, 3) := by decide +kernel
theorem d_Ar_admit_17 : decode b_Ar_admit 17 = .ok (.getfield 54, 3) := by decide +kernel
theorem d_Ar_admit_20 : decode b_Ar_admit 20 = .ok (.if_icmp .ge 27, 3) := by decide +kernel
theorem d_Ar_admit_23 : decode b_Ar_admit 23 = .ok (.aload_n 0, 1) := by decide +kernel
theorem d_Ar_admit_24 : decode b_Ar_admit 24 = .ok (.getfield 22, 3) := by decide +kernel
theorem d_Ar_admit_27 : decode b_Ar_admit 27 = .ok (.getfield 57, 3) := by decide +kernel
theorem d_Ar_admit_30 : decode b_Ar_admit 30 = .ok (.iload_n 2, 1) := by decide +kernel
theorem d_Ar_admit_31 : decode b_Ar_admit 31 = .ok (.iaload, 1) := by decide +kernel
theorem d_Ar_admit_32 : decode b_Ar_admit 32 = .ok (.iload_n 1, 1) := by decide +kernel
theorem d_Ar_admit_33 : decode b_Ar_admit 33 = .ok (.if_icmp .ne 8, 3) := by decide +kernel
theorem d_Ar_admit_36 : decode b_Ar_admit 36 = .ok (.aload_n 0, 1) := by decide +kernel
theorem d_Ar_admit_37 : decode b_Ar_admit 37 = .ok (.iload_n 2, 1) := by decide +kernel
theorem d_Ar_admit_38 : decode b_Ar_admit 38 = .ok (.invokevirtual 60, 3) := by decide +kernel
theorem d_Ar_admit_41 : decode b_Ar_admit 41 = .ok (.iinc 2 1, 3) := by decide +kernel
theorem d_Ar_admit_44 : decode b_Ar_admit 44 = .ok (.goto (-32), 3) := by decide +kernel
theorem d_Ar_admit_47 : decode b_Ar_admit 47 = .ok (.return_, 1) := by decide +kernel
theorem d_Ar_begin_0 : decode b_Ar_begin 0 = .ok (.iconst 0, 1) := by decide +kernel
theorem d_Ar_begin_1 : decode b_Ar_begin 1 = .ok (.istore_n 2, 1) := by decide +kernel
theorem d_Ar_begin_2 : decode b_Ar_begin 2 = .ok (.iload_n 2, 1) := by decide +kernel
theorem d_Ar_begin_3 : decode b_Ar_begin 3 = .ok (.sipush 200, 3) := by decide +kernel
theorem d_Ar_begin_6 : decode b_Ar_begin 6 = .ok (.if_icmp .ge 32, 3) := by decide +kernel
theorem d_Ar_begin_9 : decode b_Ar_begin 9 = .ok (.aload_n 0, 1) := by decide +kernel
theorem d_Ar_begin_10 : decode b_Ar_begin 10 = .ok (.getfield 9, 3) := by decide +kernel
theorem d_Ar_begin_13 : decode b_Ar_begin 13 = .ok (.iload_n 2, 1) := by decide +kernel
theorem d_Ar_begin_14 : decode b_Ar_begin 14 = .ok (.iload_n 2, 1) := by decide +kernel
theorem d_Ar_begin_15 : decode b_Ar_begin 15 = .ok (.iload_n 1, 1) := by decide +kernel
theorem d_Ar_begin_16 : decode b_Ar_begin 16 = .ok (.if_icmp .ne 7, 3) := by decide +kernel
theorem d_Ar_begin_19 : decode b_Ar_begin 19 = .ok (.iconst 1, 1) := by decide +kernel
theorem d_Ar_begin_20 : decode b_Ar_begin 20 = .ok (.goto 4, 3) := by decide +kernel
theorem d_Ar_begin_23 : decode b_Ar_begin 23 = .ok (.iconst 0, 1) := by decide +kernel
theorem d_Ar_begin_24 : decode b_Ar_begin 24 = .ok (.bastore, 1) := by decide +kernel
theorem d_Ar_begin_25 : decode b_Ar_begin 25 = .ok (.aload_n 0, 1) := by decide +kernel
theorem d_Ar_begin_26 : decode b_Ar_begin 26 = .ok (.getfield 15, 3) := by decide +kernel
theorem d_Ar_begin_29 : decode b_Ar_begin 29 = .ok (.iload_n 2, 1) := by decide +kernel
theorem d_Ar_begin_30 : decode b_Ar_begin 30 = .ok (.iconst 0, 1) := by decide +kernel
theorem d_Ar_begin_31 : decode b_Ar_begin 31 = .ok (.bastore, 1) := by decide +kernel
theorem d_Ar_begin_32 : decode b_Ar_begin 32 = .ok (.iinc 2 1, 3) := by decide +kernel
theorem d_Ar_begin_35 : decode b_Ar_begin 35 = .ok (.goto (-33), 3) := by decide +kernel
theorem d_Ar_begin_38 : decode b_Ar_begin 38 = .ok (.iconst 0, 1) := by decide +kernel
theorem d_Ar_begin_39 : decode b_Ar_begin 39 = .ok (.istore_n 2, 1) := by decide +kernel
theorem d_Ar_begin_40 : decode b_Ar_begin 40 = .ok (.iload_n 2, 1) := by decide +kernel
theorem d_Ar_begin_41 : decode b_Ar_begin 41 = .ok (.aload_n 0, 1) := by decide +kernel
theorem d_Ar_begin_42 : decode b_Ar_begin 42 = .ok (.getfield 18, 3) := by decide +kernel
theorem d_Ar_begin_45 : decode b_Ar_begin 45 = .ok (.getfield 34, 3) := by decide +kernel
theorem d_Ar_begin_48 : decode b_Ar_begin 48 = .ok (.if_icmp .ge 19, 3) := by decide +kernel
theorem d_Ar_begin_51 : decode b_Ar_begin 51 = .ok (.aload_n 0, 1) := by decide +kernel
theorem d_Ar_begin_52 : decode b_Ar_begin 52 = .ok (.getfield 18, 3) := by decide +kernel
theorem d_Ar_begin_55 : decode b_Ar_begin 55 = .ok (.getfield 40, 3) := by decide +kernel
theorem d_Ar_begin_58 : decode b_Ar_begin 58 = .ok (.iload_n 2, 1) := by decide +kernel
theorem d_Ar_begin_59 : decode b_Ar_begin 59 = .ok (.iconst 0, 1) := by decide +kernel
theorem d_Ar_begin_60 : decode b_Ar_begin 60 = .ok (.bastore, 1) := by decide +kernel
theorem d_Ar_begin_61 : decode b_Ar_begin 61 = .ok (.iinc 2 1, 3) := by decide +kernel
theorem d_Ar_begin_64 : decode b_Ar_begin 64 = .ok (.goto (-24), 3) := by decide +kernel
theorem d_Ar_begin_67 : decode b_Ar_begin 67 = .ok (.iconst 0, 1) := by decide +kernel
theorem d_Ar_begin_68 : decode b_Ar_begin 68 = .ok (.istore_n 2, 1) := by decide +kernel
theorem d_Ar_begin_69 : decode b_Ar_begin 69 = .ok (.iload_n 2, 1) := by decide +kernel
theorem d_Ar_begin_70 : decode b_Ar_begin 70 = .ok (.aload_n 0, 1) := by decide +kernel
theorem d_Ar_begin_71 : decode b_Ar_begin 71 = .ok (.getfield 18, 3) := by decide +kernel
theorem d_Ar_begin_74 : decode b_Ar_begin 74 = .ok (.getfield 34, 3) := by decide +kernel
theorem d_Ar_begin_77 : decode b_Ar_begin 77 = .ok (.if_icmp .ge 27, 3) := by decide +kernel
theorem d_Ar_begin_80 : decode b_Ar_begin 80 = .ok (.aload_n 0, 1) := by decide +kernel
theorem d_Ar_begin_81 : decode b_Ar_begin 81 = .ok (.getfield 18, 3) := by decide +kernel
theorem d_Ar_begin_84 : decode b_Ar_begin 84 = .ok (.getfield 43, 3) := by decide +kernel
theorem d_Ar_begin_87 : decode b_Ar_begin 87 = .ok (.iload_n 2, 1) := by decide +kernel
theorem d_Ar_begin_88 : decode b_Ar_begin 88 = .ok (.iaload, 1) := by decide +kernel
theorem d_Ar_begin_89 : decode b_Ar_begin 89 = .ok (.iconst (-1), 1) := by decide +kernel
theorem d_Ar_begin_90 : decode b_Ar_begin 90 = .ok (.if_icmp .ne 8, 3) := by decide +kernel
theorem d_Ar_begin_93 : decode b_Ar_begin 93 = .ok (.aload_n 0, 1) := by decide +kernel
theorem d_Ar_begin_94 : decode b_Ar_begin 94 = .ok (.iload_n 2, 1) := by decide +kernel
theorem d_Ar_begin_95 : decode b_Ar_begin 95 = .ok (.invokevirtual 47, 3) := by decide +kernel
theorem d_Ar_begin_98 : decode b_Ar_begin 98 = .ok (.iinc 2 1, 3) := by decide +kernel
theorem d_Ar_begin_101 : decode b_Ar_begin 101 = .ok (.goto (-32), 3) := by decide +kernel
theorem d_Ar_begin_104 : decode b_Ar_begin 104 = .ok (.return_, 1) := by decide +kernel
theorem d_Ar_isNeeded_0 : decode b_Ar_isNeeded 0 = .ok (.aload_n 0, 1) := by decide +kernel
theorem d_Ar_isNeeded_1 : decode b_Ar_isNeeded 1 = .ok (.getfield 22, 3) := by decide +kernel
theorem d_Ar_isNeeded_4 : decode b_Ar_isNeeded 4 = .ok (.getfield 67, 3) := by decide +kernel
theorem d_Ar_isNeeded_7 : decode b_Ar_isNeeded 7 = .ok (.iload_n 1, 1) := by decide +kernel
theorem d_Ar_isNeeded_8 : decode b_Ar_isNeeded 8 = .ok (.iaload, 1) := by decide +kernel
theorem d_Ar_isNeeded_9 : decode b_Ar_isNeeded 9 = .ok (.istore_n 2, 1) := by decide +kernel
theorem d_Ar_isNeeded_10 : decode b_Ar_isNeeded 10 = .ok (.aload_n 0, 1) := by decide +kernel
theorem d_Ar_isNeeded_11 : decode b_Ar_isNeeded 11 = .ok (.getfield 22, 3) := by decide +kernel
theorem d_Ar_isNeeded_14 : decode b_Ar_isNeeded 14 = .ok (.iload_n 1, 1) := by decide +kernel
theorem d_Ar_isNeeded_15 : decode b_Ar_isNeeded 15 = .ok (.invokevirtual 70, 3) := by decide +kernel
theorem d_Ar_isNeeded_18 : decode b_Ar_isNeeded 18 = .ok (.ifCond .eq 38, 3) := by decide +kernel
theorem d_Ar_isNeeded_21 : decode b_Ar_isNeeded 21 = .ok (.aload_n 0, 1) := by decide +kernel
theorem d_Ar_isNeeded_22 : decode b_Ar_isNeeded 22 = .ok (.getfield 22, 3) := by decide +kernel
theorem d_Ar_isNeeded_25 : decode b_Ar_isNeeded 25 = .ok (.getfield 76, 3) := by decide +kernel
theorem d_Ar_isNeeded_28 : decode b_Ar_isNeeded 28 = .ok (.iload_n 1, 1) := by decide +kernel
theorem d_Ar_isNeeded_29 : decode b_Ar_isNeeded 29 = .ok (.iaload, 1) := by decide +kernel
theorem d_Ar_isNeeded_30 : decode b_Ar_isNeeded 30 = .ok (.iconst 2, 1) := by decide +kernel
theorem d_Ar_isNeeded_31 : decode b_Ar_isNeeded 31 = .ok (.if_icmp .eq 25, 3) := by decide +kernel
theorem d_Ar_isNeeded_34 : decode b_Ar_isNeeded 34 = .ok (.aload_n 0, 1) := by decide +kernel
theorem d_Ar_isNeeded_35 : decode b_Ar_isNeeded 35 = .ok (.getfield 9, 3) := by decide +kernel
theorem d_Ar_isNeeded_38 : decode b_Ar_isNeeded 38 = .ok (.iload_n 2, 1) := by decide +kernel
theorem d_Ar_isNeeded_39 : decode b_Ar_isNeeded 39 = .ok (.baload, 1) := by decide +kernel
theorem d_Ar_isNeeded_40 : decode b_Ar_isNeeded 40 = .ok (.ifCond .eq 16, 3) := by decide +kernel
theorem d_Ar_isNeeded_43 : decode b_Ar_isNeeded 43 = .ok (.aload_n 0, 1) := by decide +kernel
theorem d_Ar_isNeeded_44 : decode b_Ar_isNeeded 44 = .ok (.getfield 15, 3) := by decide +kernel
theorem d_Ar_isNeeded_47 : decode b_Ar_isNeeded 47 = .ok (.iload_n 2, 1) := by decide +kernel
theorem d_Ar_isNeeded_48 : decode b_Ar_isNeeded 48 = .ok (.baload, 1) := by decide +kernel
theorem d_Ar_isNeeded_49 : decode b_Ar_isNeeded 49 = .ok (.ifCond .ne 7, 3) := by decide +kernel
theorem d_Ar_isNeeded_52 : decode b_Ar_isNeeded 52 = .ok (.iconst 1, 1) := by decide +kernel
theorem d_Ar_isNeeded_53 : decode b_Ar_isNeeded 53 = .ok (.goto 4, 3) := by decide +kernel
theorem d_Ar_isNeeded_56 : decode b_Ar_isNeeded 56 = .ok (.iconst 0, 1) := by decide +kernel
theorem d_Ar_isNeeded_57 : decode b_Ar_isNeeded 57 = .ok (.ireturn, 1) := by decide +kernel
theorem d_Ar_firstNeeded_0 : decode b_Ar_firstNeeded 0 = .ok (.iconst (-1), 1) := by decide +kernel
theorem d_Ar_firstNeeded_1 : decode b_Ar_firstNeeded 1 = .ok (.istore_n 2, 1) := by decide +kernel
theorem d_Ar_firstNeeded_2 : decode b_Ar_firstNeeded 2 = .ok (.iconst 0, 1) := by decide +kernel
theorem d_Ar_firstNeeded_3 : decode b_Ar_firstNeeded 3 = .ok (.istore_n 3, 1) := by decide +kernel
theorem d_Ar_firstNeeded_4 : decode b_Ar_firstNeeded 4 = .ok (.iload_n 3, 1) := by decide +kernel
theorem d_Ar_firstNeeded_5 : decode b_Ar_firstNeeded 5 = .ok (.aload_n 0, 1) := by decide +kernel
theorem d_Ar_firstNeeded_6 : decode b_Ar_firstNeeded 6 = .ok (.getfield 22, 3) := by decide +kernel
theorem d_Ar_firstNeeded_9 : decode b_Ar_firstNeeded 9 = .ok (.getfield 54, 3) := by decide +kernel
theorem d_Ar_firstNeeded_12 : decode b_Ar_firstNeeded 12 = .ok (.if_icmp .ge 81, 3) := by decide +kernel
theorem d_Ar_firstNeeded_15 : decode b_Ar_firstNeeded 15 = .ok (.aload_n 0, 1) := by decide +kernel
theorem d_Ar_firstNeeded_16 : decode b_Ar_firstNeeded 16 = .ok (.getfield 22, 3) := by decide +kernel
theorem d_Ar_firstNeeded_19 : decode b_Ar_firstNeeded 19 = .ok (.getfield 57, 3) := by decide +kernel
theorem d_Ar_firstNeeded_22 : decode b_Ar_firstNeeded 22 = .ok (.iload_n 3, 1) := by decide +kernel
theorem d_Ar_firstNeeded_23 : decode b_Ar_firstNeeded 23 = .ok (.iaload, 1) := by decide +kernel
theorem d_Ar_firstNeeded_24 : decode b_Ar_firstNeeded 24 = .ok (.istore 4, 2) := by decide +kernel
theorem d_Ar_firstNeeded_26 : decode b_Ar_firstNeeded 26 = .ok (.aload_n 0, 1) := by decide +kernel
theorem d_Ar_firstNeeded_27 : decode b_Ar_firstNeeded 27 = .ok (.getfield 18, 3) := by decide +kernel
theorem d_Ar_firstNeeded_30 : decode b_Ar_firstNeeded 30 = .ok (.getfield 43, 3) := by decide +kernel
theorem d_Ar_firstNeeded_33 : decode b_Ar_firstNeeded 33 = .ok (.iload 4, 2) := by decide +kernel
theorem d_Ar_firstNeeded_35 : decode b_Ar_firstNeeded 35 = .ok (.iaload, 1) := by decide +kernel
theorem d_Ar_firstNeeded_36 : decode b_Ar_firstNeeded 36 = .ok (.iload_n 1, 1) := by decide +kernel
theorem d_Ar_firstNeeded_37 : decode b_Ar_firstNeeded 37 = .ok (.if_icmp .ne 20, 3) := by decide +kernel
theorem d_Ar_firstNeeded_40 : decode b_Ar_firstNeeded 40 = .ok (.aload_n 0, 1) := by decide +kernel
theorem d_Ar_firstNeeded_41 : decode b_Ar_firstNeeded 41 = .ok (.getfield 18, 3) := by decide +kernel
theorem d_Ar_firstNeeded_44 : decode b_Ar_firstNeeded 44 = .ok (.getfield 40, 3) := by decide +kernel
theorem d_Ar_firstNeeded_47 : decode b_Ar_firstNeeded 47 = .ok (.iload 4, 2) := by decide +kernel
theorem d_Ar_firstNeeded_49 : decode b_Ar_firstNeeded 49 = .ok (.baload, 1) := by decide +kernel
theorem d_Ar_firstNeeded_50 : decode b_Ar_firstNeeded 50 = .ok (.ifCond .ne 7, 3) := by decide +kernel
theorem d_Ar_firstNeeded_53 : decode b_Ar_firstNeeded 53 = .ok (.iconst 1, 1) := by decide +kernel
theorem d_Ar_firstNeeded_54 : decode b_Ar_firstNeeded 54 = .ok (.goto 4, 3) := by decide +kernel
theorem d_Ar_firstNeeded_57 : decode b_Ar_firstNeeded 57 = .ok (.iconst 0, 1) := by decide +kernel
theorem d_Ar_firstNeeded_58 : decode b_Ar_firstNeeded 58 = .ok (.istore 5, 2) := by decide +kernel
theorem d_Ar_firstNeeded_60 : decode b_Ar_firstNeeded 60 = .ok (.iload 5, 2) := by decide +kernel
theorem d_Ar_firstNeeded_62 : decode b_Ar_firstNeeded 62 = .ok (.ifCond .eq 25, 3) := by decide +kernel
theorem d_Ar_firstNeeded_65 : decode b_Ar_firstNeeded 65 = .ok (.aload_n 0, 1) := by decide +kernel
theorem d_Ar_firstNeeded_66 : decode b_Ar_firstNeeded 66 = .ok (.iload_n 3, 1) := by decide +kernel
theorem d_Ar_firstNeeded_67 : decode b_Ar_firstNeeded 67 = .ok (.invokevirtual 73, 3) := by decide +kernel
theorem d_Ar_firstNeeded_70 : decode b_Ar_firstNeeded 70 = .ok (.ifCond .eq 17, 3) := by decide +kernel
theorem d_Ar_firstNeeded_73 : decode b_Ar_firstNeeded 73 = .ok (.iload_n 2, 1) := by decide +kernel
theorem d_Ar_firstNeeded_74 : decode b_Ar_firstNeeded 74 = .ok (.iconst (-1), 1) := by decide +kernel
theorem d_Ar_firstNeeded_75 : decode b_Ar_firstNeeded 75 = .ok (.if_icmp .eq 9, 3) := by decide +kernel
theorem d_Ar_firstNeeded_78 : decode b_Ar_firstNeeded 78 = .ok (.iload 4, 2) := by decide +kernel
theorem d_Ar_firstNeeded_80 : decode b_Ar_firstNeeded 80 = .ok (.iload_n 2, 1) := by decide +kernel
theorem d_Ar_firstNeeded_81 : decode b_Ar_firstNeeded 81 = .ok (.if_icmp .ge 6, 3) := by decide +kernel
theorem d_Ar_firstNeeded_84 : decode b_Ar_firstNeeded 84 = .ok (.iload 4, 2) := by decide +kernel
theorem d_Ar_firstNeeded_86 : decode b_Ar_firstNeeded 86 = .ok (.istore_n 2, 1) := by decide +kernel
theorem d_Ar_firstNeeded_87 : decode b_Ar_firstNeeded 87 = .ok (.iinc 3 1, 3) := by decide +kernel
theorem d_Ar_firstNeeded_90 : decode b_Ar_firstNeeded 90 = .ok (.goto (-86), 3) := by decide +kernel
theorem d_Ar_firstNeeded_93 : decode b_Ar_firstNeeded 93 = .ok (.iload_n 2, 1) := by decide +kernel
theorem d_Ar_firstNeeded_94 : decode b_Ar_firstNeeded 94 = .ok (.ireturn, 1) := by decide +kernel
theorem d_Ar_goThroughArchives_0 : decode b_Ar_goThroughArchives 0 = .ok (.iconst 0, 1) := by decide +kernel
theorem d_Ar_goThroughArchives_1 : decode b_Ar_goThroughArchives 1 = .ok (.istore_n 1, 1) := by decide +kernel
theorem d_Ar_goThroughArchives_2 : decode b_Ar_goThroughArchives 2 = .ok (.iconst 0, 1) := by decide +kernel
theorem d_Ar_goThroughArchives_3 : decode b_Ar_goThroughArchives 3 = .ok (.istore_n 2, 1) := by decide +kernel
theorem d_Ar_goThroughArchives_4 : decode b_Ar_goThroughArchives 4 = .ok (.iload_n 2, 1) := by decide +kernel
theorem d_Ar_goThroughArchives_5 : decode b_Ar_goThroughArchives 5 = .ok (.iconst 4, 1) := by decide +kernel
theorem d_Ar_goThroughArchives_6 : decode b_Ar_goThroughArchives 6 = .ok (.if_icmp .ge 47, 3) := by decide +kernel
theorem d_Ar_goThroughArchives_9 : decode b_Ar_goThroughArchives 9 = .ok (.iconst 0, 1) := by decide +kernel
theorem d_Ar_goThroughArchives_10 : decode b_Ar_goThroughArchives 10 = .ok (.istore_n 3, 1) := by decide +kernel
theorem d_Ar_goThroughArchives_11 : decode b_Ar_goThroughArchives 11 = .ok (.iload_n 3, 1) := by decide +kernel
theorem d_Ar_goThroughArchives_12 : decode b_Ar_goThroughArchives 12 = .ok (.bipush 24, 2) := by decide +kernel
theorem d_Ar_goThroughArchives_14 : decode b_Ar_goThroughArchives 14 = .ok (.if_icmp .ge 33, 3) := by decide +kernel
theorem d_Ar_goThroughArchives_17 : decode b_Ar_goThroughArchives 17 = .ok (.aload_n 0, 1) := by decide +kernel
theorem d_Ar_goThroughArchives_18 : decode b_Ar_goThroughArchives 18 = .ok (.iload_n 2, 1) := by decide +kernel
theorem d_Ar_goThroughArchives_19 : decode b_Ar_goThroughArchives 19 = .ok (.invokevirtual 50, 3) := by decide +kernel
theorem d_Ar_goThroughArchives_22 : decode b_Ar_goThroughArchives 22 = .ok (.istore 4, 2) := by decide +kernel
theorem d_Ar_goThroughArchives_24 : decode b_Ar_goThroughArchives 24 = .ok (.iload 4, 2) := by decide +kernel
theorem d_Ar_goThroughArchives_26 : decode b_Ar_goThroughArchives 26 = .ok (.iconst (-1), 1) := by decide +kernel
theorem d_Ar_goThroughArchives_27 : decode b_Ar_goThroughArchives 27 = .ok (.if_icmp .ne 6, 3) := by decide +kernel
theorem d_Ar_goThroughArchives_30 : decode b_Ar_goThroughArchives 30 = .ok (.goto 17, 3) := by decide +kernel
theorem d_Ar_goThroughArchives_33 : decode b_Ar_goThroughArchives 33 = .ok (.aload_n 0, 1) := by decide +kernel
theorem d_Ar_goThroughArchives_34 : decode b_Ar_goThroughArchives 34 = .ok (.iload 4, 2) := by decide +kernel
theorem d_Ar_goThroughArchives_36 : decode b_Ar_goThroughArchives 36 = .ok (.invokevirtual 47, 3) := by decide +kernel
theorem d_Ar_goThroughArchives_39 : decode b_Ar_goThroughArchives 39 = .ok (.iconst 1, 1) := by decide +kernel
theorem d_Ar_goThroughArchives_40 : decode b_Ar_goThroughArchives 40 = .ok (.istore_n 1, 1) := by decide +kernel
theorem d_Ar_goThroughArchives_41 : decode b_Ar_goThroughArchives 41 = .ok (.iinc 3 1, 3) := by decide +kernel
theorem d_Ar_goThroughArchives_44 : decode b_Ar_goThroughArchives 44 = .ok (.goto (-33), 3) := by decide +kernel
theorem d_Ar_goThroughArchives_47 : decode b_Ar_goThroughArchives 47 = .ok (.iinc 2 1, 3) := by decide +kernel
theorem d_Ar_goThroughArchives_50 : decode b_Ar_goThroughArchives 50 = .ok (.goto (-46), 3) := by decide +kernel
theorem d_Ar_goThroughArchives_53 : decode b_Ar_goThroughArchives 53 = .ok (.iload_n 1, 1) := by decide +kernel
theorem d_Ar_goThroughArchives_54 : decode b_Ar_goThroughArchives 54 = .ok (.ireturn, 1) := by decide +kernel
theorem d_Ar_bringIn_0 : decode b_Ar_bringIn 0 = .ok (.aload_n 0, 1) := by decide +kernel
theorem d_Ar_bringIn_1 : decode b_Ar_bringIn 1 = .ok (.iload_n 1, 1) := by decide +kernel
theorem d_Ar_bringIn_2 : decode b_Ar_bringIn 2 = .ok (.invokevirtual 26, 3) := by decide +kernel
theorem d_Ar_bringIn_5 : decode b_Ar_bringIn 5 = .ok (.iload_n 2, 1) := by decide +kernel
theorem d_Ar_bringIn_6 : decode b_Ar_bringIn 6 = .ok (.ifCond .eq 8, 3) := by decide +kernel
theorem d_Ar_bringIn_9 : decode b_Ar_bringIn 9 = .ok (.bipush 25, 2) := by decide +kernel
theorem d_Ar_bringIn_11 : decode b_Ar_bringIn 11 = .ok (.goto 4, 3) := by decide +kernel
theorem d_Ar_bringIn_14 : decode b_Ar_bringIn 14 = .ok (.iconst 1, 1) := by decide +kernel
theorem d_Ar_bringIn_15 : decode b_Ar_bringIn 15 = .ok (.istore_n 3, 1) := by decide +kernel
theorem d_Ar_bringIn_16 : decode b_Ar_bringIn 16 = .ok (.iconst 0, 1) := by decide +kernel
theorem d_Ar_bringIn_17 : decode b_Ar_bringIn 17 = .ok (.istore 4, 2) := by decide +kernel
theorem d_Ar_bringIn_19 : decode b_Ar_bringIn 19 = .ok (.iload 4, 2) := by decide +kernel
theorem d_Ar_bringIn_21 : decode b_Ar_bringIn 21 = .ok (.iload_n 3, 1) := by decide +kernel
theorem d_Ar_bringIn_22 : decode b_Ar_bringIn 22 = .ok (.if_icmp .ge 19, 3) := by decide +kernel
theorem d_Ar_bringIn_25 : decode b_Ar_bringIn 25 = .ok (.aload_n 0, 1) := by decide +kernel
theorem d_Ar_bringIn_26 : decode b_Ar_bringIn 26 = .ok (.invokevirtual 30, 3) := by decide +kernel
theorem d_Ar_bringIn_29 : decode b_Ar_bringIn 29 = .ok (.ifCond .ne 6, 3) := by decide +kernel
theorem d_Ar_bringIn_32 : decode b_Ar_bringIn 32 = .ok (.goto 9, 3) := by decide +kernel
theorem d_Ar_bringIn_35 : decode b_Ar_bringIn 35 = .ok (.iinc 4 1, 3) := by decide +kernel
theorem d_Ar_bringIn_38 : decode b_Ar_bringIn 38 = .ok (.goto (-19), 3) := by decide +kernel
theorem d_Ar_bringIn_41 : decode b_Ar_bringIn 41 = .ok (.return_, 1) := by decide +kernel
theorem d_Na_isCommon_0 : decode b_Na_isCommon 0 = .ok (.aload_n 0, 1) := by decide +kernel
theorem d_Na_isCommon_1 : decode b_Na_isCommon 1 = .ok (.getfield 9, 3) := by decide +kernel
theorem d_Na_isCommon_4 : decode b_Na_isCommon 4 = .ok (.iload_n 1, 1) := by decide +kernel
theorem d_Na_isCommon_5 : decode b_Na_isCommon 5 = .ok (.iaload, 1) := by decide +kernel
theorem d_Na_isCommon_6 : decode b_Na_isCommon 6 = .ok (.iconst (-1), 1) := by decide +kernel
theorem d_Na_isCommon_7 : decode b_Na_isCommon 7 = .ok (.if_icmp .ne 16, 3) := by decide +kernel
theorem d_Na_isCommon_10 : decode b_Na_isCommon 10 = .ok (.aload_n 0, 1) := by decide +kernel
theorem d_Na_isCommon_11 : decode b_Na_isCommon 11 = .ok (.getfield 18, 3) := by decide +kernel
theorem d_Na_isCommon_14 : decode b_Na_isCommon 14 = .ok (.iload_n 1, 1) := by decide +kernel
theorem d_Na_isCommon_15 : decode b_Na_isCommon 15 = .ok (.iaload, 1) := by decide +kernel
theorem d_Na_isCommon_16 : decode b_Na_isCommon 16 = .ok (.ifCond .le 7, 3) := by decide +kernel
theorem d_Na_isCommon_19 : decode b_Na_isCommon 19 = .ok (.iconst 1, 1) := by decide +kernel
theorem d_Na_isCommon_20 : decode b_Na_isCommon 20 = .ok (.goto 4, 3) := by decide +kernel
theorem d_Na_isCommon_23 : decode b_Na_isCommon 23 = .ok (.iconst 0, 1) := by decide +kernel
theorem d_Na_isCommon_24 : decode b_Na_isCommon 24 = .ok (.ireturn, 1) := by decide +kernel
theorem d_Na_definer_0 : decode b_Na_definer 0 = .ok (.aload_n 0, 1) := by decide +kernel
theorem d_Na_definer_1 : decode b_Na_definer 1 = .ok (.getfield 9, 3) := by decide +kernel
theorem d_Na_definer_4 : decode b_Na_definer 4 = .ok (.iload_n 1, 1) := by decide +kernel
theorem d_Na_definer_5 : decode b_Na_definer 5 = .ok (.iaload, 1) := by decide +kernel
theorem d_Na_definer_6 : decode b_Na_definer 6 = .ok (.iconst (-1), 1) := by decide +kernel
theorem d_Na_definer_7 : decode b_Na_definer 7 = .ok (.if_icmp .eq 10, 3) := by decide +kernel
theorem d_Na_definer_10 : decode b_Na_definer 10 = .ok (.aload_n 0, 1) := by decide +kernel
theorem d_Na_definer_11 : decode b_Na_definer 11 = .ok (.getfield 9, 3) := by decide +kernel
theorem d_Na_definer_14 : decode b_Na_definer 14 = .ok (.iload_n 1, 1) := by decide +kernel
theorem d_Na_definer_15 : decode b_Na_definer 15 = .ok (.iaload, 1) := by decide +kernel
theorem d_Na_definer_16 : decode b_Na_definer 16 = .ok (.ireturn, 1) := by decide +kernel
theorem d_Na_definer_17 : decode b_Na_definer 17 = .ok (.aload_n 0, 1) := by decide +kernel
theorem d_Na_definer_18 : decode b_Na_definer 18 = .ok (.iload_n 1, 1) := by decide +kernel
theorem d_Na_definer_19 : decode b_Na_definer 19 = .ok (.invokevirtual 93, 3) := by decide +kernel
theorem d_Na_definer_22 : decode b_Na_definer 22 = .ok (.ifCond .eq 7, 3) := by decide +kernel
theorem d_Na_definer_25 : decode b_Na_definer 25 = .ok (.iconst (-1), 1) := by decide +kernel
theorem d_Na_definer_26 : decode b_Na_definer 26 = .ok (.goto 9, 3) := by decide +kernel
theorem d_Na_definer_29 : decode b_Na_definer 29 = .ok (.aload_n 0, 1) := by decide +kernel
theorem d_Na_definer_30 : decode b_Na_definer 30 = .ok (.getfield 15, 3) := by decide +kernel
theorem d_Na_definer_33 : decode b_Na_definer 33 = .ok (.iload_n 1, 1) := by decide +kernel
theorem d_Na_definer_34 : decode b_Na_definer 34 = .ok (.iaload, 1) := by decide +kernel
theorem d_Na_definer_35 : decode b_Na_definer 35 = .ok (.ireturn, 1) := by decide +kernel
theorem d_Na_isDefined_0 : decode b_Na_isDefined 0 = .ok (.aload_n 0, 1) := by decide +kernel
theorem d_Na_isDefined_1 : decode b_Na_isDefined 1 = .ok (.iload_n 1, 1) := by decide +kernel
theorem d_Na_isDefined_2 : decode b_Na_isDefined 2 = .ok (.invokevirtual 93, 3) := by decide +kernel
theorem d_Na_isDefined_5 : decode b_Na_isDefined 5 = .ok (.ifCond .ne 12, 3) := by decide +kernel
theorem d_Na_isDefined_8 : decode b_Na_isDefined 8 = .ok (.aload_n 0, 1) := by decide +kernel
theorem d_Na_isDefined_9 : decode b_Na_isDefined 9 = .ok (.iload_n 1, 1) := by decide +kernel
theorem d_Na_isDefined_10 : decode b_Na_isDefined 10 = .ok (.invokevirtual 96, 3) := by decide +kernel
theorem d_Na_isDefined_13 : decode b_Na_isDefined 13 = .ok (.iconst (-1), 1) := by decide +kernel
theorem d_Na_isDefined_14 : decode b_Na_isDefined 14 = .ok (.if_icmp .eq 7, 3) := by decide +kernel
theorem d_Na_isDefined_17 : decode b_Na_isDefined 17 = .ok (.iconst 1, 1) := by decide +kernel
theorem d_Na_isDefined_18 : decode b_Na_isDefined 18 = .ok (.goto 4, 3) := by decide +kernel
theorem d_Na_isDefined_21 : decode b_Na_isDefined 21 = .ok (.iconst 0, 1) := by decide +kernel
theorem d_Na_isDefined_22 : decode b_Na_isDefined 22 = .ok (.ireturn, 1) := by decide +kernel
theorem d_Na_sectionOf_0 : decode b_Na_sectionOf 0 = .ok (.aload_n 0, 1) := by decide +kernel
theorem d_Na_sectionOf_1 : decode b_Na_sectionOf 1 = .ok (.iload_n 1, 1) := by decide +kernel
theorem d_Na_sectionOf_2 : decode b_Na_sectionOf 2 = .ok (.invokevirtual 96, 3) := by decide +kernel
theorem d_Na_sectionOf_5 : decode b_Na_sectionOf 5 = .ok (.istore_n 2, 1) := by decide +kernel
theorem d_Na_sectionOf_6 : decode b_Na_sectionOf 6 = .ok (.iload_n 2, 1) := by decide +kernel
theorem d_Na_sectionOf_7 : decode b_Na_sectionOf 7 = .ok (.iconst (-1), 1) := by decide +kernel
theorem d_Na_sectionOf_8 : decode b_Na_sectionOf 8 = .ok (.if_icmp .ne 7, 3) := by decide +kernel
theorem d_Na_sectionOf_11 : decode b_Na_sectionOf 11 = .ok (.iconst (-1), 1) := by decide +kernel
theorem d_Na_sectionOf_12 : decode b_Na_sectionOf 12 = .ok (.goto 12, 3) := by decide +kernel
theorem d_Na_sectionOf_15 : decode b_Na_sectionOf 15 = .ok (.aload_n 0, 1) := by decide +kernel
theorem d_Na_sectionOf_16 : decode b_Na_sectionOf 16 = .ok (.getfield 34, 3) := by decide +kernel
theorem d_Na_sectionOf_19 : decode b_Na_sectionOf 19 = .ok (.getfield 100, 3) := by decide +kernel
theorem d_Na_sectionOf_22 : decode b_Na_sectionOf 22 = .ok (.iload_n 2, 1) := by decide +kernel
theorem d_Na_sectionOf_23 : decode b_Na_sectionOf 23 = .ok (.iaload, 1) := by decide +kernel
theorem d_Na_sectionOf_24 : decode b_Na_sectionOf 24 = .ok (.ireturn, 1) := by decide +kernel
theorem d_Na_setMeaning_0 : decode b_Na_setMeaning 0 = .ok (.aload_n 0, 1) := by decide +kernel
theorem d_Na_setMeaning_1 : decode b_Na_setMeaning 1 = .ok (.getfield 21, 3) := by decide +kernel
theorem d_Na_setMeaning_4 : decode b_Na_setMeaning 4 = .ok (.iload_n 1, 1) := by decide +kernel
theorem d_Na_setMeaning_5 : decode b_Na_setMeaning 5 = .ok (.iload_n 2, 1) := by decide +kernel
theorem d_Na_setMeaning_6 : decode b_Na_setMeaning 6 = .ok (.iastore, 1) := by decide +kernel
theorem d_Na_setMeaning_7 : decode b_Na_setMeaning 7 = .ok (.aload_n 0, 1) := by decide +kernel
theorem d_Na_setMeaning_8 : decode b_Na_setMeaning 8 = .ok (.getfield 24, 3) := by decide +kernel
theorem d_Na_setMeaning_11 : decode b_Na_setMeaning 11 = .ok (.iload_n 1, 1) := by decide +kernel
theorem d_Na_setMeaning_12 : decode b_Na_setMeaning 12 = .ok (.iload_n 3, 1) := by decide +kernel
theorem d_Na_setMeaning_13 : decode b_Na_setMeaning 13 = .ok (.iastore, 1) := by decide +kernel
theorem d_Na_setMeaning_14 : decode b_Na_setMeaning 14 = .ok (.aload_n 0, 1) := by decide +kernel
theorem d_Na_setMeaning_15 : decode b_Na_setMeaning 15 = .ok (.getfield 27, 3) := by decide +kernel
theorem d_Na_setMeaning_18 : decode b_Na_setMeaning 18 = .ok (.iload_n 1, 1) := by decide +kernel
theorem d_Na_setMeaning_19 : decode b_Na_setMeaning 19 = .ok (.iload 4, 2) := by decide +kernel
theorem d_Na_setMeaning_21 : decode b_Na_setMeaning 21 = .ok (.iastore, 1) := by decide +kernel
theorem d_Na_setMeaning_22 : decode b_Na_setMeaning 22 = .ok (.return_, 1) := by decide +kernel
theorem d_Na_copyMeaning_0 : decode b_Na_copyMeaning 0 = .ok (.aload_n 0, 1) := by decide +kernel
theorem d_Na_copyMeaning_1 : decode b_Na_copyMeaning 1 = .ok (.iload_n 1, 1) := by decide +kernel
theorem d_Na_copyMeaning_2 : decode b_Na_copyMeaning 2 = .ok (.aload_n 0, 1) := by decide +kernel
theorem d_Na_copyMeaning_3 : decode b_Na_copyMeaning 3 = .ok (.getfield 34, 3) := by decide +kernel
theorem d_Na_copyMeaning_6 : decode b_Na_copyMeaning 6 = .ok (.getfield 110, 3) := by decide +kernel
theorem d_Na_copyMeaning_9 : decode b_Na_copyMeaning 9 = .ok (.iload_n 2, 1) := by decide +kernel
theorem d_Na_copyMeaning_10 : decode b_Na_copyMeaning 10 = .ok (.iaload, 1) := by decide +kernel
theorem d_Na_copyMeaning_11 : decode b_Na_copyMeaning 11 = .ok (.aload_n 0, 1) := by decide +kernel
theorem d_Na_copyMeaning_12 : decode b_Na_copyMeaning 12 = .ok (.getfield 34, 3) := by decide +kernel
theorem d_Na_copyMeaning_15 : decode b_Na_copyMeaning 15 = .ok (.getfield 100, 3) := by decide +kernel
theorem d_Na_copyMeaning_18 : decode b_Na_copyMeaning 18 = .ok (.iload_n 2, 1) := by decide +kernel
theorem d_Na_copyMeaning_19 : decode b_Na_copyMeaning 19 = .ok (.iaload, 1) := by decide +kernel
theorem d_Na_copyMeaning_20 : decode b_Na_copyMeaning 20 = .ok (.aload_n 0, 1) := by decide +kernel
theorem d_Na_copyMeaning_21 : decode b_Na_copyMeaning 21 = .ok (.getfield 34, 3) := by decide +kernel
theorem d_Na_copyMeaning_24 : decode b_Na_copyMeaning 24 = .ok (.getfield 83, 3) := by decide +kernel
theorem d_Na_copyMeaning_27 : decode b_Na_copyMeaning 27 = .ok (.iload_n 2, 1) := by decide +kernel
theorem d_Na_copyMeaning_28 : decode b_Na_copyMeaning 28 = .ok (.iaload, 1) := by decide +kernel
theorem d_Na_copyMeaning_29 : decode b_Na_copyMeaning 29 = .ok (.invokevirtual 103, 3) := by decide +kernel
theorem d_Na_copyMeaning_32 : decode b_Na_copyMeaning 32 = .ok (.return_, 1) := by decide +kernel
end
section
set_option maxHeartbeats 4000000 in
set_option maxRecDepth 100000 in
theorem c_Ly_takeLinkAway (l : Launch) (D : va_G) (cI cZ : ClassId) (a : Nat → Nat) {V : Sto} {r : Int32} {V' : Sto} (h : f_Ly_takeLinkAway V = some (r, V')) : YMv l D cI cZ a shpC y_Ly_takeLinkAway b_Ly_takeLinkAway 1 rm_Ly_takeLinkAway [.ref (a 0)] V V' := by
  refine YMv_of (by decide) (Nat.le_of_ble_eq_true rfl) ?_
  intro C hl hDD hcI hcZ ha hC hE
  subst hl hDD hcI hcZ ha
  show Y C shpC 1 0 [(0, .ref (C.a 0))] [] V
  rw [f_Ly_takeLinkAway] at h
  refine Y_aload_n (pc := 0) hC d_Ly_takeLinkAway_0 rfl 0 rfl ?_
  refine Y_iconst (pc := 1) hC d_Ly_takeLinkAway_1 ki_0 ?_
  obtain ⟨V1, hV1, h⟩ := nm_some h
  refine Y_put (pc := 2) hC sc_0 fl_Ly_243 rfl (by decide) fp_Ly ft_Ly_14 rfl rfl hV1 d_Ly_takeLinkAway_2 ?_
  refine Y_aload_n (pc := 5) hC d_Ly_takeLinkAway_5 rfl 0 rfl ?_
  refine Y_iconst (pc := 6) hC d_Ly_takeLinkAway_6 ki_0 ?_
  obtain ⟨V2, hV2, h⟩ := nm_some h
  refine Y_put (pc := 7) hC sc_0 fl_Ly_249 rfl (by decide) fp_Ly ft_Ly_15 rfl rfl hV2 d_Ly_takeLinkAway_7 ?_
  refine Y_aload_n (pc := 10) hC d_Ly_takeLinkAway_10 rfl 0 rfl ?_
  refine Y_iconst (pc := 11) hC d_Ly_takeLinkAway_11 ki_m1 ?_
  obtain ⟨V3, hV3, h⟩ := nm_some h
  refine Y_put (pc := 12) hC sc_0 fl_Ly_102 rfl (by decide) fp_Ly ft_Ly_16 rfl rfl hV3 d_Ly_takeLinkAway_12 ?_
  refine Y_aload_n (pc := 15) hC d_Ly_takeLinkAway_15 rfl 0 rfl ?_
  refine Y_iconst (pc := 16) hC d_Ly_takeLinkAway_16 ki_m1 ?_
  obtain ⟨V4, hV4, h⟩ := nm_some h
  refine Y_put (pc := 17) hC sc_0 fl_Ly_105 rfl (by decide) fp_Ly ft_Ly_17 rfl rfl hV4 d_Ly_takeLinkAway_17 ?_
  exact Y_vret (pc := 20) hC hE d_Ly_takeLinkAway_20 h
set_option maxHeartbeats 4000000 in
set_option maxRecDepth 100000 in
theorem c_Ly_fold (l : Launch) (D : va_G) (cI cZ : ClassId) (a : Nat → Nat) {V : Sto} {p1 p2 : Int32} {r : Int32} {V' : Sto} (h : f_Ly_fold V p1 p2 = some (r, V')) : YMv l D cI cZ a shpC y_Ly_fold b_Ly_fold 3 rm_Ly_fold [.ref (a 0), .int p1, .int p2] V V' := by
  refine YMv_of (by decide) (Nat.le_of_ble_eq_true rfl) ?_
  intro C hl hDD hcI hcZ ha hC hE
  subst hl hDD hcI hcZ ha
  show Y C shpC 3 0 [(0, .ref (C.a 0)), (1, .int p1), (2, .int p2)] [] V
  rw [f_Ly_fold] at h
  refine Y_aload_n (pc := 0) hC d_Ly_fold_0 rfl 0 rfl ?_
  obtain ⟨r1, V1, hc_r1, h⟩ := cl_some h
  refine Y_callVv (pc := 1) hC (c_Ly_takeLinkAway C.l C.D C.cI C.cZ C.a hc_r1) sc_0 cls_Ly ml_Ly_123 mv_Ly_takeLinkAway (by decide) (Nat.le_of_ble_eq_true rfl) rfl d_Ly_fold_1 ?_
  refine Y_aload_n (pc := 4) hC d_Ly_fold_4 rfl 0 rfl ?_
  refine Y_iload_n (pc := 5) hC d_Ly_fold_5 rfl 1 rfl ?_
  obtain ⟨hbb, h⟩ := ck_some h
  obtain ⟨V2, hV2, h⟩ := nm_some h
  refine Y_put (pc := 6) hC sc_0 fl_Ly_223 rfl (by decide) fp_Ly ft_Ly_12 (bb_nar hbb) (bb_fit hbb) hV2 d_Ly_fold_6 ?_
  refine Y_aload_n (pc := 9) hC d_Ly_fold_9 rfl 0 rfl ?_
  refine Y_iload_n (pc := 10) hC d_Ly_fold_10 rfl 2 rfl ?_
  obtain ⟨hbb, h⟩ := ck_some h
  obtain ⟨V3, hV3, h⟩ := nm_some h
  refine Y_put (pc := 11) hC sc_0 fl_Ly_227 rfl (by decide) fp_Ly ft_Ly_13 (bb_nar hbb) (bb_fit hbb) hV3 d_Ly_fold_11 ?_
  exact Y_vret (pc := 14) hC hE d_Ly_fold_14 h
set_option maxHeartbeats 4000000 in
set_option maxRecDepth 100000 in
theorem c_Se_forget (l : Launch) (D : va_G) (cI cZ : ClassId) (a : Nat → Nat) {V : Sto} {r : Int32} {V' : Sto} (h : f_Se_forget V = some (r, V')) : YMv l D cI cZ a shpC y_Se_forget b_Se_forget 1 rm_Se_forget [.ref (a 2)] V V' := by
  refine YMv_of (by decide) (Nat.le_of_ble_eq_true rfl) ?_
  intro C hl hDD hcI hcZ ha hC hE
  subst hl hDD hcI hcZ ha
  show Y C shpC 1 0 [(0, .ref (C.a 2))] [] V
  rw [f_Se_forget] at h
  refine Y_aload_n (pc := 0) hC d_Se_forget_0 rfl 0 rfl ?_
  refine Y_iconst (pc := 1) hC d_Se_forget_1 ki_0 ?_
  obtain ⟨V1, hV1, h⟩ := nm_some h
  refine Y_put (pc := 2) hC sc_2 fl_Se_34 rfl (by decide) fp_Se ft_Se_0 rfl rfl hV1 d_Se_forget_2 ?_
  refine Y_aload_n (pc := 5) hC d_Se_forget_5 rfl 0 rfl ?_
  refine Y_iconst (pc := 6) hC d_Se_forget_6 ki_0 ?_
  obtain ⟨V2, hV2, h⟩ := nm_some h
  refine Y_put (pc := 7) hC sc_2 fl_Se_45 rfl (by decide) fp_Se ft_Se_1 rfl rfl hV2 d_Se_forget_7 ?_
  refine Y_aload_n (pc := 10) hC d_Se_forget_10 rfl 0 rfl ?_
  refine Y_iconst (pc := 11) hC d_Se_forget_11 ki_0 ?_
  obtain ⟨V3, hV3, h⟩ := nm_some h
  refine Y_put (pc := 12) hC sc_2 fl_Se_42 rfl (by decide) fp_Se ft_Se_2 rfl rfl hV3 d_Se_forget_12 ?_
  exact Y_vret (pc := 15) hC hE d_Se_forget_15 h
set_option maxHeartbeats 4000000 in
set_option maxRecDepth 100000 in
theorem c_Ly_clear (l : Launch) (D : va_G) (cI cZ : ClassId) (a : Nat → Nat) {V : Sto} {r : Int32} {V' : Sto} (h : f_Ly_clear V = some (r, V')) : YMv l D cI cZ a shpC y_Ly_clear b_Ly_clear 1 rm_Ly_clear [.ref (a 0)] V V' := by
  refine YMv_of (by decide) (Nat.le_of_ble_eq_true rfl) ?_
  intro C hl hDD hcI hcZ ha hC hE
  subst hl hDD hcI hcZ ha
  show Y C shpC 1 0 [(0, .ref (C.a 0))] [] V
  rw [f_Ly_clear] at h
  refine Y_aload_n (pc := 0) hC d_Ly_clear_0 rfl 0 rfl ?_
  obtain ⟨r1, V1, hc_r1, h⟩ := cl_some h
  refine Y_callVv (pc := 1) hC (c_Ly_takeLinkAway C.l C.D C.cI C.cZ C.a hc_r1) sc_0 cls_Ly ml_Ly_123 mv_Ly_takeLinkAway (by decide) (Nat.le_of_ble_eq_true rfl) rfl d_Ly_clear_1 ?_
  refine Y_aload_n (pc := 4) hC d_Ly_clear_4 rfl 0 rfl ?_
  refine Y_getR (pc := 5) hC sc_0 fl_Ly_10 rfl d_Ly_clear_5 ?_
  refine Y_iconst (pc := 8) hC d_Ly_clear_8 ki_0 ?_
  obtain ⟨V2, hV2, h⟩ := nm_some h
  refine Y_put (pc := 9) hC sc_1 fl_Ly_115 rfl (by decide) fp_Un ft_Un_0 rfl rfl hV2 d_Ly_clear_9 ?_
  refine Y_aload_n (pc := 12) hC d_Ly_clear_12 rfl 0 rfl ?_
  refine Y_getR (pc := 13) hC sc_0 fl_Ly_19 rfl d_Ly_clear_13 ?_
  obtain ⟨r2, V3, hc_r2, h⟩ := cl_some h
  refine Y_callVv (pc := 16) hC (c_Se_forget C.l C.D C.cI C.cZ C.a hc_r2) sc_2 cls_Se ml_Ly_230 mv_Se_forget (by decide) (Nat.le_of_ble_eq_true rfl) rfl d_Ly_clear_16 ?_
  refine Y_aload_n (pc := 19) hC d_Ly_clear_19 rfl 0 rfl ?_
  refine Y_getR (pc := 20) hC sc_0 fl_Ly_26 rfl d_Ly_clear_20 ?_
  refine Y_iconst (pc := 23) hC d_Ly_clear_23 ki_0 ?_
  obtain ⟨V4, hV4, h⟩ := nm_some h
  refine Y_put (pc := 24) hC sc_3 fl_Ly_185 rfl (by decide) fp_Sy ft_Sy_0 rfl rfl hV4 d_Ly_clear_24 ?_
  refine Y_aload_n (pc := 27) hC d_Ly_clear_27 rfl 0 rfl ?_
  refine Y_getR (pc := 28) hC sc_0 fl_Ly_33 rfl d_Ly_clear_28 ?_
  refine Y_iconst (pc := 31) hC d_Ly_clear_31 ki_0 ?_
  obtain ⟨V5, hV5, h⟩ := nm_some h
  refine Y_put (pc := 32) hC sc_4 fl_Ly_209 rfl (by decide) fp_Re ft_Re_0 rfl rfl hV5 d_Ly_clear_32 ?_
  refine Y_aload_n (pc := 35) hC d_Ly_clear_35 rfl 0 rfl ?_
  refine Y_iconst (pc := 36) hC d_Ly_clear_36 ki_m1 ?_
  obtain ⟨V6, hV6, h⟩ := nm_some h
  refine Y_put (pc := 37) hC sc_0 fl_Ly_98 rfl (by decide) fp_Ly ft_Ly_11 rfl rfl hV6 d_Ly_clear_37 ?_
  refine Y_aload_n (pc := 40) hC d_Ly_clear_40 rfl 0 rfl ?_
  refine Y_iconst (pc := 41) hC d_Ly_clear_41 ki_0 ?_
  obtain ⟨V7, hV7, h⟩ := nm_some h
  refine Y_put (pc := 42) hC sc_0 fl_Ly_223 rfl (by decide) fp_Ly ft_Ly_12 rfl rfl hV7 d_Ly_clear_42 ?_
  refine Y_aload_n (pc := 45) hC d_Ly_clear_45 rfl 0 rfl ?_
  refine Y_iconst (pc := 46) hC d_Ly_clear_46 ki_0 ?_
  obtain ⟨V8, hV8, h⟩ := nm_some h
  refine Y_put (pc := 47) hC sc_0 fl_Ly_227 rfl (by decide) fp_Ly ft_Ly_13 rfl rfl hV8 d_Ly_clear_47 ?_
  exact Y_vret (pc := 50) hC hE d_Ly_clear_50 h
set_option maxHeartbeats 4000000 in
set_option maxRecDepth 100000 in
theorem c_Sy_asksForName (l : Launch) (D : va_G) (cI cZ : ClassId) (a : Nat → Nat) {V : Sto} {p1 : Int32} {r : Int32} {V' : Sto} (h : f_Sy_asksForName V p1 = some (r, V')) : YMi l D cI cZ a shpC y_Sy_asksForName b_Sy_asksForName 2 (some .boolean) rm_Sy_asksForName [.ref (a 3), .int p1] V r V' := by
  refine YMi_of (by decide) (Nat.le_of_ble_eq_true rfl) ?_
  intro C hl hDD hcI hcZ ha hC hE
  subst hl hDD hcI hcZ ha
  show Y C shpC 2 0 [(0, .ref (C.a 3)), (1, .int p1)] [] V
  rw [f_Sy_asksForName] at h
  refine Y_aload_n (pc := 0) hC d_Sy_asksForName_0 rfl 0 rfl ?_
  refine Y_getR (pc := 1) hC sc_3 fl_Sy_18 rfl d_Sy_asksForName_1 ?_
  refine Y_iload_n (pc := 4) hC d_Sy_asksForName_4 rfl 1 rfl ?_
  obtain ⟨hi, h⟩ := ck_some h
  refine Y_iald (pc := 5) hC sc_23 rfl hi d_Sy_asksForName_5 ?_
  refine Y_iconst (pc := 6) hC d_Sy_asksForName_6 ki_1 ?_
  refine Y_icmp_ne (pc := 7) hC 23 d_Sy_asksForName_7 rfl (fun cc_7 => ?_) (fun cc_7 => ?_)
  · have h := ifn cc_7 h
    refine Y_iconst (pc := 23) hC d_Sy_asksForName_23 ki_0 ?_
    exact Y_zret (pc := 24) hC hE d_Sy_asksForName_24 rfl h
  · have h := ifp cc_7 h
    refine Y_aload_n (pc := 10) hC d_Sy_asksForName_10 rfl 0 rfl ?_
    refine Y_getR (pc := 11) hC sc_3 fl_Sy_21 rfl d_Sy_asksForName_11 ?_
    refine Y_iload_n (pc := 14) hC d_Sy_asksForName_14 rfl 1 rfl ?_
    obtain ⟨hi, h⟩ := ck_some h
    refine Y_iald (pc := 15) hC sc_24 rfl hi d_Sy_asksForName_15 ?_
    refine Y_if_ne (pc := 16) hC 23 d_Sy_asksForName_16 rfl (fun cc_16 => ?_) (fun cc_16 => ?_)
    · have h := ifn cc_16 h
      refine Y_iconst (pc := 23) hC d_Sy_asksForName_23 ki_0 ?_
      exact Y_zret (pc := 24) hC hE d_Sy_asksForName_24 rfl h
    · have h := ifp cc_16 h
      refine Y_iconst (pc := 19) hC d_Sy_asksForName_19 ki_1 ?_
      refine Y_goto (pc := 20) hC 24 d_Sy_asksForName_20 rfl ?_
      exact Y_zret (pc := 24) hC hE d_Sy_asksForName_24 rfl h
set_option maxHeartbeats 4000000 in
set_option maxRecDepth 100000 in
theorem c_Sy_givesName (l : Launch) (D : va_G) (cI cZ : ClassId) (a : Nat → Nat) {V : Sto} {p1 : Int32} {r : Int32} {V' : Sto} (h : f_Sy_givesName V p1 = some (r, V')) : YMi l D cI cZ a shpC y_Sy_givesName b_Sy_givesName 2 (some .boolean) rm_Sy_givesName [.ref (a 3), .int p1] V r V' := by
  refine YMi_of (by decide) (Nat.le_of_ble_eq_true rfl) ?_
  intro C hl hDD hcI hcZ ha hC hE
  subst hl hDD hcI hcZ ha
  show Y C shpC 2 0 [(0, .ref (C.a 3)), (1, .int p1)] [] V
  rw [f_Sy_givesName] at h
  refine Y_aload_n (pc := 0) hC d_Sy_givesName_0 rfl 0 rfl ?_
  refine Y_getR (pc := 1) hC sc_3 fl_Sy_18 rfl d_Sy_givesName_1 ?_
  refine Y_iload_n (pc := 4) hC d_Sy_givesName_4 rfl 1 rfl ?_
  obtain ⟨hi, h⟩ := ck_some h
  refine Y_iald (pc := 5) hC sc_23 rfl hi d_Sy_givesName_5 ?_
  refine Y_if_eq (pc := 6) hC 22 d_Sy_givesName_6 rfl (fun cc_6 => ?_) (fun cc_6 => ?_)
  · have h := ifp cc_6 h
    refine Y_iconst (pc := 22) hC d_Sy_givesName_22 ki_0 ?_
    exact Y_zret (pc := 23) hC hE d_Sy_givesName_23 rfl h
  · have h := ifn cc_6 h
    refine Y_aload_n (pc := 9) hC d_Sy_givesName_9 rfl 0 rfl ?_
    refine Y_getR (pc := 10) hC sc_3 fl_Sy_21 rfl d_Sy_givesName_10 ?_
    refine Y_iload_n (pc := 13) hC d_Sy_givesName_13 rfl 1 rfl ?_
    obtain ⟨hi, h⟩ := ck_some h
    refine Y_iald (pc := 14) hC sc_24 rfl hi d_Sy_givesName_14 ?_
    refine Y_if_eq (pc := 15) hC 22 d_Sy_givesName_15 rfl (fun cc_15 => ?_) (fun cc_15 => ?_)
    · have h := ifp cc_15 h
      refine Y_iconst (pc := 22) hC d_Sy_givesName_22 ki_0 ?_
      exact Y_zret (pc := 23) hC hE d_Sy_givesName_23 rfl h
    · have h := ifn cc_15 h
      refine Y_iconst (pc := 18) hC d_Sy_givesName_18 ki_1 ?_
      refine Y_goto (pc := 19) hC 23 d_Sy_givesName_19 rfl ?_
      exact Y_zret (pc := 23) hC hE d_Sy_givesName_23 rfl h
set_option maxHeartbeats 4000000 in
set_option maxRecDepth 100000 in
theorem c_Ar_note (l : Launch) (D : va_G) (cI cZ : ClassId) (a : Nat → Nat) {V : Sto} {p1 : Int32} {r : Int32} {V' : Sto} (h : f_Ar_note V p1 = some (r, V')) : YMv l D cI cZ a shpC y_Ar_note b_Ar_note 2 rm_Ar_note [.ref (a 5), .int p1] V V' := by
  refine YMv_of (by decide) (Nat.le_of_ble_eq_true rfl) ?_
  intro C hl hDD hcI hcZ ha hC hE
  subst hl hDD hcI hcZ ha
  show Y C shpC 2 0 [(0, .ref (C.a 5)), (1, .int p1)] [] V
  rw [f_Ar_note] at h
  refine Y_aload_n (pc := 0) hC d_Ar_note_0 rfl 0 rfl ?_
  refine Y_getR (pc := 1) hC sc_5 fl_Ar_22 rfl d_Ar_note_1 ?_
  refine Y_iload_n (pc := 4) hC d_Ar_note_4 rfl 1 rfl ?_
  obtain ⟨r1, V1, hc_r1, h⟩ := cl_some h
  refine Y_callV (pc := 5) hC (c_Sy_asksForName C.l C.D C.cI C.cZ C.a hc_r1) sc_3 cls_Sy ml_Ar_63 mv_Sy_asksForName (by decide) (Nat.le_of_ble_eq_true rfl) rfl d_Ar_note_5 ?_
  obtain ⟨j1, hj1, h⟩ := jn_some h
  have kj1 : ∀ (V3 : Sto), j1 V3 = some (r, V') → Y C shpC 2 26 [(0, .ref (C.a 5)), (1, .int p1)] [] V3 := by
    intro V3 h
    subst hj1
    dsimp only at h
    refine Y_aload_n (pc := 26) hC d_Ar_note_26 rfl 0 rfl ?_
    refine Y_getR (pc := 27) hC sc_5 fl_Ar_22 rfl d_Ar_note_27 ?_
    refine Y_iload_n (pc := 30) hC d_Ar_note_30 rfl 1 rfl ?_
    obtain ⟨r2, V4, hc_r2, h⟩ := cl_some h
    refine Y_callV (pc := 31) hC (c_Sy_givesName C.l C.D C.cI C.cZ C.a hc_r2) sc_3 cls_Sy ml_Ar_70 mv_Sy_givesName (by decide) (Nat.le_of_ble_eq_true rfl) rfl d_Ar_note_31 ?_
    refine Y_if_eq (pc := 34) hC 52 d_Ar_note_34 rfl (fun cc_34 => ?_) (fun cc_34 => ?_)
    · have h := ifp cc_34 h
      exact Y_vret (pc := 52) hC hE d_Ar_note_52 h
    · have h := ifn cc_34 h
      refine Y_aload_n (pc := 37) hC d_Ar_note_37 rfl 0 rfl ?_
      refine Y_getR (pc := 38) hC sc_5 fl_Ar_15 rfl d_Ar_note_38 ?_
      refine Y_aload_n (pc := 41) hC d_Ar_note_41 rfl 0 rfl ?_
      refine Y_getR (pc := 42) hC sc_5 fl_Ar_22 rfl d_Ar_note_42 ?_
      refine Y_getR (pc := 45) hC sc_3 fl_Ar_67 rfl d_Ar_note_45 ?_
      refine Y_iload_n (pc := 48) hC d_Ar_note_48 rfl 1 rfl ?_
      obtain ⟨hi, h⟩ := ck_some h
      refine Y_iald (pc := 49) hC sc_22 rfl hi d_Ar_note_49 ?_
      refine Y_iconst (pc := 50) hC d_Ar_note_50 ki_1 ?_
      obtain ⟨hi, h⟩ := ck_some h
      obtain ⟨V5, hV5, h⟩ := nm_some h
      refine Y_zast (pc := 51) hC sc_36 (by decide) rfl hi rfl hV5 d_Ar_note_51 ?_
      exact Y_vret (pc := 52) hC hE d_Ar_note_52 h
  refine Y_if_eq (pc := 8) hC 26 d_Ar_note_8 rfl (fun cc_8 => ?_) (fun cc_8 => ?_)
  · have h := ifp cc_8 h
    refine Y_sub (pc := 26) [0, 1] rfl ?_
    exact kj1 _ h
  · have h := ifn cc_8 h
    refine Y_aload_n (pc := 11) hC d_Ar_note_11 rfl 0 rfl ?_
    refine Y_getR (pc := 12) hC sc_5 fl_Ar_9 rfl d_Ar_note_12 ?_
    refine Y_aload_n (pc := 15) hC d_Ar_note_15 rfl 0 rfl ?_
    refine Y_getR (pc := 16) hC sc_5 fl_Ar_22 rfl d_Ar_note_16 ?_
    refine Y_getR (pc := 19) hC sc_3 fl_Ar_67 rfl d_Ar_note_19 ?_
    refine Y_iload_n (pc := 22) hC d_Ar_note_22 rfl 1 rfl ?_
    obtain ⟨hi, h⟩ := ck_some h
    refine Y_iald (pc := 23) hC sc_22 rfl hi d_Ar_note_23 ?_
    refine Y_iconst (pc := 24) hC d_Ar_note_24 ki_1 ?_
    obtain ⟨hi, h⟩ := ck_some h
    obtain ⟨V2, hV2, h⟩ := nm_some h
    refine Y_zast (pc := 25) hC sc_35 (by decide) rfl hi rfl hV2 d_Ar_note_25 ?_
    refine Y_sub (pc := 26) [0, 1] rfl ?_
    exact kj1 _ h
set_option maxHeartbeats 4000000 in
set_option maxRecDepth 100000 in
theorem ylp_Ar_admit_12 {C : YC} {r : Int32} {V' : Sto} {x1 : Int32} {k47 : Sto → RT} (hC : YF C R_Ar b_Ar_admit 3 rm_Ar_admit) (hE : YEv C shpC V') (hk47 : ∀ (V1 : Sto), k47 V1 = some (r, V') → Y C shpC 3 47 [] [] V1) : ∀ (n : Nat) (x2 : Int32) (V : Sto), lp_Ar_admit_12 x1 k47 n x2 V = some (r, V') → Y C shpC 3 12 [(0, .ref (C.a 5)), (1, .int x1), (2, .int x2)] [] V := by
  intro n
  induction n with
  | zero =>
    intro x2 V h
    rw [lp_Ar_admit_12] at h
    cases h
  | succ n ih =>
    intro x2 V h
    rw [lp_Ar_admit_12] at h
    refine Y_iload_n (pc := 12) hC d_Ar_admit_12 rfl 2 rfl ?_
    refine Y_aload_n (pc := 13) hC d_Ar_admit_13 rfl 0 rfl ?_
    refine Y_getR (pc := 14) hC sc_5 fl_Ar_22 rfl d_Ar_admit_14 ?_
    refine Y_getI (pc := 17) hC sc_3 fl_Ar_54 rfl d_Ar_admit_17 ?_
    refine Y_icmp_ge (pc := 20) hC 47 d_Ar_admit_20 rfl (fun cc_20 => ?_) (fun cc_20 => ?_)
    · have h := ifp cc_20 h
      refine Y_sub (pc := 47) [] rfl ?_
      exact hk47 _ h
    · have h := ifn cc_20 h
      refine Y_aload_n (pc := 23) hC d_Ar_admit_23 rfl 0 rfl ?_
      refine Y_getR (pc := 24) hC sc_5 fl_Ar_22 rfl d_Ar_admit_24 ?_
      refine Y_getR (pc := 27) hC sc_3 fl_Ar_57 rfl d_Ar_admit_27 ?_
      refine Y_iload_n (pc := 30) hC d_Ar_admit_30 rfl 2 rfl ?_
      obtain ⟨hi, h⟩ := ck_some h
      refine Y_iald (pc := 31) hC sc_21 rfl hi d_Ar_admit_31 ?_
      refine Y_iload_n (pc := 32) hC d_Ar_admit_32 rfl 1 rfl ?_
      refine Y_icmp_ne (pc := 33) hC 41 d_Ar_admit_33 rfl (fun cc_33 => ?_) (fun cc_33 => ?_)
      · have h := ifn cc_33 h
        refine Y_iinc (pc := 41) hC (v := x2 + 1) (L' := [(2, .int (x2 + 1)), (0, .ref (C.a 5)), (1, .int x1)]) d_Ar_admit_41 2 rfl rfl (by decide) rfl ?_
        refine Y_goto (pc := 44) hC 12 d_Ar_admit_44 rfl ?_
        refine Y_sub (pc := 12) [1, 2, 0] rfl ?_
        exact ih _ _ h
      · have h := ifp cc_33 h
        refine Y_aload_n (pc := 36) hC d_Ar_admit_36 rfl 0 rfl ?_
        refine Y_iload_n (pc := 37) hC d_Ar_admit_37 rfl 2 rfl ?_
        obtain ⟨r1, V2, hc_r1, h⟩ := cl_some h
        refine Y_callVv (pc := 38) hC (c_Ar_note C.l C.D C.cI C.cZ C.a hc_r1) sc_5 cls_Ar ml_Ar_60 mv_Ar_note (by decide) (Nat.le_of_ble_eq_true rfl) rfl d_Ar_admit_38 ?_
        refine Y_iinc (pc := 41) hC (v := x2 + 1) (L' := [(2, .int (x2 + 1)), (0, .ref (C.a 5)), (1, .int x1)]) d_Ar_admit_41 2 rfl rfl (by decide) rfl ?_
        refine Y_goto (pc := 44) hC 12 d_Ar_admit_44 rfl ?_
        refine Y_sub (pc := 12) [1, 2, 0] rfl ?_
        exact ih _ _ h
set_option maxHeartbeats 4000000 in
set_option maxRecDepth 100000 in
theorem c_Ar_admit (l : Launch) (D : va_G) (cI cZ : ClassId) (a : Nat → Nat) {V : Sto} {p1 : Int32} {r : Int32} {V' : Sto} (h : f_Ar_admit V p1 = some (r, V')) : YMv l D cI cZ a shpC y_Ar_admit b_Ar_admit 3 rm_Ar_admit [.ref (a 5), .int p1] V V' := by
  refine YMv_of (by decide) (Nat.le_of_ble_eq_true rfl) ?_
  intro C hl hDD hcI hcZ ha hC hE
  subst hl hDD hcI hcZ ha
  show Y C shpC 3 0 [(0, .ref (C.a 5)), (1, .int p1)] [] V
  rw [f_Ar_admit] at h
  refine Y_aload_n (pc := 0) hC d_Ar_admit_0 rfl 0 rfl ?_
  refine Y_getR (pc := 1) hC sc_5 fl_Ar_18 rfl d_Ar_admit_1 ?_
  refine Y_getR (pc := 4) hC sc_1 fl_Ar_40 rfl d_Ar_admit_4 ?_
  refine Y_iload_n (pc := 7) hC d_Ar_admit_7 rfl 1 rfl ?_
  refine Y_iconst (pc := 8) hC d_Ar_admit_8 ki_1 ?_
  obtain ⟨hi, h⟩ := ck_some h
  obtain ⟨V1, hV1, h⟩ := nm_some h
  refine Y_zast (pc := 9) hC sc_13 (by decide) rfl hi rfl hV1 d_Ar_admit_9 ?_
  refine Y_iconst (pc := 10) hC d_Ar_admit_10 ki_0 ?_
  refine Y_istore_n (pc := 11) hC (L' := [(2, .int 0), (0, .ref (C.a 5)), (1, .int p1)]) d_Ar_admit_11 rfl (by decide) rfl ?_
  refine Y_sub (pc := 12) [1, 2, 0] rfl ?_
  refine ylp_Ar_admit_12 hC hE (fun V3 h => ?_) FU _ _ h
  exact Y_vret (pc := 47) hC hE d_Ar_admit_47 h
set_option maxHeartbeats 4000000 in
set_option maxRecDepth 100000 in
theorem ylp_Ar_begin_2 {C : YC} {r : Int32} {V' : Sto} {x1 : Int32} {k38 : Sto → RT} (hC : YF C R_Ar b_Ar_begin 3 rm_Ar_begin) (hE : YEv C shpC V') (hk38 : ∀ (V1 : Sto), k38 V1 = some (r, V') → Y C shpC 3 38 [(0, .ref (C.a 5))] [] V1) : ∀ (n : Nat) (x2 : Int32) (V : Sto), lp_Ar_begin_2 x1 k38 n x2 V = some (r, V') → Y C shpC 3 2 [(0, .ref (C.a 5)), (1, .int x1), (2, .int x2)] [] V := by
  intro n
  induction n with
  | zero =>
    intro x2 V h
    rw [lp_Ar_begin_2] at h
    cases h
  | succ n ih =>
    intro x2 V h
    rw [lp_Ar_begin_2] at h
    refine Y_iload_n (pc := 2) hC d_Ar_begin_2 rfl 2 rfl ?_
    refine Y_sipush (pc := 3) hC d_Ar_begin_3 ks_200 ?_
    refine Y_icmp_ge (pc := 6) hC 38 d_Ar_begin_6 rfl (fun cc_6 => ?_) (fun cc_6 => ?_)
    · have h := ifp cc_6 h
      refine Y_sub (pc := 38) [0] rfl ?_
      exact hk38 _ h
    · have h := ifn cc_6 h
      refine Y_aload_n (pc := 9) hC d_Ar_begin_9 rfl 0 rfl ?_
      refine Y_getR (pc := 10) hC sc_5 fl_Ar_9 rfl d_Ar_begin_10 ?_
      refine Y_iload_n (pc := 13) hC d_Ar_begin_13 rfl 2 rfl ?_
      refine Y_iload_n (pc := 14) hC d_Ar_begin_14 rfl 2 rfl ?_
      refine Y_iload_n (pc := 15) hC d_Ar_begin_15 rfl 1 rfl ?_
      refine Y_icmp_ne (pc := 16) hC 23 d_Ar_begin_16 rfl (fun cc_16 => ?_) (fun cc_16 => ?_)
      · have h := ifn cc_16 h
        refine Y_iconst (pc := 23) hC d_Ar_begin_23 ki_0 ?_
        obtain ⟨hi, h⟩ := ck_some h
        obtain ⟨V1, hV1, h⟩ := nm_some h
        refine Y_zast (pc := 24) hC sc_35 (by decide) rfl hi rfl hV1 d_Ar_begin_24 ?_
        refine Y_aload_n (pc := 25) hC d_Ar_begin_25 rfl 0 rfl ?_
        refine Y_getR (pc := 26) hC sc_5 fl_Ar_15 rfl d_Ar_begin_26 ?_
        refine Y_iload_n (pc := 29) hC d_Ar_begin_29 rfl 2 rfl ?_
        refine Y_iconst (pc := 30) hC d_Ar_begin_30 ki_0 ?_
        obtain ⟨hi, h⟩ := ck_some h
        obtain ⟨V2, hV2, h⟩ := nm_some h
        refine Y_zast (pc := 31) hC sc_36 (by decide) rfl hi rfl hV2 d_Ar_begin_31 ?_
        refine Y_iinc (pc := 32) hC (v := x2 + 1) (L' := [(2, .int (x2 + 1)), (0, .ref (C.a 5)), (1, .int x1)]) d_Ar_begin_32 2 rfl rfl (by decide) rfl ?_
        refine Y_goto (pc := 35) hC 2 d_Ar_begin_35 rfl ?_
        refine Y_sub (pc := 2) [1, 2, 0] rfl ?_
        exact ih _ _ h
      · have h := ifp cc_16 h
        refine Y_iconst (pc := 19) hC d_Ar_begin_19 ki_1 ?_
        refine Y_goto (pc := 20) hC 24 d_Ar_begin_20 rfl ?_
        obtain ⟨hi, h⟩ := ck_some h
        obtain ⟨V3, hV3, h⟩ := nm_some h
        refine Y_zast (pc := 24) hC sc_35 (by decide) rfl hi rfl hV3 d_Ar_begin_24 ?_
        refine Y_aload_n (pc := 25) hC d_Ar_begin_25 rfl 0 rfl ?_
        refine Y_getR (pc := 26) hC sc_5 fl_Ar_15 rfl d_Ar_begin_26 ?_
        refine Y_iload_n (pc := 29) hC d_Ar_begin_29 rfl 2 rfl ?_
        refine Y_iconst (pc := 30) hC d_Ar_begin_30 ki_0 ?_
        obtain ⟨hi, h⟩ := ck_some h
        obtain ⟨V4, hV4, h⟩ := nm_some h
        refine Y_zast (pc := 31) hC sc_36 (by decide) rfl hi rfl hV4 d_Ar_begin_31 ?_
        refine Y_iinc (pc := 32) hC (v := x2 + 1) (L' := [(2, .int (x2 + 1)), (0, .ref (C.a 5)), (1, .int x1)]) d_Ar_begin_32 2 rfl rfl (by decide) rfl ?_
        refine Y_goto (pc := 35) hC 2 d_Ar_begin_35 rfl ?_
        refine Y_sub (pc := 2) [1, 2, 0] rfl ?_
        exact ih _ _ h
set_option maxHeartbeats 4000000 in
set_option maxRecDepth 100000 in
theorem ylp_Ar_begin_40 {C : YC} {r : Int32} {V' : Sto} {k67 : Sto → RT} (hC : YF C R_Ar b_Ar_begin 3 rm_Ar_begin) (hE : YEv C shpC V') (hk67 : ∀ (V1 : Sto), k67 V1 = some (r, V') → Y C shpC 3 67 [(0, .ref (C.a 5))] [] V1) : ∀ (n : Nat) (x2 : Int32) (V : Sto), lp_Ar_begin_40 k67 n x2 V = some (r, V') → Y C shpC 3 40 [(0, .ref (C.a 5)), (2, .int x2)] [] V := by
  intro n
  induction n with
  | zero =>
    intro x2 V h
    rw [lp_Ar_begin_40] at h
    cases h
  | succ n ih =>
    intro x2 V h
    rw [lp_Ar_begin_40] at h
    refine Y_iload_n (pc := 40) hC d_Ar_begin_40 rfl 1 rfl ?_
    refine Y_aload_n (pc := 41) hC d_Ar_begin_41 rfl 0 rfl ?_
    refine Y_getR (pc := 42) hC sc_5 fl_Ar_18 rfl d_Ar_begin_42 ?_
    refine Y_getI (pc := 45) hC sc_1 fl_Ar_34 rfl d_Ar_begin_45 ?_
    refine Y_icmp_ge (pc := 48) hC 67 d_Ar_begin_48 rfl (fun cc_48 => ?_) (fun cc_48 => ?_)
    · have h := ifp cc_48 h
      refine Y_sub (pc := 67) [0] rfl ?_
      exact hk67 _ h
    · have h := ifn cc_48 h
      refine Y_aload_n (pc := 51) hC d_Ar_begin_51 rfl 0 rfl ?_
      refine Y_getR (pc := 52) hC sc_5 fl_Ar_18 rfl d_Ar_begin_52 ?_
      refine Y_getR (pc := 55) hC sc_1 fl_Ar_40 rfl d_Ar_begin_55 ?_
      refine Y_iload_n (pc := 58) hC d_Ar_begin_58 rfl 1 rfl ?_
      refine Y_iconst (pc := 59) hC d_Ar_begin_59 ki_0 ?_
      obtain ⟨hi, h⟩ := ck_some h
      obtain ⟨V6, hV6, h⟩ := nm_some h
      refine Y_zast (pc := 60) hC sc_13 (by decide) rfl hi rfl hV6 d_Ar_begin_60 ?_
      refine Y_iinc (pc := 61) hC (v := x2 + 1) (L' := [(2, .int (x2 + 1)), (0, .ref (C.a 5))]) d_Ar_begin_61 1 rfl rfl (by decide) rfl ?_
      refine Y_goto (pc := 64) hC 40 d_Ar_begin_64 rfl ?_
      refine Y_sub (pc := 40) [1, 0] rfl ?_
      exact ih _ _ h
set_option maxHeartbeats 4000000 in
set_option maxRecDepth 100000 in
theorem ylp_Ar_begin_69 {C : YC} {r : Int32} {V' : Sto} {k104 : Sto → RT} (hC : YF C R_Ar b_Ar_begin 3 rm_Ar_begin) (hE : YEv C shpC V') (hk104 : ∀ (V1 : Sto), k104 V1 = some (r, V') → Y C shpC 3 104 [] [] V1) : ∀ (n : Nat) (x2 : Int32) (V : Sto), lp_Ar_begin_69 k104 n x2 V = some (r, V') → Y C shpC 3 69 [(0, .ref (C.a 5)), (2, .int x2)] [] V := by
  intro n
  induction n with
  | zero =>
    intro x2 V h
    rw [lp_Ar_begin_69] at h
    cases h
  | succ n ih =>
    intro x2 V h
    rw [lp_Ar_begin_69] at h
    refine Y_iload_n (pc := 69) hC d_Ar_begin_69 rfl 1 rfl ?_
    refine Y_aload_n (pc := 70) hC d_Ar_begin_70 rfl 0 rfl ?_
    refine Y_getR (pc := 71) hC sc_5 fl_Ar_18 rfl d_Ar_begin_71 ?_
    refine Y_getI (pc := 74) hC sc_1 fl_Ar_34 rfl d_Ar_begin_74 ?_
    refine Y_icmp_ge (pc := 77) hC 104 d_Ar_begin_77 rfl (fun cc_77 => ?_) (fun cc_77 => ?_)
    · have h := ifp cc_77 h
      refine Y_sub (pc := 104) [] rfl ?_
      exact hk104 _ h
    · have h := ifn cc_77 h
      refine Y_aload_n (pc := 80) hC d_Ar_begin_80 rfl 0 rfl ?_
      refine Y_getR (pc := 81) hC sc_5 fl_Ar_18 rfl d_Ar_begin_81 ?_
      refine Y_getR (pc := 84) hC sc_1 fl_Ar_43 rfl d_Ar_begin_84 ?_
      refine Y_iload_n (pc := 87) hC d_Ar_begin_87 rfl 1 rfl ?_
      obtain ⟨hi, h⟩ := ck_some h
      refine Y_iald (pc := 88) hC sc_12 rfl hi d_Ar_begin_88 ?_
      refine Y_iconst (pc := 89) hC d_Ar_begin_89 ki_m1 ?_
      refine Y_icmp_ne (pc := 90) hC 98 d_Ar_begin_90 rfl (fun cc_90 => ?_) (fun cc_90 => ?_)
      · have h := ifn cc_90 h
        refine Y_iinc (pc := 98) hC (v := x2 + 1) (L' := [(2, .int (x2 + 1)), (0, .ref (C.a 5))]) d_Ar_begin_98 1 rfl rfl (by decide) rfl ?_
        refine Y_goto (pc := 101) hC 69 d_Ar_begin_101 rfl ?_
        refine Y_sub (pc := 69) [1, 0] rfl ?_
        exact ih _ _ h
      · have h := ifp cc_90 h
        refine Y_aload_n (pc := 93) hC d_Ar_begin_93 rfl 0 rfl ?_
        refine Y_iload_n (pc := 94) hC d_Ar_begin_94 rfl 1 rfl ?_
        obtain ⟨r1, V8, hc_r1, h⟩ := cl_some h
        refine Y_callVv (pc := 95) hC (c_Ar_admit C.l C.D C.cI C.cZ C.a hc_r1) sc_5 cls_Ar ml_Ar_47 mv_Ar_admit (by decide) (Nat.le_of_ble_eq_true rfl) rfl d_Ar_begin_95 ?_
        refine Y_iinc (pc := 98) hC (v := x2 + 1) (L' := [(2, .int (x2 + 1)), (0, .ref (C.a 5))]) d_Ar_begin_98 1 rfl rfl (by decide) rfl ?_
        refine Y_goto (pc := 101) hC 69 d_Ar_begin_101 rfl ?_
        refine Y_sub (pc := 69) [1, 0] rfl ?_
        exact ih _ _ h
set_option maxHeartbeats 4000000 in
set_option maxRecDepth 100000 in
theorem c_Ar_begin (l : Launch) (D : va_G) (cI cZ : ClassId) (a : Nat → Nat) {V : Sto} {p1 : Int32} {r : Int32} {V' : Sto} (h : f_Ar_begin V p1 = some (r, V')) : YMv l D cI cZ a shpC y_Ar_begin b_Ar_begin 3 rm_Ar_begin [.ref (a 5), .int p1] V V' := by
  refine YMv_of (by decide) (Nat.le_of_ble_eq_true rfl) ?_
  intro C hl hDD hcI hcZ ha hC hE
  subst hl hDD hcI hcZ ha
  show Y C shpC 3 0 [(0, .ref (C.a 5)), (1, .int p1)] [] V
  rw [f_Ar_begin] at h
  refine Y_iconst (pc := 0) hC d_Ar_begin_0 ki_0 ?_
  refine Y_istore_n (pc := 1) hC (L' := [(2, .int 0), (0, .ref (C.a 5)), (1, .int p1)]) d_Ar_begin_1 rfl (by decide) rfl ?_
  refine Y_sub (pc := 2) [1, 2, 0] rfl ?_
  refine ylp_Ar_begin_2 hC hE (fun V5 h => ?_) FU _ _ h
  refine Y_iconst (pc := 38) hC d_Ar_begin_38 ki_0 ?_
  refine Y_istore_n (pc := 39) hC (L' := [(2, .int 0), (0, .ref (C.a 5))]) d_Ar_begin_39 rfl (by decide) rfl ?_
  refine Y_sub (pc := 40) [1, 0] rfl ?_
  refine ylp_Ar_begin_40 hC hE (fun V7 h => ?_) FU _ _ h
  refine Y_iconst (pc := 67) hC d_Ar_begin_67 ki_0 ?_
  refine Y_istore_n (pc := 68) hC (L' := [(2, .int 0), (0, .ref (C.a 5))]) d_Ar_begin_68 rfl (by decide) rfl ?_
  refine Y_sub (pc := 69) [1, 0] rfl ?_
  refine ylp_Ar_begin_69 hC hE (fun V9 h => ?_) FU _ _ h
  exact Y_vret (pc := 104) hC hE d_Ar_begin_104 h
set_option maxHeartbeats 4000000 in
set_option maxRecDepth 100000 in
theorem c_Ar_isNeeded (l : Launch) (D : va_G) (cI cZ : ClassId) (a : Nat → Nat) {V : Sto} {p1 : Int32} {r : Int32} {V' : Sto} (h : f_Ar_isNeeded V p1 = some (r, V')) : YMi l D cI cZ a shpC y_Ar_isNeeded b_Ar_isNeeded 3 (some .boolean) rm_Ar_isNeeded [.ref (a 5), .int p1] V r V' := by
  refine YMi_of (by decide) (Nat.le_of_ble_eq_true rfl) ?_
  intro C hl hDD hcI hcZ ha hC hE
  subst hl hDD hcI hcZ ha
  show Y C shpC 3 0 [(0, .ref (C.a 5)), (1, .int p1)] [] V
  rw [f_Ar_isNeeded] at h
  refine Y_aload_n (pc := 0) hC d_Ar_isNeeded_0 rfl 0 rfl ?_
  refine Y_getR (pc := 1) hC sc_5 fl_Ar_22 rfl d_Ar_isNeeded_1 ?_
  refine Y_getR (pc := 4) hC sc_3 fl_Ar_67 rfl d_Ar_isNeeded_4 ?_
  refine Y_iload_n (pc := 7) hC d_Ar_isNeeded_7 rfl 1 rfl ?_
  obtain ⟨hi, h⟩ := ck_some h
  refine Y_iald (pc := 8) hC sc_22 rfl hi d_Ar_isNeeded_8 ?_
  refine Y_istore_n (pc := 9) hC (L' := [(2, .int (V 22 p1.toNatClampNeg)), (0, .ref (C.a 5)), (1, .int p1)]) d_Ar_isNeeded_9 rfl (by decide) rfl ?_
  refine Y_aload_n (pc := 10) hC d_Ar_isNeeded_10 rfl 1 rfl ?_
  refine Y_getR (pc := 11) hC sc_5 fl_Ar_22 rfl d_Ar_isNeeded_11 ?_
  refine Y_iload_n (pc := 14) hC d_Ar_isNeeded_14 rfl 2 rfl ?_
  obtain ⟨r1, V1, hc_r1, h⟩ := cl_some h
  refine Y_callV (pc := 15) hC (c_Sy_givesName C.l C.D C.cI C.cZ C.a hc_r1) sc_3 cls_Sy ml_Ar_70 mv_Sy_givesName (by decide) (Nat.le_of_ble_eq_true rfl) rfl d_Ar_isNeeded_15 ?_
  refine Y_if_eq (pc := 18) hC 56 d_Ar_isNeeded_18 rfl (fun cc_18 => ?_) (fun cc_18 => ?_)
  · have h := ifp cc_18 h
    refine Y_iconst (pc := 56) hC d_Ar_isNeeded_56 ki_0 ?_
    exact Y_zret (pc := 57) hC hE d_Ar_isNeeded_57 rfl h
  · have h := ifn cc_18 h
    refine Y_aload_n (pc := 21) hC d_Ar_isNeeded_21 rfl 1 rfl ?_
    refine Y_getR (pc := 22) hC sc_5 fl_Ar_22 rfl d_Ar_isNeeded_22 ?_
    refine Y_getR (pc := 25) hC sc_3 fl_Ar_76 rfl d_Ar_isNeeded_25 ?_
    refine Y_iload_n (pc := 28) hC d_Ar_isNeeded_28 rfl 2 rfl ?_
    obtain ⟨hi, h⟩ := ck_some h
    refine Y_iald (pc := 29) hC sc_23 rfl hi d_Ar_isNeeded_29 ?_
    refine Y_iconst (pc := 30) hC d_Ar_isNeeded_30 ki_2 ?_
    refine Y_icmp_eq (pc := 31) hC 56 d_Ar_isNeeded_31 rfl (fun cc_31 => ?_) (fun cc_31 => ?_)
    · have h := ifp cc_31 h
      refine Y_iconst (pc := 56) hC d_Ar_isNeeded_56 ki_0 ?_
      exact Y_zret (pc := 57) hC hE d_Ar_isNeeded_57 rfl h
    · have h := ifn cc_31 h
      refine Y_aload_n (pc := 34) hC d_Ar_isNeeded_34 rfl 1 rfl ?_
      refine Y_getR (pc := 35) hC sc_5 fl_Ar_9 rfl d_Ar_isNeeded_35 ?_
      refine Y_iload_n (pc := 38) hC d_Ar_isNeeded_38 rfl 0 rfl ?_
      obtain ⟨hi, h⟩ := ck_some h
      refine Y_zald (pc := 39) hC sc_35 rfl hi d_Ar_isNeeded_39 ?_
      refine Y_if_eq (pc := 40) hC 56 d_Ar_isNeeded_40 rfl (fun cc_40 => ?_) (fun cc_40 => ?_)
      · have h := ifp cc_40 h
        refine Y_iconst (pc := 56) hC d_Ar_isNeeded_56 ki_0 ?_
        exact Y_zret (pc := 57) hC hE d_Ar_isNeeded_57 rfl h
      · have h := ifn cc_40 h
        refine Y_aload_n (pc := 43) hC d_Ar_isNeeded_43 rfl 1 rfl ?_
        refine Y_getR (pc := 44) hC sc_5 fl_Ar_15 rfl d_Ar_isNeeded_44 ?_
        refine Y_iload_n (pc := 47) hC d_Ar_isNeeded_47 rfl 0 rfl ?_
        obtain ⟨hi, h⟩ := ck_some h
        refine Y_zald (pc := 48) hC sc_36 rfl hi d_Ar_isNeeded_48 ?_
        refine Y_if_ne (pc := 49) hC 56 d_Ar_isNeeded_49 rfl (fun cc_49 => ?_) (fun cc_49 => ?_)
        · have h := ifn cc_49 h
          refine Y_iconst (pc := 56) hC d_Ar_isNeeded_56 ki_0 ?_
          exact Y_zret (pc := 57) hC hE d_Ar_isNeeded_57 rfl h
        · have h := ifp cc_49 h
          refine Y_iconst (pc := 52) hC d_Ar_isNeeded_52 ki_1 ?_
          refine Y_goto (pc := 53) hC 57 d_Ar_isNeeded_53 rfl ?_
          exact Y_zret (pc := 57) hC hE d_Ar_isNeeded_57 rfl h
set_option maxHeartbeats 4000000 in
set_option maxRecDepth 100000 in
theorem ylp_Ar_firstNeeded_4 {C : YC} {r : Int32} {V' : Sto} {x1 : Int32} {k93 : Int32 → Sto → RT} (hC : YF C R_Ar b_Ar_firstNeeded 6 rm_Ar_firstNeeded) (hE : YEi C .int shpC r V') (hk93 : ∀ (y2 : Int32) (V1 : Sto), k93 y2 V1 = some (r, V') → Y C shpC 6 93 [(2, .int y2)] [] V1) : ∀ (n : Nat) (x2 x3 : Int32) (V : Sto), lp_Ar_firstNeeded_4 x1 k93 n x2 x3 V = some (r, V') → Y C shpC 6 4 [(0, .ref (C.a 5)), (1, .int x1), (2, .int x2), (3, .int x3)] [] V := by
  intro n
  induction n with
  | zero =>
    intro x2 x3 V h
    rw [lp_Ar_firstNeeded_4] at h
    cases h
  | succ n ih =>
    intro x2 x3 V h
    rw [lp_Ar_firstNeeded_4] at h
    refine Y_iload_n (pc := 4) hC d_Ar_firstNeeded_4 rfl 3 rfl ?_
    refine Y_aload_n (pc := 5) hC d_Ar_firstNeeded_5 rfl 0 rfl ?_
    refine Y_getR (pc := 6) hC sc_5 fl_Ar_22 rfl d_Ar_firstNeeded_6 ?_
    refine Y_getI (pc := 9) hC sc_3 fl_Ar_54 rfl d_Ar_firstNeeded_9 ?_
    refine Y_icmp_ge (pc := 12) hC 93 d_Ar_firstNeeded_12 rfl (fun cc_12 => ?_) (fun cc_12 => ?_)
    · have h := ifp cc_12 h
      refine Y_sub (pc := 93) [2] rfl ?_
      exact hk93 _ _ h
    · have h := ifn cc_12 h
      refine Y_aload_n (pc := 15) hC d_Ar_firstNeeded_15 rfl 0 rfl ?_
      refine Y_getR (pc := 16) hC sc_5 fl_Ar_22 rfl d_Ar_firstNeeded_16 ?_
      refine Y_getR (pc := 19) hC sc_3 fl_Ar_57 rfl d_Ar_firstNeeded_19 ?_
      refine Y_iload_n (pc := 22) hC d_Ar_firstNeeded_22 rfl 3 rfl ?_
      obtain ⟨hi, h⟩ := ck_some h
      refine Y_iald (pc := 23) hC sc_21 rfl hi d_Ar_firstNeeded_23 ?_
      refine Y_istore (pc := 24) hC (L' := [(4, .int (V 21 x3.toNatClampNeg)), (0, .ref (C.a 5)), (1, .int x1), (2, .int x2), (3, .int x3)]) d_Ar_firstNeeded_24 (by decide) rfl ?_
      refine Y_aload_n (pc := 26) hC d_Ar_firstNeeded_26 rfl 1 rfl ?_
      refine Y_getR (pc := 27) hC sc_5 fl_Ar_18 rfl d_Ar_firstNeeded_27 ?_
      refine Y_getR (pc := 30) hC sc_1 fl_Ar_43 rfl d_Ar_firstNeeded_30 ?_
      refine Y_iload (pc := 33) hC d_Ar_firstNeeded_33 0 rfl ?_
      obtain ⟨hi, h⟩ := ck_some h
      refine Y_iald (pc := 35) hC sc_12 rfl hi d_Ar_firstNeeded_35 ?_
      refine Y_iload_n (pc := 36) hC d_Ar_firstNeeded_36 rfl 2 rfl ?_
      obtain ⟨j1, hj1, h⟩ := jn_some h
      have kj1 : ∀ (z1 : Int32), j1 z1 = some (r, V') → Y C shpC 6 58 [(0, .ref (C.a 5)), (1, .int x1), (2, .int x2), (3, .int x3), (4, .int (V 21 x3.toNatClampNeg))] [.int z1] V := by
        intro z1 h
        subst hj1
        dsimp only at h
        refine Y_istore (pc := 58) hC (L' := [(5, .int z1), (0, .ref (C.a 5)), (1, .int x1), (2, .int x2), (3, .int x3), (4, .int (V 21 x3.toNatClampNeg))]) d_Ar_firstNeeded_58 (by decide) rfl ?_
        refine Y_iload (pc := 60) hC d_Ar_firstNeeded_60 0 rfl ?_
        refine Y_if_eq (pc := 62) hC 87 d_Ar_firstNeeded_62 rfl (fun cc_62 => ?_) (fun cc_62 => ?_)
        · have h := ifp cc_62 h
          refine Y_iinc (pc := 87) hC (v := x3 + 1) (L' := [(3, .int (x3 + 1)), (5, .int z1), (0, .ref (C.a 5)), (1, .int x1), (2, .int x2), (4, .int (V 21 x3.toNatClampNeg))]) d_Ar_firstNeeded_87 4 rfl rfl (by decide) rfl ?_
          refine Y_goto (pc := 90) hC 4 d_Ar_firstNeeded_90 rfl ?_
          refine Y_sub (pc := 4) [2, 3, 4, 0] rfl ?_
          exact ih _ _ _ h
        · have h := ifn cc_62 h
          refine Y_aload_n (pc := 65) hC d_Ar_firstNeeded_65 rfl 1 rfl ?_
          refine Y_iload_n (pc := 66) hC d_Ar_firstNeeded_66 rfl 4 rfl ?_
          obtain ⟨r1, V1, hc_r1, h⟩ := cl_some h
          refine Y_callV (pc := 67) hC (c_Ar_isNeeded C.l C.D C.cI C.cZ C.a hc_r1) sc_5 cls_Ar ml_Ar_73 mv_Ar_isNeeded (by decide) (Nat.le_of_ble_eq_true rfl) rfl d_Ar_firstNeeded_67 ?_
          refine Y_if_eq (pc := 70) hC 87 d_Ar_firstNeeded_70 rfl (fun cc_70 => ?_) (fun cc_70 => ?_)
          · have h := ifp cc_70 h
            refine Y_iinc (pc := 87) hC (v := x3 + 1) (L' := [(3, .int (x3 + 1)), (5, .int z1), (0, .ref (C.a 5)), (1, .int x1), (2, .int x2), (4, .int (V 21 x3.toNatClampNeg))]) d_Ar_firstNeeded_87 4 rfl rfl (by decide) rfl ?_
            refine Y_goto (pc := 90) hC 4 d_Ar_firstNeeded_90 rfl ?_
            refine Y_sub (pc := 4) [2, 3, 4, 0] rfl ?_
            exact ih _ _ _ h
          · have h := ifn cc_70 h
            refine Y_iload_n (pc := 73) hC d_Ar_firstNeeded_73 rfl 3 rfl ?_
            refine Y_iconst (pc := 74) hC d_Ar_firstNeeded_74 ki_m1 ?_
            refine Y_icmp_eq (pc := 75) hC 84 d_Ar_firstNeeded_75 rfl (fun cc_75 => ?_) (fun cc_75 => ?_)
            · have h := ifp cc_75 h
              refine Y_iload (pc := 84) hC d_Ar_firstNeeded_84 5 rfl ?_
              refine Y_istore_n (pc := 86) hC (L' := [(2, .int (V 21 x3.toNatClampNeg)), (5, .int z1), (0, .ref (C.a 5)), (1, .int x1), (3, .int x3), (4, .int (V 21 x3.toNatClampNeg))]) d_Ar_firstNeeded_86 rfl (by decide) rfl ?_
              refine Y_iinc (pc := 87) hC (v := x3 + 1) (L' := [(3, .int (x3 + 1)), (2, .int (V 21 x3.toNatClampNeg)), (5, .int z1), (0, .ref (C.a 5)), (1, .int x1), (4, .int (V 21 x3.toNatClampNeg))]) d_Ar_firstNeeded_87 4 rfl rfl (by decide) rfl ?_
              refine Y_goto (pc := 90) hC 4 d_Ar_firstNeeded_90 rfl ?_
              refine Y_sub (pc := 4) [3, 4, 1, 0] rfl ?_
              exact ih _ _ _ h
            · have h := ifn cc_75 h
              refine Y_iload (pc := 78) hC d_Ar_firstNeeded_78 5 rfl ?_
              refine Y_iload_n (pc := 80) hC d_Ar_firstNeeded_80 rfl 3 rfl ?_
              refine Y_icmp_ge (pc := 81) hC 87 d_Ar_firstNeeded_81 rfl (fun cc_81 => ?_) (fun cc_81 => ?_)
              · have h := ifp cc_81 h
                refine Y_iinc (pc := 87) hC (v := x3 + 1) (L' := [(3, .int (x3 + 1)), (5, .int z1), (0, .ref (C.a 5)), (1, .int x1), (2, .int x2), (4, .int (V 21 x3.toNatClampNeg))]) d_Ar_firstNeeded_87 4 rfl rfl (by decide) rfl ?_
                refine Y_goto (pc := 90) hC 4 d_Ar_firstNeeded_90 rfl ?_
                refine Y_sub (pc := 4) [2, 3, 4, 0] rfl ?_
                exact ih _ _ _ h
              · have h := ifn cc_81 h
                refine Y_iload (pc := 84) hC d_Ar_firstNeeded_84 5 rfl ?_
                refine Y_istore_n (pc := 86) hC (L' := [(2, .int (V 21 x3.toNatClampNeg)), (5, .int z1), (0, .ref (C.a 5)), (1, .int x1), (3, .int x3), (4, .int (V 21 x3.toNatClampNeg))]) d_Ar_firstNeeded_86 rfl (by decide) rfl ?_
                refine Y_iinc (pc := 87) hC (v := x3 + 1) (L' := [(3, .int (x3 + 1)), (2, .int (V 21 x3.toNatClampNeg)), (5, .int z1), (0, .ref (C.a 5)), (1, .int x1), (4, .int (V 21 x3.toNatClampNeg))]) d_Ar_firstNeeded_87 4 rfl rfl (by decide) rfl ?_
                refine Y_goto (pc := 90) hC 4 d_Ar_firstNeeded_90 rfl ?_
                refine Y_sub (pc := 4) [3, 4, 1, 0] rfl ?_
                exact ih _ _ _ h
      refine Y_icmp_ne (pc := 37) hC 57 d_Ar_firstNeeded_37 rfl (fun cc_37 => ?_) (fun cc_37 => ?_)
      · have h := ifn cc_37 h
        refine Y_iconst (pc := 57) hC d_Ar_firstNeeded_57 ki_0 ?_
        refine Y_sub (pc := 58) [1, 2, 3, 4, 0] rfl ?_
        exact kj1 _ h
      · have h := ifp cc_37 h
        refine Y_aload_n (pc := 40) hC d_Ar_firstNeeded_40 rfl 1 rfl ?_
        refine Y_getR (pc := 41) hC sc_5 fl_Ar_18 rfl d_Ar_firstNeeded_41 ?_
        refine Y_getR (pc := 44) hC sc_1 fl_Ar_40 rfl d_Ar_firstNeeded_44 ?_
        refine Y_iload (pc := 47) hC d_Ar_firstNeeded_47 0 rfl ?_
        obtain ⟨hi, h⟩ := ck_some h
        refine Y_zald (pc := 49) hC sc_13 rfl hi d_Ar_firstNeeded_49 ?_
        refine Y_if_ne (pc := 50) hC 57 d_Ar_firstNeeded_50 rfl (fun cc_50 => ?_) (fun cc_50 => ?_)
        · have h := ifn cc_50 h
          refine Y_iconst (pc := 57) hC d_Ar_firstNeeded_57 ki_0 ?_
          refine Y_sub (pc := 58) [1, 2, 3, 4, 0] rfl ?_
          exact kj1 _ h
        · have h := ifp cc_50 h
          refine Y_iconst (pc := 53) hC d_Ar_firstNeeded_53 ki_1 ?_
          refine Y_goto (pc := 54) hC 58 d_Ar_firstNeeded_54 rfl ?_
          refine Y_sub (pc := 58) [1, 2, 3, 4, 0] rfl ?_
          exact kj1 _ h
set_option maxHeartbeats 4000000 in
set_option maxRecDepth 100000 in
theorem c_Ar_firstNeeded (l : Launch) (D : va_G) (cI cZ : ClassId) (a : Nat → Nat) {V : Sto} {p1 : Int32} {r : Int32} {V' : Sto} (h : f_Ar_firstNeeded V p1 = some (r, V')) : YMi l D cI cZ a shpC y_Ar_firstNeeded b_Ar_firstNeeded 6 (some .int) rm_Ar_firstNeeded [.ref (a 5), .int p1] V r V' := by
  refine YMi_of (by decide) (Nat.le_of_ble_eq_true rfl) ?_
  intro C hl hDD hcI hcZ ha hC hE
  subst hl hDD hcI hcZ ha
  show Y C shpC 6 0 [(0, .ref (C.a 5)), (1, .int p1)] [] V
  rw [f_Ar_firstNeeded] at h
  refine Y_iconst (pc := 0) hC d_Ar_firstNeeded_0 ki_m1 ?_
  refine Y_istore_n (pc := 1) hC (L' := [(2, .int (-1)), (0, .ref (C.a 5)), (1, .int p1)]) d_Ar_firstNeeded_1 rfl (by decide) rfl ?_
  refine Y_iconst (pc := 2) hC d_Ar_firstNeeded_2 ki_0 ?_
  refine Y_istore_n (pc := 3) hC (L' := [(3, .int 0), (2, .int (-1)), (0, .ref (C.a 5)), (1, .int p1)]) d_Ar_firstNeeded_3 rfl (by decide) rfl ?_
  refine Y_sub (pc := 4) [2, 3, 1, 0] rfl ?_
  refine ylp_Ar_firstNeeded_4 hC hE (fun y1 V2 h => ?_) FU _ _ _ h
  refine Y_iload_n (pc := 93) hC d_Ar_firstNeeded_93 rfl 0 rfl ?_
  exact Y_iret (pc := 94) hC hE d_Ar_firstNeeded_94 h
set_option maxHeartbeats 4000000 in
set_option maxRecDepth 100000 in
theorem ylp_Ar_goThroughArchives_11 {C : YC} {r : Int32} {V' : Sto} {x2 : Int32} {k47 : Int32 → Sto → RT} (hC : YF C R_Ar b_Ar_goThroughArchives 5 rm_Ar_goThroughArchives) (hE : YEi C .boolean shpC r V') (hk47 : ∀ (y1 : Int32) (V1 : Sto), k47 y1 V1 = some (r, V') → Y C shpC 5 47 [(0, .ref (C.a 5)), (2, .int x2), (1, .int y1)] [] V1) : ∀ (n : Nat) (x1 x3 : Int32) (V : Sto), lp_Ar_goThroughArchives_11 x2 k47 n x1 x3 V = some (r, V') → Y C shpC 5 11 [(0, .ref (C.a 5)), (1, .int x1), (2, .int x2), (3, .int x3)] [] V := by
  intro n
  induction n with
  | zero =>
    intro x1 x3 V h
    rw [lp_Ar_goThroughArchives_11] at h
    cases h
  | succ n ih =>
    intro x1 x3 V h
    rw [lp_Ar_goThroughArchives_11] at h
    refine Y_iload_n (pc := 11) hC d_Ar_goThroughArchives_11 rfl 3 rfl ?_
    refine Y_bipush (pc := 12) hC d_Ar_goThroughArchives_12 kb_24 ?_
    refine Y_icmp_ge (pc := 14) hC 47 d_Ar_goThroughArchives_14 rfl (fun cc_14 => ?_) (fun cc_14 => ?_)
    · have h := ifp cc_14 h
      refine Y_sub (pc := 47) [0, 2, 1] rfl ?_
      exact hk47 _ _ h
    · have h := ifn cc_14 h
      refine Y_aload_n (pc := 17) hC d_Ar_goThroughArchives_17 rfl 0 rfl ?_
      refine Y_iload_n (pc := 18) hC d_Ar_goThroughArchives_18 rfl 2 rfl ?_
      obtain ⟨r1, V1, hc_r1, h⟩ := cl_some h
      refine Y_callV (pc := 19) hC (c_Ar_firstNeeded C.l C.D C.cI C.cZ C.a hc_r1) sc_5 cls_Ar ml_Ar_50 mv_Ar_firstNeeded (by decide) (Nat.le_of_ble_eq_true rfl) rfl d_Ar_goThroughArchives_19 ?_
      refine Y_istore (pc := 22) hC (L' := [(4, .int r1), (0, .ref (C.a 5)), (1, .int x1), (2, .int x2), (3, .int x3)]) d_Ar_goThroughArchives_22 (by decide) rfl ?_
      refine Y_iload (pc := 24) hC d_Ar_goThroughArchives_24 0 rfl ?_
      refine Y_iconst (pc := 26) hC d_Ar_goThroughArchives_26 ki_m1 ?_
      refine Y_icmp_ne (pc := 27) hC 33 d_Ar_goThroughArchives_27 rfl (fun cc_27 => ?_) (fun cc_27 => ?_)
      · have h := ifn cc_27 h
        refine Y_aload_n (pc := 33) hC d_Ar_goThroughArchives_33 rfl 1 rfl ?_
        refine Y_iload (pc := 34) hC d_Ar_goThroughArchives_34 0 rfl ?_
        obtain ⟨r2, V2, hc_r2, h⟩ := cl_some h
        refine Y_callVv (pc := 36) hC (c_Ar_admit C.l C.D C.cI C.cZ C.a hc_r2) sc_5 cls_Ar ml_Ar_47 mv_Ar_admit (by decide) (Nat.le_of_ble_eq_true rfl) rfl d_Ar_goThroughArchives_36 ?_
        refine Y_iconst (pc := 39) hC d_Ar_goThroughArchives_39 ki_1 ?_
        refine Y_istore_n (pc := 40) hC (L' := [(1, .int 1), (4, .int r1), (0, .ref (C.a 5)), (2, .int x2), (3, .int x3)]) d_Ar_goThroughArchives_40 rfl (by decide) rfl ?_
        refine Y_iinc (pc := 41) hC (v := x3 + 1) (L' := [(3, .int (x3 + 1)), (1, .int 1), (4, .int r1), (0, .ref (C.a 5)), (2, .int x2)]) d_Ar_goThroughArchives_41 4 rfl rfl (by decide) rfl ?_
        refine Y_goto (pc := 44) hC 11 d_Ar_goThroughArchives_44 rfl ?_
        refine Y_sub (pc := 11) [3, 1, 4, 0] rfl ?_
        exact ih _ _ _ h
      · have h := ifp cc_27 h
        refine Y_goto (pc := 30) hC 47 d_Ar_goThroughArchives_30 rfl ?_
        refine Y_sub (pc := 47) [1, 3, 2] rfl ?_
        exact hk47 _ _ h
set_option maxHeartbeats 4000000 in
set_option maxRecDepth 100000 in
theorem ylp_Ar_goThroughArchives_4 {C : YC} {r : Int32} {V' : Sto} {k53 : Int32 → Sto → RT} (hC : YF C R_Ar b_Ar_goThroughArchives 5 rm_Ar_goThroughArchives) (hE : YEi C .boolean shpC r V') (hk53 : ∀ (y1 : Int32) (V1 : Sto), k53 y1 V1 = some (r, V') → Y C shpC 5 53 [(1, .int y1)] [] V1) : ∀ (n : Nat) (x1 x2 : Int32) (V : Sto), lp_Ar_goThroughArchives_4 k53 n x1 x2 V = some (r, V') → Y C shpC 5 4 [(0, .ref (C.a 5)), (1, .int x1), (2, .int x2)] [] V := by
  intro n
  induction n with
  | zero =>
    intro x1 x2 V h
    rw [lp_Ar_goThroughArchives_4] at h
    cases h
  | succ n ih =>
    intro x1 x2 V h
    rw [lp_Ar_goThroughArchives_4] at h
    refine Y_iload_n (pc := 4) hC d_Ar_goThroughArchives_4 rfl 2 rfl ?_
    refine Y_iconst (pc := 5) hC d_Ar_goThroughArchives_5 ki_4 ?_
    refine Y_icmp_ge (pc := 6) hC 53 d_Ar_goThroughArchives_6 rfl (fun cc_6 => ?_) (fun cc_6 => ?_)
    · have h := ifp cc_6 h
      refine Y_sub (pc := 53) [1] rfl ?_
      exact hk53 _ _ h
    · have h := ifn cc_6 h
      refine Y_iconst (pc := 9) hC d_Ar_goThroughArchives_9 ki_0 ?_
      refine Y_istore_n (pc := 10) hC (L' := [(3, .int 0), (0, .ref (C.a 5)), (1, .int x1), (2, .int x2)]) d_Ar_goThroughArchives_10 rfl (by decide) rfl ?_
      refine Y_sub (pc := 11) [1, 2, 3, 0] rfl ?_
      refine ylp_Ar_goThroughArchives_11 hC hE (fun y1 V3 h => ?_) FU _ _ _ h
      refine Y_iinc (pc := 47) hC (v := x2 + 1) (L' := [(2, .int (x2 + 1)), (0, .ref (C.a 5)), (1, .int y1)]) d_Ar_goThroughArchives_47 1 rfl rfl (by decide) rfl ?_
      refine Y_goto (pc := 50) hC 4 d_Ar_goThroughArchives_50 rfl ?_
      refine Y_sub (pc := 4) [1, 2, 0] rfl ?_
      exact ih _ _ _ h
set_option maxHeartbeats 4000000 in
set_option maxRecDepth 100000 in
theorem c_Ar_goThroughArchives (l : Launch) (D : va_G) (cI cZ : ClassId) (a : Nat → Nat) {V : Sto} {r : Int32} {V' : Sto} (h : f_Ar_goThroughArchives V = some (r, V')) : YMi l D cI cZ a shpC y_Ar_goThroughArchives b_Ar_goThroughArchives 5 (some .boolean) rm_Ar_goThroughArchives [.ref (a 5)] V r V' := by
  refine YMi_of (by decide) (Nat.le_of_ble_eq_true rfl) ?_
  intro C hl hDD hcI hcZ ha hC hE
  subst hl hDD hcI hcZ ha
  show Y C shpC 5 0 [(0, .ref (C.a 5))] [] V
  rw [f_Ar_goThroughArchives] at h
  refine Y_iconst (pc := 0) hC d_Ar_goThroughArchives_0 ki_0 ?_
  refine Y_istore_n (pc := 1) hC (L' := [(1, .int 0), (0, .ref (C.a 5))]) d_Ar_goThroughArchives_1 rfl (by decide) rfl ?_
  refine Y_iconst (pc := 2) hC d_Ar_goThroughArchives_2 ki_0 ?_
  refine Y_istore_n (pc := 3) hC (L' := [(2, .int 0), (1, .int 0), (0, .ref (C.a 5))]) d_Ar_goThroughArchives_3 rfl (by decide) rfl ?_
  refine Y_sub (pc := 4) [2, 1, 0] rfl ?_
  refine ylp_Ar_goThroughArchives_4 hC hE (fun y2 V4 h => ?_) FU _ _ _ h
  refine Y_iload_n (pc := 53) hC d_Ar_goThroughArchives_53 rfl 0 rfl ?_
  obtain ⟨hbb, h⟩ := ck_some h
  exact Y_zret (pc := 54) hC hE d_Ar_goThroughArchives_54 hbb h
set_option maxHeartbeats 4000000 in
set_option maxRecDepth 100000 in
theorem ylp_Ar_bringIn_19 {C : YC} {r : Int32} {V' : Sto} {x3 : Int32} {k41 : Sto → RT} (hC : YF C R_Ar b_Ar_bringIn 5 rm_Ar_bringIn) (hE : YEv C shpC V') (hk41 : ∀ (V1 : Sto), k41 V1 = some (r, V') → Y C shpC 5 41 [] [] V1) : ∀ (n : Nat) (x4 : Int32) (V : Sto), lp_Ar_bringIn_19 x3 k41 n x4 V = some (r, V') → Y C shpC 5 19 [(0, .ref (C.a 5)), (3, .int x3), (4, .int x4)] [] V := by
  intro n
  induction n with
  | zero =>
    intro x4 V h
    rw [lp_Ar_bringIn_19] at h
    cases h
  | succ n ih =>
    intro x4 V h
    rw [lp_Ar_bringIn_19] at h
    refine Y_iload (pc := 19) hC d_Ar_bringIn_19 2 rfl ?_
    refine Y_iload_n (pc := 21) hC d_Ar_bringIn_21 rfl 1 rfl ?_
    refine Y_icmp_ge (pc := 22) hC 41 d_Ar_bringIn_22 rfl (fun cc_22 => ?_) (fun cc_22 => ?_)
    · have h := ifp cc_22 h
      refine Y_sub (pc := 41) [] rfl ?_
      exact hk41 _ h
    · have h := ifn cc_22 h
      refine Y_aload_n (pc := 25) hC d_Ar_bringIn_25 rfl 0 rfl ?_
      obtain ⟨r2, V2, hc_r2, h⟩ := cl_some h
      refine Y_callV (pc := 26) hC (c_Ar_goThroughArchives C.l C.D C.cI C.cZ C.a hc_r2) sc_5 cls_Ar ml_Ar_30 mv_Ar_goThroughArchives (by decide) (Nat.le_of_ble_eq_true rfl) rfl d_Ar_bringIn_26 ?_
      refine Y_if_ne (pc := 29) hC 35 d_Ar_bringIn_29 rfl (fun cc_29 => ?_) (fun cc_29 => ?_)
      · have h := ifn cc_29 h
        refine Y_iinc (pc := 35) hC (v := x4 + 1) (L' := [(4, .int (x4 + 1)), (0, .ref (C.a 5)), (3, .int x3)]) d_Ar_bringIn_35 2 rfl rfl (by decide) rfl ?_
        refine Y_goto (pc := 38) hC 19 d_Ar_bringIn_38 rfl ?_
        refine Y_sub (pc := 19) [1, 2, 0] rfl ?_
        exact ih _ _ h
      · have h := ifp cc_29 h
        refine Y_goto (pc := 32) hC 41 d_Ar_bringIn_32 rfl ?_
        refine Y_sub (pc := 41) [] rfl ?_
        exact hk41 _ h
set_option maxHeartbeats 4000000 in
set_option maxRecDepth 100000 in
theorem c_Ar_bringIn (l : Launch) (D : va_G) (cI cZ : ClassId) (a : Nat → Nat) {V : Sto} {p1 p2 : Int32} {r : Int32} {V' : Sto} (h : f_Ar_bringIn V p1 p2 = some (r, V')) : YMv l D cI cZ a shpC y_Ar_bringIn b_Ar_bringIn 5 rm_Ar_bringIn [.ref (a 5), .int p1, .int p2] V V' := by
  refine YMv_of (by decide) (Nat.le_of_ble_eq_true rfl) ?_
  intro C hl hDD hcI hcZ ha hC hE
  subst hl hDD hcI hcZ ha
  show Y C shpC 5 0 [(0, .ref (C.a 5)), (1, .int p1), (2, .int p2)] [] V
  rw [f_Ar_bringIn] at h
  refine Y_aload_n (pc := 0) hC d_Ar_bringIn_0 rfl 0 rfl ?_
  refine Y_iload_n (pc := 1) hC d_Ar_bringIn_1 rfl 1 rfl ?_
  obtain ⟨r1, V1, hc_r1, h⟩ := cl_some h
  refine Y_callVv (pc := 2) hC (c_Ar_begin C.l C.D C.cI C.cZ C.a hc_r1) sc_5 cls_Ar ml_Ar_26 mv_Ar_begin (by decide) (Nat.le_of_ble_eq_true rfl) rfl d_Ar_bringIn_2 ?_
  refine Y_iload_n (pc := 5) hC d_Ar_bringIn_5 rfl 2 rfl ?_
  obtain ⟨j1, hj1, h⟩ := jn_some h
  have kj1 : ∀ (z1 : Int32), j1 z1 = some (r, V') → Y C shpC 5 15 [(0, .ref (C.a 5))] [.int z1] V1 := by
    intro z1 h
    subst hj1
    dsimp only at h
    refine Y_istore_n (pc := 15) hC (L' := [(3, .int z1), (0, .ref (C.a 5))]) d_Ar_bringIn_15 rfl (by decide) rfl ?_
    refine Y_iconst (pc := 16) hC d_Ar_bringIn_16 ki_0 ?_
    refine Y_istore (pc := 17) hC (L' := [(4, .int 0), (3, .int z1), (0, .ref (C.a 5))]) d_Ar_bringIn_17 (by decide) rfl ?_
    refine Y_sub (pc := 19) [2, 1, 0] rfl ?_
    refine ylp_Ar_bringIn_19 hC hE (fun V3 h => ?_) FU _ _ h
    exact Y_vret (pc := 41) hC hE d_Ar_bringIn_41 h
  refine Y_if_eq (pc := 6) hC 14 d_Ar_bringIn_6 rfl (fun cc_6 => ?_) (fun cc_6 => ?_)
  · have h := ifp cc_6 h
    refine Y_iconst (pc := 14) hC d_Ar_bringIn_14 ki_1 ?_
    refine Y_sub (pc := 15) [0] rfl ?_
    exact kj1 _ h
  · have h := ifn cc_6 h
    refine Y_bipush (pc := 9) hC d_Ar_bringIn_9 kb_25 ?_
    refine Y_goto (pc := 11) hC 15 d_Ar_bringIn_11 rfl ?_
    refine Y_sub (pc := 15) [0] rfl ?_
    exact kj1 _ h
set_option maxHeartbeats 4000000 in
set_option maxRecDepth 100000 in
theorem c_Na_isCommon (l : Launch) (D : va_G) (cI cZ : ClassId) (a : Nat → Nat) {V : Sto} {p1 : Int32} {r : Int32} {V' : Sto} (h : f_Na_isCommon V p1 = some (r, V')) : YMi l D cI cZ a shpC y_Na_isCommon b_Na_isCommon 2 (some .boolean) rm_Na_isCommon [.ref (a 6), .int p1] V r V' := by
  refine YMi_of (by decide) (Nat.le_of_ble_eq_true rfl) ?_
  intro C hl hDD hcI hcZ ha hC hE
  subst hl hDD hcI hcZ ha
  show Y C shpC 2 0 [(0, .ref (C.a 6)), (1, .int p1)] [] V
  rw [f_Na_isCommon] at h
  refine Y_aload_n (pc := 0) hC d_Na_isCommon_0 rfl 0 rfl ?_
  refine Y_getR (pc := 1) hC sc_6 fl_Na_9 rfl d_Na_isCommon_1 ?_
  refine Y_iload_n (pc := 4) hC d_Na_isCommon_4 rfl 1 rfl ?_
  obtain ⟨hi, h⟩ := ck_some h
  refine Y_iald (pc := 5) hC sc_37 rfl hi d_Na_isCommon_5 ?_
  refine Y_iconst (pc := 6) hC d_Na_isCommon_6 ki_m1 ?_
  refine Y_icmp_ne (pc := 7) hC 23 d_Na_isCommon_7 rfl (fun cc_7 => ?_) (fun cc_7 => ?_)
  · have h := ifn cc_7 h
    refine Y_iconst (pc := 23) hC d_Na_isCommon_23 ki_0 ?_
    exact Y_zret (pc := 24) hC hE d_Na_isCommon_24 rfl h
  · have h := ifp cc_7 h
    refine Y_aload_n (pc := 10) hC d_Na_isCommon_10 rfl 0 rfl ?_
    refine Y_getR (pc := 11) hC sc_6 fl_Na_18 rfl d_Na_isCommon_11 ?_
    refine Y_iload_n (pc := 14) hC d_Na_isCommon_14 rfl 1 rfl ?_
    obtain ⟨hi, h⟩ := ck_some h
    refine Y_iald (pc := 15) hC sc_39 rfl hi d_Na_isCommon_15 ?_
    refine Y_if_le (pc := 16) hC 23 d_Na_isCommon_16 rfl (fun cc_16 => ?_) (fun cc_16 => ?_)
    · have h := ifp cc_16 h
      refine Y_iconst (pc := 23) hC d_Na_isCommon_23 ki_0 ?_
      exact Y_zret (pc := 24) hC hE d_Na_isCommon_24 rfl h
    · have h := ifn cc_16 h
      refine Y_iconst (pc := 19) hC d_Na_isCommon_19 ki_1 ?_
      refine Y_goto (pc := 20) hC 24 d_Na_isCommon_20 rfl ?_
      exact Y_zret (pc := 24) hC hE d_Na_isCommon_24 rfl h
set_option maxHeartbeats 4000000 in
set_option maxRecDepth 100000 in
theorem c_Na_definer (l : Launch) (D : va_G) (cI cZ : ClassId) (a : Nat → Nat) {V : Sto} {p1 : Int32} {r : Int32} {V' : Sto} (h : f_Na_definer V p1 = some (r, V')) : YMi l D cI cZ a shpC y_Na_definer b_Na_definer 2 (some .int) rm_Na_definer [.ref (a 6), .int p1] V r V' := by
  refine YMi_of (by decide) (Nat.le_of_ble_eq_true rfl) ?_
  intro C hl hDD hcI hcZ ha hC hE
  subst hl hDD hcI hcZ ha
  show Y C shpC 2 0 [(0, .ref (C.a 6)), (1, .int p1)] [] V
  rw [f_Na_definer] at h
  refine Y_aload_n (pc := 0) hC d_Na_definer_0 rfl 0 rfl ?_
  refine Y_getR (pc := 1) hC sc_6 fl_Na_9 rfl d_Na_definer_1 ?_
  refine Y_iload_n (pc := 4) hC d_Na_definer_4 rfl 1 rfl ?_
  obtain ⟨hi, h⟩ := ck_some h
  refine Y_iald (pc := 5) hC sc_37 rfl hi d_Na_definer_5 ?_
  refine Y_iconst (pc := 6) hC d_Na_definer_6 ki_m1 ?_
  refine Y_icmp_eq (pc := 7) hC 17 d_Na_definer_7 rfl (fun cc_7 => ?_) (fun cc_7 => ?_)
  · have h := ifp cc_7 h
    refine Y_aload_n (pc := 17) hC d_Na_definer_17 rfl 0 rfl ?_
    refine Y_iload_n (pc := 18) hC d_Na_definer_18 rfl 1 rfl ?_
    obtain ⟨r1, V1, hc_r1, h⟩ := cl_some h
    refine Y_callV (pc := 19) hC (c_Na_isCommon C.l C.D C.cI C.cZ C.a hc_r1) sc_6 cls_Na ml_Na_93 mv_Na_isCommon (by decide) (Nat.le_of_ble_eq_true rfl) rfl d_Na_definer_19 ?_
    refine Y_if_eq (pc := 22) hC 29 d_Na_definer_22 rfl (fun cc_22 => ?_) (fun cc_22 => ?_)
    · have h := ifp cc_22 h
      refine Y_aload_n (pc := 29) hC d_Na_definer_29 rfl 0 rfl ?_
      refine Y_getR (pc := 30) hC sc_6 fl_Na_15 rfl d_Na_definer_30 ?_
      refine Y_iload_n (pc := 33) hC d_Na_definer_33 rfl 1 rfl ?_
      obtain ⟨hi, h⟩ := ck_some h
      refine Y_iald (pc := 34) hC sc_38 rfl hi d_Na_definer_34 ?_
      exact Y_iret (pc := 35) hC hE d_Na_definer_35 h
    · have h := ifn cc_22 h
      refine Y_iconst (pc := 25) hC d_Na_definer_25 ki_m1 ?_
      refine Y_goto (pc := 26) hC 35 d_Na_definer_26 rfl ?_
      exact Y_iret (pc := 35) hC hE d_Na_definer_35 h
  · have h := ifn cc_7 h
    refine Y_aload_n (pc := 10) hC d_Na_definer_10 rfl 0 rfl ?_
    refine Y_getR (pc := 11) hC sc_6 fl_Na_9 rfl d_Na_definer_11 ?_
    refine Y_iload_n (pc := 14) hC d_Na_definer_14 rfl 1 rfl ?_
    obtain ⟨hi, h⟩ := ck_some h
    refine Y_iald (pc := 15) hC sc_37 rfl hi d_Na_definer_15 ?_
    exact Y_iret (pc := 16) hC hE d_Na_definer_16 h
set_option maxHeartbeats 4000000 in
set_option maxRecDepth 100000 in
theorem c_Na_isDefined (l : Launch) (D : va_G) (cI cZ : ClassId) (a : Nat → Nat) {V : Sto} {p1 : Int32} {r : Int32} {V' : Sto} (h : f_Na_isDefined V p1 = some (r, V')) : YMi l D cI cZ a shpC y_Na_isDefined b_Na_isDefined 2 (some .boolean) rm_Na_isDefined [.ref (a 6), .int p1] V r V' := by
  refine YMi_of (by decide) (Nat.le_of_ble_eq_true rfl) ?_
  intro C hl hDD hcI hcZ ha hC hE
  subst hl hDD hcI hcZ ha
  show Y C shpC 2 0 [(0, .ref (C.a 6)), (1, .int p1)] [] V
  rw [f_Na_isDefined] at h
  refine Y_aload_n (pc := 0) hC d_Na_isDefined_0 rfl 0 rfl ?_
  refine Y_iload_n (pc := 1) hC d_Na_isDefined_1 rfl 1 rfl ?_
  obtain ⟨r1, V1, hc_r1, h⟩ := cl_some h
  refine Y_callV (pc := 2) hC (c_Na_isCommon C.l C.D C.cI C.cZ C.a hc_r1) sc_6 cls_Na ml_Na_93 mv_Na_isCommon (by decide) (Nat.le_of_ble_eq_true rfl) rfl d_Na_isDefined_2 ?_
  refine Y_if_ne (pc := 5) hC 17 d_Na_isDefined_5 rfl (fun cc_5 => ?_) (fun cc_5 => ?_)
  · have h := ifn cc_5 h
    refine Y_iconst (pc := 17) hC d_Na_isDefined_17 ki_1 ?_
    refine Y_goto (pc := 18) hC 22 d_Na_isDefined_18 rfl ?_
    exact Y_zret (pc := 22) hC hE d_Na_isDefined_22 rfl h
  · have h := ifp cc_5 h
    refine Y_aload_n (pc := 8) hC d_Na_isDefined_8 rfl 0 rfl ?_
    refine Y_iload_n (pc := 9) hC d_Na_isDefined_9 rfl 1 rfl ?_
    obtain ⟨r2, V2, hc_r2, h⟩ := cl_some h
    refine Y_callV (pc := 10) hC (c_Na_definer C.l C.D C.cI C.cZ C.a hc_r2) sc_6 cls_Na ml_Na_96 mv_Na_definer (by decide) (Nat.le_of_ble_eq_true rfl) rfl d_Na_isDefined_10 ?_
    refine Y_iconst (pc := 13) hC d_Na_isDefined_13 ki_m1 ?_
    refine Y_icmp_eq (pc := 14) hC 21 d_Na_isDefined_14 rfl (fun cc_14 => ?_) (fun cc_14 => ?_)
    · have h := ifp cc_14 h
      refine Y_iconst (pc := 21) hC d_Na_isDefined_21 ki_0 ?_
      exact Y_zret (pc := 22) hC hE d_Na_isDefined_22 rfl h
    · have h := ifn cc_14 h
      refine Y_iconst (pc := 17) hC d_Na_isDefined_17 ki_1 ?_
      refine Y_goto (pc := 18) hC 22 d_Na_isDefined_18 rfl ?_
      exact Y_zret (pc := 22) hC hE d_Na_isDefined_22 rfl h
set_option maxHeartbeats 4000000 in
set_option maxRecDepth 100000 in
theorem c_Na_sectionOf (l : Launch) (D : va_G) (cI cZ : ClassId) (a : Nat → Nat) {V : Sto} {p1 : Int32} {r : Int32} {V' : Sto} (h : f_Na_sectionOf V p1 = some (r, V')) : YMi l D cI cZ a shpC y_Na_sectionOf b_Na_sectionOf 3 (some .int) rm_Na_sectionOf [.ref (a 6), .int p1] V r V' := by
  refine YMi_of (by decide) (Nat.le_of_ble_eq_true rfl) ?_
  intro C hl hDD hcI hcZ ha hC hE
  subst hl hDD hcI hcZ ha
  show Y C shpC 3 0 [(0, .ref (C.a 6)), (1, .int p1)] [] V
  rw [f_Na_sectionOf] at h
  refine Y_aload_n (pc := 0) hC d_Na_sectionOf_0 rfl 0 rfl ?_
  refine Y_iload_n (pc := 1) hC d_Na_sectionOf_1 rfl 1 rfl ?_
  obtain ⟨r1, V1, hc_r1, h⟩ := cl_some h
  refine Y_callV (pc := 2) hC (c_Na_definer C.l C.D C.cI C.cZ C.a hc_r1) sc_6 cls_Na ml_Na_96 mv_Na_definer (by decide) (Nat.le_of_ble_eq_true rfl) rfl d_Na_sectionOf_2 ?_
  refine Y_istore_n (pc := 5) hC (L' := [(2, .int r1), (0, .ref (C.a 6)), (1, .int p1)]) d_Na_sectionOf_5 rfl (by decide) rfl ?_
  refine Y_iload_n (pc := 6) hC d_Na_sectionOf_6 rfl 0 rfl ?_
  refine Y_iconst (pc := 7) hC d_Na_sectionOf_7 ki_m1 ?_
  refine Y_icmp_ne (pc := 8) hC 15 d_Na_sectionOf_8 rfl (fun cc_8 => ?_) (fun cc_8 => ?_)
  · have h := ifn cc_8 h
    refine Y_aload_n (pc := 15) hC d_Na_sectionOf_15 rfl 1 rfl ?_
    refine Y_getR (pc := 16) hC sc_6 fl_Na_34 rfl d_Na_sectionOf_16 ?_
    refine Y_getR (pc := 19) hC sc_3 fl_Na_100 rfl d_Na_sectionOf_19 ?_
    refine Y_iload_n (pc := 22) hC d_Na_sectionOf_22 rfl 0 rfl ?_
    obtain ⟨hi, h⟩ := ck_some h
    refine Y_iald (pc := 23) hC sc_25 rfl hi d_Na_sectionOf_23 ?_
    exact Y_iret (pc := 24) hC hE d_Na_sectionOf_24 h
  · have h := ifp cc_8 h
    refine Y_iconst (pc := 11) hC d_Na_sectionOf_11 ki_m1 ?_
    refine Y_goto (pc := 12) hC 24 d_Na_sectionOf_12 rfl ?_
    exact Y_iret (pc := 24) hC hE d_Na_sectionOf_24 h
set_option maxHeartbeats 4000000 in
set_option maxRecDepth 100000 in
theorem c_Na_setMeaning (l : Launch) (D : va_G) (cI cZ : ClassId) (a : Nat → Nat) {V : Sto} {p1 p2 p3 p4 : Int32} {r : Int32} {V' : Sto} (h : f_Na_setMeaning V p1 p2 p3 p4 = some (r, V')) : YMv l D cI cZ a shpC y_Na_setMeaning b_Na_setMeaning 5 rm_Na_setMeaning [.ref (a 6), .int p1, .int p2, .int p3, .int p4] V V' := by
  refine YMv_of (by decide) (Nat.le_of_ble_eq_true rfl) ?_
  intro C hl hDD hcI hcZ ha hC hE
  subst hl hDD hcI hcZ ha
  show Y C shpC 5 0 [(0, .ref (C.a 6)), (1, .int p1), (2, .int p2), (3, .int p3), (4, .int p4)] [] V
  rw [f_Na_setMeaning] at h
  refine Y_aload_n (pc := 0) hC d_Na_setMeaning_0 rfl 0 rfl ?_
  refine Y_getR (pc := 1) hC sc_6 fl_Na_21 rfl d_Na_setMeaning_1 ?_
  refine Y_iload_n (pc := 4) hC d_Na_setMeaning_4 rfl 1 rfl ?_
  refine Y_iload_n (pc := 5) hC d_Na_setMeaning_5 rfl 2 rfl ?_
  obtain ⟨hi, h⟩ := ck_some h
  obtain ⟨V1, hV1, h⟩ := nm_some h
  refine Y_iast (pc := 6) hC sc_40 (by decide) rfl hi rfl hV1 d_Na_setMeaning_6 ?_
  refine Y_aload_n (pc := 7) hC d_Na_setMeaning_7 rfl 0 rfl ?_
  refine Y_getR (pc := 8) hC sc_6 fl_Na_24 rfl d_Na_setMeaning_8 ?_
  refine Y_iload_n (pc := 11) hC d_Na_setMeaning_11 rfl 1 rfl ?_
  refine Y_iload_n (pc := 12) hC d_Na_setMeaning_12 rfl 3 rfl ?_
  obtain ⟨hi, h⟩ := ck_some h
  obtain ⟨V2, hV2, h⟩ := nm_some h
  refine Y_iast (pc := 13) hC sc_41 (by decide) rfl hi rfl hV2 d_Na_setMeaning_13 ?_
  refine Y_aload_n (pc := 14) hC d_Na_setMeaning_14 rfl 0 rfl ?_
  refine Y_getR (pc := 15) hC sc_6 fl_Na_27 rfl d_Na_setMeaning_15 ?_
  refine Y_iload_n (pc := 18) hC d_Na_setMeaning_18 rfl 1 rfl ?_
  refine Y_iload (pc := 19) hC d_Na_setMeaning_19 4 rfl ?_
  obtain ⟨hi, h⟩ := ck_some h
  obtain ⟨V3, hV3, h⟩ := nm_some h
  refine Y_iast (pc := 21) hC sc_42 (by decide) rfl hi rfl hV3 d_Na_setMeaning_21 ?_
  exact Y_vret (pc := 22) hC hE d_Na_setMeaning_22 h
set_option maxHeartbeats 4000000 in
set_option maxRecDepth 100000 in
theorem c_Na_copyMeaning (l : Launch) (D : va_G) (cI cZ : ClassId) (a : Nat → Nat) {V : Sto} {p1 p2 : Int32} {r : Int32} {V' : Sto} (h : f_Na_copyMeaning V p1 p2 = some (r, V')) : YMv l D cI cZ a shpC y_Na_copyMeaning b_Na_copyMeaning 3 rm_Na_copyMeaning [.ref (a 6), .int p1, .int p2] V V' := by
  refine YMv_of (by decide) (Nat.le_of_ble_eq_true rfl) ?_
  intro C hl hDD hcI hcZ ha hC hE
  subst hl hDD hcI hcZ ha
  show Y C shpC 3 0 [(0, .ref (C.a 6)), (1, .int p1), (2, .int p2)] [] V
  rw [f_Na_copyMeaning] at h
  refine Y_aload_n (pc := 0) hC d_Na_copyMeaning_0 rfl 0 rfl ?_
  refine Y_iload_n (pc := 1) hC d_Na_copyMeaning_1 rfl 1 rfl ?_
  refine Y_aload_n (pc := 2) hC d_Na_copyMeaning_2 rfl 0 rfl ?_
  refine Y_getR (pc := 3) hC sc_6 fl_Na_34 rfl d_Na_copyMeaning_3 ?_
  refine Y_getR (pc := 6) hC sc_3 fl_Na_110 rfl d_Na_copyMeaning_6 ?_
  refine Y_iload_n (pc := 9) hC d_Na_copyMeaning_9 rfl 2 rfl ?_
  obtain ⟨hi, h⟩ := ck_some h
  refine Y_iald (pc := 10) hC sc_24 rfl hi d_Na_copyMeaning_10 ?_
  refine Y_aload_n (pc := 11) hC d_Na_copyMeaning_11 rfl 0 rfl ?_
  refine Y_getR (pc := 12) hC sc_6 fl_Na_34 rfl d_Na_copyMeaning_12 ?_
  refine Y_getR (pc := 15) hC sc_3 fl_Na_100 rfl d_Na_copyMeaning_15 ?_
  refine Y_iload_n (pc := 18) hC d_Na_copyMeaning_18 rfl 2 rfl ?_
  obtain ⟨hi, h⟩ := ck_some h
  refine Y_iald (pc := 19) hC sc_25 rfl hi d_Na_copyMeaning_19 ?_
  refine Y_aload_n (pc := 20) hC d_Na_copyMeaning_20 rfl 0 rfl ?_
  refine Y_getR (pc := 21) hC sc_6 fl_Na_34 rfl d_Na_copyMeaning_21 ?_
  refine Y_getR (pc := 24) hC sc_3 fl_Na_83 rfl d_Na_copyMeaning_24 ?_
  refine Y_iload_n (pc := 27) hC d_Na_copyMeaning_27 rfl 2 rfl ?_
  obtain ⟨hi, h⟩ := ck_some h
  refine Y_iald (pc := 28) hC sc_26 rfl hi d_Na_copyMeaning_28 ?_
  obtain ⟨r1, V1, hc_r1, h⟩ := cl_some h
  refine Y_callVv (pc := 29) hC (c_Na_setMeaning C.l C.D C.cI C.cZ C.a hc_r1) sc_6 cls_Na ml_Na_103 mv_Na_setMeaning (by decide) (Nat.le_of_ble_eq_true rfl) rfl d_Na_copyMeaning_29 ?_
  exact Y_vret (pc := 32) hC hE d_Na_copyMeaning_32 h
end
section
def f_Na_giveMeaning (V : Sto) (p1 : Int32) : RT :=
  ck (ib p1 400) <|
  ck (ib p1 400) <|
  ck (ib (V 21 p1.toNatClampNeg) 24) <|
  if (V 13 (V 21 p1.toNatClampNeg).toNatClampNeg) = 0 then
    cl (f_Na_setMeaning V p1 (-1) (-1) 0) fun r9 V9 =>
    some (0, V9)
  else
  ck (ib p1 400) <|
  if (V 23 p1.toNatClampNeg) = 0 then
    cl (f_Na_copyMeaning V p1 p1) fun r8 V8 =>
    some (0, V8)
  else
  cl (f_Na_isCommon V (V 22 p1.toNatClampNeg)) fun r1 V1 =>
  if r1 = 0 then
    cl (f_Na_definer V1 (V 22 p1.toNatClampNeg)) fun r2 V2 =>
    if r2 = (-1) then
      ck (ib p1 400) <|
      if (V2 23 p1.toNatClampNeg) = 2 then
        cl (f_Na_setMeaning V2 p1 2 (-1) 0) fun r4 V4 =>
        some (0, V4)
      else
      cl (f_Na_setMeaning V2 p1 0 (-1) 0) fun r3 V3 =>
      some (0, V3)
    else
    cl (f_Na_definer V2 (V 22 p1.toNatClampNeg)) fun r5 V5 =>
    cl (f_Na_copyMeaning V5 p1 r5) fun r6 V6 =>
    some (0, V6)
  else
  cl (f_Na_setMeaning V1 p1 3 (V 22 p1.toNatClampNeg) 0) fun r7 V7 =>
  some (0, V7)
def f_Na_takeGlobal (V : Sto) (p1 p2 : Int32) : RT :=
  ck (ib p1 200) <|
  if (V 37 p1.toNatClampNeg) = (-1) then
    ck (ib p1 200) <| nm (sw V 37 p1.toNatClampNeg p2) fun V3 =>
    some (0, V3)
  else
  if (V 6 5) = (-1) then
    nm (sw V 6 5 p1) fun V1 =>
    some (0, V1)
  else
  if (V 6 5) ≤ p1 then
    some (0, V)
  else
  nm (sw V 6 5 p1) fun V2 =>
  some (0, V2)
def f_Na_takeWeak (V : Sto) (p1 p2 : Int32) : RT :=
  ck (ib p1 200) <|
  if (V 38 p1.toNatClampNeg) = (-1) then
    ck (ib p1 200) <| nm (sw V 38 p1.toNatClampNeg p2) fun V1 =>
    some (0, V1)
  else
  ck (ib p2 400) <|
  ck (ib p1 200) <|
  ck (ib (V 38 p1.toNatClampNeg) 400) <|
  if (V 21 (V 38 p1.toNatClampNeg).toNatClampNeg) ≤ (V 21 p2.toNatClampNeg) then
    some (0, V)
  else
  ck (ib p1 200) <| nm (sw V 38 p1.toNatClampNeg p2) fun V2 =>
  some (0, V2)
def f_Na_take (V : Sto) (p1 : Int32) : RT :=
  ck (ib p1 400) <|
  ck (ib p1 400) <|
  if (V 23 p1.toNatClampNeg) = 1 then
    cl (f_Na_takeGlobal V (V 22 p1.toNatClampNeg) p1) fun r1 V1 =>
    some (0, V1)
  else
  if (V 23 p1.toNatClampNeg) = 3 then
    ck (ib (V 22 p1.toNatClampNeg) 200) <|
    ck (ib p1 400) <|
    ck (ib (V 22 p1.toNatClampNeg) 200) <| nm (sw V 39 (V 22 p1.toNatClampNeg).toNatClampNeg (if (V 39 (V 22 p1.toNatClampNeg).toNatClampNeg) < (V 26 p1.toNatClampNeg) then (V 26 p1.toNatClampNeg) else (V 39 (V 22 p1.toNatClampNeg).toNatClampNeg))) fun V2 =>
    some (0, V2)
  else
  cl (f_Na_takeWeak V (V 22 p1.toNatClampNeg) p1) fun r2 V3 =>
  some (0, V3)
def lp_fill37_5 (x1 : Int32) (x3 : Int32) (k20 : Sto → RT) : Nat → Int32 → Sto → RT
  | 0, _, _ => none
  | n + 1, x2, V =>
    if x3 ≤ x2 then
      k20 V
    else
    ck (ib x2 200) <| nm (sw V 37 x2.toNatClampNeg x1) fun V1 =>
    lp_fill37_5 x1 x3 k20 n (x2 + 1) V1
def f_fill37 (V : Sto) (p1 : Int32) : RT :=
  lp_fill37_5 p1 (nI 200)
    (fun V2 =>
      some (0, V2)) FU 0 V
def lp_fill38_5 (x1 : Int32) (x3 : Int32) (k20 : Sto → RT) : Nat → Int32 → Sto → RT
  | 0, _, _ => none
  | n + 1, x2, V =>
    if x3 ≤ x2 then
      k20 V
    else
    ck (ib x2 200) <| nm (sw V 38 x2.toNatClampNeg x1) fun V1 =>
    lp_fill38_5 x1 x3 k20 n (x2 + 1) V1
def f_fill38 (V : Sto) (p1 : Int32) : RT :=
  lp_fill38_5 p1 (nI 200)
    (fun V2 =>
      some (0, V2)) FU 0 V
def lp_fill39_5 (x1 : Int32) (x3 : Int32) (k20 : Sto → RT) : Nat → Int32 → Sto → RT
  | 0, _, _ => none
  | n + 1, x2, V =>
    if x3 ≤ x2 then
      k20 V
    else
    ck (ib x2 200) <| nm (sw V 39 x2.toNatClampNeg x1) fun V1 =>
    lp_fill39_5 x1 x3 k20 n (x2 + 1) V1
def f_fill39 (V : Sto) (p1 : Int32) : RT :=
  lp_fill39_5 p1 (nI 200)
    (fun V2 =>
      some (0, V2)) FU 0 V
def lp_Na_settle_31 (k84 : Sto → RT) : Nat → Int32 → Sto → RT
  | 0, _, _ => none
  | n + 1, x1, V =>
    if (V 3 0) ≤ x1 then
      k84 V
    else
    ck (ib x1 400) <|
    ck (ib (V 21 x1.toNatClampNeg) 24) <|
    if (V 13 (V 21 x1.toNatClampNeg).toNatClampNeg) = 0 then
      lp_Na_settle_31 k84 n (x1 + 1) V
    else
    cl (f_Sy_givesName V x1) fun r4 V5 =>
    if r4 = 0 then
      lp_Na_settle_31 k84 n (x1 + 1) V5
    else
    cl (f_Na_take V5 x1) fun r5 V6 =>
    lp_Na_settle_31 k84 n (x1 + 1) V6
def lp_Na_settle_86 (k108 : Sto → RT) : Nat → Int32 → Sto → RT
  | 0, _, _ => none
  | n + 1, x1, V =>
    if (V 3 0) ≤ x1 then
      k108 V
    else
    cl (f_Na_giveMeaning V x1) fun r6 V8 =>
    lp_Na_settle_86 k108 n (x1 + 1) V8
def f_Na_settle (V : Sto) : RT :=
  cl (f_fill37 V (-1)) fun r1 V1 =>
  cl (f_fill38 V1 (-1)) fun r2 V2 =>
  cl (f_fill39 V2 0) fun r3 V3 =>
  nm (sw V3 6 5 (-1)) fun V4 =>
  lp_Na_settle_31
    (fun V7 =>
      lp_Na_settle_86
        (fun V9 =>
          some (0, V9)) FU 0 V7) FU 0 V4
def lp_Rc_firstMissing_2 (k60 : Int32 → Sto → RT) (k68 : Sto → RT) : Nat → Int32 → Sto → RT
  | 0, _, _ => none
  | n + 1, x1, V =>
    if (V 4 0) ≤ x1 then
      k68 V
    else
    ck (ib x1 600) <|
    ck (ib (V 32 x1.toNatClampNeg) 600) <|
    ck (ib (V 27 (V 32 x1.toNatClampNeg).toNatClampNeg) 96) <|
    if (V 43 (V 27 (V 32 x1.toNatClampNeg).toNatClampNeg).toNatClampNeg) = 0 then
      lp_Rc_firstMissing_2 k60 k68 n (x1 + 1) V
    else
    ck (ib (V 32 x1.toNatClampNeg) 600) <|
    ck (ib (V 30 (V 32 x1.toNatClampNeg).toNatClampNeg) 400) <|
    if (V 40 (V 30 (V 32 x1.toNatClampNeg).toNatClampNeg).toNatClampNeg) = 0 then
      k60 (V 32 x1.toNatClampNeg) V
    else
    lp_Rc_firstMissing_2 k60 k68 n (x1 + 1) V
def f_Rc_firstMissing (V : Sto) : RT :=
  lp_Rc_firstMissing_2
    (fun y1 V1 =>
      some (y1, V1))
    (fun V2 =>
      some ((-1), V2)) FU 0 V
def f_Rc_find (V : Sto) (p1 : Int32) : RT :=
  ck (ib p1 96) <|
  if (V 43 p1.toNatClampNeg) = 0 then
    ck (ib p1 96) <| nm (sw V 43 p1.toNatClampNeg 1) fun V1 =>
    ck (ib (V1 7 6) 96) <| nm (sw V1 45 (V1 7 6).toNatClampNeg p1) fun V2 =>
    nm (sw V2 7 6 ((V2 7 6) + 1)) fun V3 =>
    some (0, V3)
  else
  some (0, V)
def lp_Rc_forget_2 (k21 : Sto → RT) : Nat → Int32 → Sto → RT
  | 0, _, _ => none
  | n + 1, x1, V =>
    if 96 ≤ x1 then
      k21 V
    else
    ck (ib x1 96) <| nm (sw V 43 x1.toNatClampNeg 0) fun V1 =>
    lp_Rc_forget_2 k21 n (x1 + 1) V1
def lp_Rc_forget_23 (k43 : Sto → RT) : Nat → Int32 → Sto → RT
  | 0, _, _ => none
  | n + 1, x1, V =>
    if 200 ≤ x1 then
      k43 V
    else
    ck (ib x1 200) <| nm (sw V 44 x1.toNatClampNeg 0) fun V3 =>
    lp_Rc_forget_23 k43 n (x1 + 1) V3
def f_Rc_forget (V : Sto) : RT :=
  lp_Rc_forget_2
    (fun V2 =>
      lp_Rc_forget_23
        (fun V4 =>
          nm (sw V4 7 6 0) fun V5 =>
          some (0, V5)) FU 0 V2) FU 0 V
def f_Re_countOf (V : Sto) (p1 : Int32) : RT :=
  ck (ib (p1 + 1) 97) <|
  ck (ib p1 97) <|
  some ((V 33 (p1 + 1).toNatClampNeg) - (V 33 p1.toNatClampNeg), V)
def f_Re_pick (V : Sto) (p1 p2 : Int32) : RT :=
  ck (ib p1 97) <|
  ck (ib ((V 33 p1.toNatClampNeg) + p2) 600) <|
  some (V 32 ((V 33 p1.toNatClampNeg) + p2).toNatClampNeg, V)
def lp_Rc_spreadFrom_2 (x1 : Int32) (k95 : Sto → RT) : Nat → Int32 → Sto → RT
  | 0, _, _ => none
  | n + 1, x2, V =>
    cl (f_Re_countOf V x1) fun r1 V1 =>
    if r1 ≤ x2 then
      k95 V1
    else
    cl (f_Re_pick V1 x1 x2) fun r2 V2 =>
    ck (ib r2 600) <|
    ck (ib (V2 30 r2.toNatClampNeg) 400) <|
    if (V2 40 (V2 30 r2.toNatClampNeg).toNatClampNeg) = 1 then
      ck (ib (V2 30 r2.toNatClampNeg) 400) <|
      cl (f_Rc_find V2 (V2 41 (V2 30 r2.toNatClampNeg).toNatClampNeg)) fun r3 V4 =>
      lp_Rc_spreadFrom_2 x1 k95 n (x2 + 1) V4
    else
    ck (ib (V2 30 r2.toNatClampNeg) 400) <|
    if (V2 40 (V2 30 r2.toNatClampNeg).toNatClampNeg) = 3 then
      ck (ib (V2 30 r2.toNatClampNeg) 400) <|
      ck (ib (V2 41 (V2 30 r2.toNatClampNeg).toNatClampNeg) 200) <| nm (sw V2 44 (V2 41 (V2 30 r2.toNatClampNeg).toNatClampNeg).toNatClampNeg 1) fun V3 =>
      lp_Rc_spreadFrom_2 x1 k95 n (x2 + 1) V3
    else
    lp_Rc_spreadFrom_2 x1 k95 n (x2 + 1) V2
def f_Rc_spreadFrom (V : Sto) (p1 : Int32) : RT :=
  lp_Rc_spreadFrom_2 p1
    (fun V5 =>
      some (0, V5)) FU 0 V
end
section
theorem fl_Na_73 : FL R_Na 73 3 2 := ⟨R_Sy, F_Sy, N_Sy, rfl, by decide, i_Sy, (mw 219 (by decide +kernel))⟩
theorem fl_Na_30 : FL R_Na 30 6 0 := ⟨R_Na, F_Na, N_Na, rfl, by decide, i_Na, (mw 327 (by decide +kernel))⟩
theorem fl_Na_53 : FL R_Na 53 1 2 := ⟨R_Un, F_Un, N_Un, rfl, by decide, i_Un, (mw 136 (by decide +kernel))⟩
theorem fl_Na_59 : FL R_Na 59 3 1 := ⟨R_Sy, F_Sy, N_Sy, rfl, by decide, i_Sy, (mw 215 (by decide +kernel))⟩
theorem fl_Na_76 : FL R_Na 76 3 3 := ⟨R_Sy, F_Sy, N_Sy, rfl, by decide, i_Sy, (mw 223 (by decide +kernel))⟩
theorem ml_Na_107 : MLb R_Na 107 y_Na_copyMeaning b_Na_copyMeaning 3 (none) 2 := ⟨(mw 1209 (by decide +kernel)), (mw 1206 (by decide +kernel)), (mw 89 (by decide +kernel)), by decide +kernel⟩
theorem mv_Na_copyMeaning : MLv y_Na_copyMeaning := ⟨(mw 1208 (by decide +kernel)), (mw 15 (by decide +kernel))⟩
theorem ki_3 : Int32.ofInt 3 = 3 := by decide
theorem fl_Na_44 : FL R_Na 44 6 5 := ⟨R_Na, F_Na, N_Na, rfl, by decide, i_Na, (mw 333 (by decide +kernel))⟩
theorem ft_Na_5 : FT 6 5 .int := ⟨R_Na, F_Na, N_Na, rfl, rfl, by decide +kernel⟩
theorem ml_Na_79 : MLb R_Na 79 y_Na_takeGlobal b_Na_takeGlobal 3 (none) 2 := ⟨(mw 1192 (by decide +kernel)), (mw 1189 (by decide +kernel)), (mw 89 (by decide +kernel)), by decide +kernel⟩
theorem mv_Na_takeGlobal : MLv y_Na_takeGlobal := ⟨(mw 1191 (by decide +kernel)), (mw 11 (by decide +kernel))⟩
theorem mm_Na_84 : Cond.methodLink R_Na 84 Lib.Math.max.name ∈ ALLW := (mw 1193 (by decide +kernel))
theorem ml_Na_90 : MLb R_Na 90 y_Na_takeWeak b_Na_takeWeak 3 (none) 2 := ⟨(mw 1197 (by decide +kernel)), (mw 1194 (by decide +kernel)), (mw 89 (by decide +kernel)), by decide +kernel⟩
theorem mv_Na_takeWeak : MLv y_Na_takeWeak := ⟨(mw 1196 (by decide +kernel)), (mw 12 (by decide +kernel))⟩
theorem fl_Na_48 : FL R_Na 48 3 0 := ⟨R_Sy, F_Sy, N_Sy, rfl, by decide, i_Sy, (mw 211 (by decide +kernel))⟩
theorem ml_Na_62 : MLb R_Na 62 y_Sy_givesName b_Sy_givesName 2 (some .boolean) 1 := ⟨(mw 1166 (by decide +kernel)), (mw 1184 (by decide +kernel)), (mw 86 (by decide +kernel)), by decide +kernel⟩
theorem ml_Na_66 : MLb R_Na 66 y_Na_take b_Na_take 3 (none) 1 := ⟨(mw 1188 (by decide +kernel)), (mw 1185 (by decide +kernel)), (mw 89 (by decide +kernel)), by decide +kernel⟩
theorem mv_Na_take : MLv y_Na_take := ⟨(mw 1187 (by decide +kernel)), (mw 10 (by decide +kernel))⟩
theorem ml_Na_70 : MLb R_Na 70 y_Na_giveMeaning b_Na_giveMeaning 3 (none) 1 := ⟨(mw 1201 (by decide +kernel)), (mw 1198 (by decide +kernel)), (mw 89 (by decide +kernel)), by decide +kernel⟩
theorem mv_Na_giveMeaning : MLv y_Na_giveMeaning := ⟨(mw 1200 (by decide +kernel)), (mw 13 (by decide +kernel))⟩
theorem ml_Na_38 : MLb R_Na 38 y_fill37 b_fill37 4 (none) 2 := ⟨(mw 1142 (by decide +kernel)), (mw 1183 (by decide +kernel)), (mw 103 (by decide +kernel)), by decide +kernel⟩
theorem ms_fill37 : Cond.static y_fill37 ∈ ALLW := (mw 1141 (by decide +kernel))
theorem ms_fill38 : Cond.static y_fill38 ∈ ALLW := (mw 1141 (by decide +kernel))
theorem ms_fill39 : Cond.static y_fill39 ∈ ALLW := (mw 1141 (by decide +kernel))
theorem fl_Rc_30 : FL R_Rc 30 7 2 := ⟨R_Rc, F_Rc, N_Rc, rfl, by decide, i_Rc, (mw 377 (by decide +kernel))⟩
theorem fl_Rc_89 : FL R_Rc 89 4 0 := ⟨R_Re, F_Re, N_Re, rfl, by decide, i_Re, (mw 255 (by decide +kernel))⟩
theorem fl_Rc_90 : FL R_Rc 90 4 6 := ⟨R_Re, F_Re, N_Re, rfl, by decide, i_Re, (mw 280 (by decide +kernel))⟩
theorem fl_Rc_9 : FL R_Rc 9 7 4 := ⟨R_Rc, F_Rc, N_Rc, rfl, by decide, i_Rc, (mw 379 (by decide +kernel))⟩
theorem fl_Rc_93 : FL R_Rc 93 4 1 := ⟨R_Re, F_Re, N_Re, rfl, by decide, i_Re, (mw 260 (by decide +kernel))⟩
theorem fl_Rc_34 : FL R_Rc 34 7 3 := ⟨R_Rc, F_Rc, N_Rc, rfl, by decide, i_Rc, (mw 378 (by decide +kernel))⟩
theorem fl_Rc_81 : FL R_Rc 81 6 6 := ⟨R_Na, F_Na, N_Na, rfl, by decide, i_Na, (mw 336 (by decide +kernel))⟩
theorem fl_Rc_74 : FL R_Rc 74 4 4 := ⟨R_Re, F_Re, N_Re, rfl, by decide, i_Re, (mw 270 (by decide +kernel))⟩
theorem fl_Rc_18 : FL R_Rc 18 7 7 := ⟨R_Rc, F_Rc, N_Rc, rfl, by decide, i_Rc, (mw 387 (by decide +kernel))⟩
theorem fl_Rc_62 : FL R_Rc 62 7 6 := ⟨R_Rc, F_Rc, N_Rc, rfl, by decide, i_Rc, (mw 385 (by decide +kernel))⟩
theorem ft_Rc_6 : FT 7 6 .int := ⟨R_Rc, F_Rc, N_Rc, rfl, rfl, by decide +kernel⟩
theorem kb_96 : (Int8.ofInt 96).toInt32 = 96 := by decide
theorem fl_Rc_15 : FL R_Rc 15 7 5 := ⟨R_Rc, F_Rc, N_Rc, rfl, by decide, i_Rc, (mw 383 (by decide +kernel))⟩
theorem fl_Re_30 : FL R_Re 30 4 7 := ⟨R_Re, F_Re, N_Re, rfl, by decide, i_Re, (mw 281 (by decide +kernel))⟩
theorem fl_Re_27 : FL R_Re 27 4 6 := ⟨R_Re, F_Re, N_Re, rfl, by decide, i_Re, (mw 277 (by decide +kernel))⟩
theorem ml_Rc_68 : MLb R_Rc 68 y_Re_countOf b_Re_countOf 2 (some .int) 1 := ⟨(mw 1249 (by decide +kernel)), (mw 1246 (by decide +kernel)), (mw 87 (by decide +kernel)), by decide +kernel⟩
theorem mv_Re_countOf : MLv y_Re_countOf := ⟨(mw 1247 (by decide +kernel)), (mw 1248 (by decide +kernel))⟩
theorem ml_Rc_77 : MLb R_Rc 77 y_Re_pick b_Re_pick 3 (some .int) 2 := ⟨(mw 1253 (by decide +kernel)), (mw 1250 (by decide +kernel)), (mw 87 (by decide +kernel)), by decide +kernel⟩
theorem mv_Re_pick : MLv y_Re_pick := ⟨(mw 1251 (by decide +kernel)), (mw 1252 (by decide +kernel))⟩
theorem fl_Rc_86 : FL R_Rc 86 6 7 := ⟨R_Na, F_Na, N_Na, rfl, by decide, i_Na, (mw 342 (by decide +kernel))⟩
theorem ml_Rc_41 : MLb R_Rc 41 y_Rc_find b_Rc_find 2 (none) 1 := ⟨(mw 1241 (by decide +kernel)), (mw 1238 (by decide +kernel)), (mw 90 (by decide +kernel)), by decide +kernel⟩
theorem mv_Rc_find : MLv y_Rc_find := ⟨(mw 1240 (by decide +kernel)), (mw 20 (by decide +kernel))⟩
theorem d_Na_giveMeaning_0 : decode b_Na_giveMeaning 0 = .ok (.aload_n 0, 1) := by decide +kernel
theorem d_Na_giveMeaning_1 : decode b_Na_giveMeaning 1 = .ok (.getfield 34, 3) := by decide +kernel
theorem d_Na_giveMeaning_4 : decode b_Na_giveMeaning 4 = .ok (.getfield 73, 3) := by decide +kernel
theorem d_Na_giveMeaning_7 : decode b_Na_giveMeaning 7 = .ok (.iload_n 1, 1) := by decide +kernel
theorem d_Na_giveMeaning_8 : decode b_Na_giveMeaning 8 = .ok (.iaload, 1) := by decide +kernel
theorem d_Na_giveMeaning_9 : decode b_Na_giveMeaning 9 = .ok (.istore_n 2, 1) := by decide +kernel
theorem d_Na_giveMeaning_10 : decode b_Na_giveMeaning 10 = .ok (.aload_n 0, 1) := by decide +kernel
theorem d_Na_giveMeaning_11 : decode b_Na_giveMeaning 11 = .ok (.getfield 30, 3) := by decide +kernel
theorem d_Na_giveMeaning_14 : decode b_Na_giveMeaning 14 = .ok (.getfield 53, 3) := by decide +kernel
theorem d_Na_giveMeaning_17 : decode b_Na_giveMeaning 17 = .ok (.aload_n 0, 1) := by decide +kernel
theorem d_Na_giveMeaning_18 : decode b_Na_giveMeaning 18 = .ok (.getfield 34, 3) := by decide +kernel
theorem d_Na_giveMeaning_21 : decode b_Na_giveMeaning 21 = .ok (.getfield 59, 3) := by decide +kernel
theorem d_Na_giveMeaning_24 : decode b_Na_giveMeaning 24 = .ok (.iload_n 1, 1) := by decide +kernel
theorem d_Na_giveMeaning_25 : decode b_Na_giveMeaning 25 = .ok (.iaload, 1) := by decide +kernel
theorem d_Na_giveMeaning_26 : decode b_Na_giveMeaning 26 = .ok (.baload, 1) := by decide +kernel
theorem d_Na_giveMeaning_27 : decode b_Na_giveMeaning 27 = .ok (.ifCond .ne 14, 3) := by decide +kernel
theorem d_Na_giveMeaning_30 : decode b_Na_giveMeaning 30 = .ok (.aload_n 0, 1) := by decide +kernel
theorem d_Na_giveMeaning_31 : decode b_Na_giveMeaning 31 = .ok (.iload_n 1, 1) := by decide +kernel
theorem d_Na_giveMeaning_32 : decode b_Na_giveMeaning 32 = .ok (.iconst (-1), 1) := by decide +kernel
theorem d_Na_giveMeaning_33 : decode b_Na_giveMeaning 33 = .ok (.iconst (-1), 1) := by decide +kernel
theorem d_Na_giveMeaning_34 : decode b_Na_giveMeaning 34 = .ok (.iconst 0, 1) := by decide +kernel
theorem d_Na_giveMeaning_35 : decode b_Na_giveMeaning 35 = .ok (.invokevirtual 103, 3) := by decide +kernel
theorem d_Na_giveMeaning_38 : decode b_Na_giveMeaning 38 = .ok (.goto 97, 3) := by decide +kernel
theorem d_Na_giveMeaning_41 : decode b_Na_giveMeaning 41 = .ok (.aload_n 0, 1) := by decide +kernel
theorem d_Na_giveMeaning_42 : decode b_Na_giveMeaning 42 = .ok (.getfield 34, 3) := by decide +kernel
theorem d_Na_giveMeaning_45 : decode b_Na_giveMeaning 45 = .ok (.getfield 76, 3) := by decide +kernel
theorem d_Na_giveMeaning_48 : decode b_Na_giveMeaning 48 = .ok (.iload_n 1, 1) := by decide +kernel
theorem d_Na_giveMeaning_49 : decode b_Na_giveMeaning 49 = .ok (.iaload, 1) := by decide +kernel
theorem d_Na_giveMeaning_50 : decode b_Na_giveMeaning 50 = .ok (.ifCond .ne 12, 3) := by decide +kernel
theorem d_Na_giveMeaning_53 : decode b_Na_giveMeaning 53 = .ok (.aload_n 0, 1) := by decide +kernel
theorem d_Na_giveMeaning_54 : decode b_Na_giveMeaning 54 = .ok (.iload_n 1, 1) := by decide +kernel
theorem d_Na_giveMeaning_55 : decode b_Na_giveMeaning 55 = .ok (.iload_n 1, 1) := by decide +kernel
theorem d_Na_giveMeaning_56 : decode b_Na_giveMeaning 56 = .ok (.invokevirtual 107, 3) := by decide +kernel
theorem d_Na_giveMeaning_59 : decode b_Na_giveMeaning 59 = .ok (.goto 76, 3) := by decide +kernel
theorem d_Na_giveMeaning_62 : decode b_Na_giveMeaning 62 = .ok (.aload_n 0, 1) := by decide +kernel
theorem d_Na_giveMeaning_63 : decode b_Na_giveMeaning 63 = .ok (.iload_n 2, 1) := by decide +kernel
theorem d_Na_giveMeaning_64 : decode b_Na_giveMeaning 64 = .ok (.invokevirtual 93, 3) := by decide +kernel
theorem d_Na_giveMeaning_67 : decode b_Na_giveMeaning 67 = .ok (.ifCond .eq 14, 3) := by decide +kernel
theorem d_Na_giveMeaning_70 : decode b_Na_giveMeaning 70 = .ok (.aload_n 0, 1) := by decide +kernel
theorem d_Na_giveMeaning_71 : decode b_Na_giveMeaning 71 = .ok (.iload_n 1, 1) := by decide +kernel
theorem d_Na_giveMeaning_72 : decode b_Na_giveMeaning 72 = .ok (.iconst 3, 1) := by decide +kernel
theorem d_Na_giveMeaning_73 : decode b_Na_giveMeaning 73 = .ok (.iload_n 2, 1) := by decide +kernel
theorem d_Na_giveMeaning_74 : decode b_Na_giveMeaning 74 = .ok (.iconst 0, 1) := by decide +kernel
theorem d_Na_giveMeaning_75 : decode b_Na_giveMeaning 75 = .ok (.invokevirtual 103, 3) := by decide +kernel
theorem d_Na_giveMeaning_78 : decode b_Na_giveMeaning 78 = .ok (.goto 57, 3) := by decide +kernel
theorem d_Na_giveMeaning_81 : decode b_Na_giveMeaning 81 = .ok (.aload_n 0, 1) := by decide +kernel
theorem d_Na_giveMeaning_82 : decode b_Na_giveMeaning 82 = .ok (.iload_n 2, 1) := by decide +kernel
theorem d_Na_giveMeaning_83 : decode b_Na_giveMeaning 83 = .ok (.invokevirtual 96, 3) := by decide +kernel
theorem d_Na_giveMeaning_86 : decode b_Na_giveMeaning 86 = .ok (.iconst (-1), 1) := by decide +kernel
theorem d_Na_giveMeaning_87 : decode b_Na_giveMeaning 87 = .ok (.if_icmp .eq 16, 3) := by decide +kernel
theorem d_Na_giveMeaning_90 : decode b_Na_giveMeaning 90 = .ok (.aload_n 0, 1) := by decide +kernel
theorem d_Na_giveMeaning_91 : decode b_Na_giveMeaning 91 = .ok (.iload_n 1, 1) := by decide +kernel
theorem d_Na_giveMeaning_92 : decode b_Na_giveMeaning 92 = .ok (.aload_n 0, 1) := by decide +kernel
theorem d_Na_giveMeaning_93 : decode b_Na_giveMeaning 93 = .ok (.iload_n 2, 1) := by decide +kernel
theorem d_Na_giveMeaning_94 : decode b_Na_giveMeaning 94 = .ok (.invokevirtual 96, 3) := by decide +kernel
theorem d_Na_giveMeaning_97 : decode b_Na_giveMeaning 97 = .ok (.invokevirtual 107, 3) := by decide +kernel
theorem d_Na_giveMeaning_100 : decode b_Na_giveMeaning 100 = .ok (.goto 35, 3) := by decide +kernel
theorem d_Na_giveMeaning_103 : decode b_Na_giveMeaning 103 = .ok (.aload_n 0, 1) := by decide +kernel
theorem d_Na_giveMeaning_104 : decode b_Na_giveMeaning 104 = .ok (.getfield 34, 3) := by decide +kernel
theorem d_Na_giveMeaning_107 : decode b_Na_giveMeaning 107 = .ok (.getfield 76, 3) := by decide +kernel
theorem d_Na_giveMeaning_110 : decode b_Na_giveMeaning 110 = .ok (.iload_n 1, 1) := by decide +kernel
theorem d_Na_giveMeaning_111 : decode b_Na_giveMeaning 111 = .ok (.iaload, 1) := by decide +kernel
theorem d_Na_giveMeaning_112 : decode b_Na_giveMeaning 112 = .ok (.iconst 2, 1) := by decide +kernel
theorem d_Na_giveMeaning_113 : decode b_Na_giveMeaning 113 = .ok (.if_icmp .ne 14, 3) := by decide +kernel
theorem d_Na_giveMeaning_116 : decode b_Na_giveMeaning 116 = .ok (.aload_n 0, 1) := by decide +kernel
theorem d_Na_giveMeaning_117 : decode b_Na_giveMeaning 117 = .ok (.iload_n 1, 1) := by decide +kernel
theorem d_Na_giveMeaning_118 : decode b_Na_giveMeaning 118 = .ok (.iconst 2, 1) := by decide +kernel
theorem d_Na_giveMeaning_119 : decode b_Na_giveMeaning 119 = .ok (.iconst (-1), 1) := by decide +kernel
theorem d_Na_giveMeaning_120 : decode b_Na_giveMeaning 120 = .ok (.iconst 0, 1) := by decide +kernel
theorem d_Na_giveMeaning_121 : decode b_Na_giveMeaning 121 = .ok (.invokevirtual 103, 3) := by decide +kernel
theorem d_Na_giveMeaning_124 : decode b_Na_giveMeaning 124 = .ok (.goto 11, 3) := by decide +kernel
theorem d_Na_giveMeaning_127 : decode b_Na_giveMeaning 127 = .ok (.aload_n 0, 1) := by decide +kernel
theorem d_Na_giveMeaning_128 : decode b_Na_giveMeaning 128 = .ok (.iload_n 1, 1) := by decide +kernel
theorem d_Na_giveMeaning_129 : decode b_Na_giveMeaning 129 = .ok (.iconst 0, 1) := by decide +kernel
theorem d_Na_giveMeaning_130 : decode b_Na_giveMeaning 130 = .ok (.iconst (-1), 1) := by decide +kernel
theorem d_Na_giveMeaning_131 : decode b_Na_giveMeaning 131 = .ok (.iconst 0, 1) := by decide +kernel
theorem d_Na_giveMeaning_132 : decode b_Na_giveMeaning 132 = .ok (.invokevirtual 103, 3) := by decide +kernel
theorem d_Na_giveMeaning_135 : decode b_Na_giveMeaning 135 = .ok (.return_, 1) := by decide +kernel
theorem d_Na_takeGlobal_0 : decode b_Na_takeGlobal 0 = .ok (.aload_n 0, 1) := by decide +kernel
theorem d_Na_takeGlobal_1 : decode b_Na_takeGlobal 1 = .ok (.getfield 9, 3) := by decide +kernel
theorem d_Na_takeGlobal_4 : decode b_Na_takeGlobal 4 = .ok (.iload_n 1, 1) := by decide +kernel
theorem d_Na_takeGlobal_5 : decode b_Na_takeGlobal 5 = .ok (.iaload, 1) := by decide +kernel
theorem d_Na_takeGlobal_6 : decode b_Na_takeGlobal 6 = .ok (.iconst (-1), 1) := by decide +kernel
theorem d_Na_takeGlobal_7 : decode b_Na_takeGlobal 7 = .ok (.if_icmp .ne 13, 3) := by decide +kernel
theorem d_Na_takeGlobal_10 : decode b_Na_takeGlobal 10 = .ok (.aload_n 0, 1) := by decide +kernel
theorem d_Na_takeGlobal_11 : decode b_Na_takeGlobal 11 = .ok (.getfield 9, 3) := by decide +kernel
theorem d_Na_takeGlobal_14 : decode b_Na_takeGlobal 14 = .ok (.iload_n 1, 1) := by decide +kernel
theorem d_Na_takeGlobal_15 : decode b_Na_takeGlobal 15 = .ok (.iload_n 2, 1) := by decide +kernel
theorem d_Na_takeGlobal_16 : decode b_Na_takeGlobal 16 = .ok (.iastore, 1) := by decide +kernel
theorem d_Na_takeGlobal_17 : decode b_Na_takeGlobal 17 = .ok (.goto 24, 3) := by decide +kernel
theorem d_Na_takeGlobal_20 : decode b_Na_takeGlobal 20 = .ok (.aload_n 0, 1) := by decide +kernel
theorem d_Na_takeGlobal_21 : decode b_Na_takeGlobal 21 = .ok (.getfield 44, 3) := by decide +kernel
theorem d_Na_takeGlobal_24 : decode b_Na_takeGlobal 24 = .ok (.iconst (-1), 1) := by decide +kernel
theorem d_Na_takeGlobal_25 : decode b_Na_takeGlobal 25 = .ok (.if_icmp .eq 11, 3) := by decide +kernel
theorem d_Na_takeGlobal_28 : decode b_Na_takeGlobal 28 = .ok (.iload_n 1, 1) := by decide +kernel
theorem d_Na_takeGlobal_29 : decode b_Na_takeGlobal 29 = .ok (.aload_n 0, 1) := by decide +kernel
theorem d_Na_takeGlobal_30 : decode b_Na_takeGlobal 30 = .ok (.getfield 44, 3) := by decide +kernel
theorem d_Na_takeGlobal_33 : decode b_Na_takeGlobal 33 = .ok (.if_icmp .ge 8, 3) := by decide +kernel
theorem d_Na_takeGlobal_36 : decode b_Na_takeGlobal 36 = .ok (.aload_n 0, 1) := by decide +kernel
theorem d_Na_takeGlobal_37 : decode b_Na_takeGlobal 37 = .ok (.iload_n 1, 1) := by decide +kernel
theorem d_Na_takeGlobal_38 : decode b_Na_takeGlobal 38 = .ok (.putfield 44, 3) := by decide +kernel
theorem d_Na_takeGlobal_41 : decode b_Na_takeGlobal 41 = .ok (.return_, 1) := by decide +kernel
theorem d_Na_takeWeak_0 : decode b_Na_takeWeak 0 = .ok (.aload_n 0, 1) := by decide +kernel
theorem d_Na_takeWeak_1 : decode b_Na_takeWeak 1 = .ok (.getfield 15, 3) := by decide +kernel
theorem d_Na_takeWeak_4 : decode b_Na_takeWeak 4 = .ok (.iload_n 1, 1) := by decide +kernel
theorem d_Na_takeWeak_5 : decode b_Na_takeWeak 5 = .ok (.iaload, 1) := by decide +kernel
theorem d_Na_takeWeak_6 : decode b_Na_takeWeak 6 = .ok (.iconst (-1), 1) := by decide +kernel
theorem d_Na_takeWeak_7 : decode b_Na_takeWeak 7 = .ok (.if_icmp .eq 29, 3) := by decide +kernel
theorem d_Na_takeWeak_10 : decode b_Na_takeWeak 10 = .ok (.aload_n 0, 1) := by decide +kernel
theorem d_Na_takeWeak_11 : decode b_Na_takeWeak 11 = .ok (.getfield 34, 3) := by decide +kernel
theorem d_Na_takeWeak_14 : decode b_Na_takeWeak 14 = .ok (.getfield 59, 3) := by decide +kernel
theorem d_Na_takeWeak_17 : decode b_Na_takeWeak 17 = .ok (.iload_n 2, 1) := by decide +kernel
theorem d_Na_takeWeak_18 : decode b_Na_takeWeak 18 = .ok (.iaload, 1) := by decide +kernel
theorem d_Na_takeWeak_19 : decode b_Na_takeWeak 19 = .ok (.aload_n 0, 1) := by decide +kernel
theorem d_Na_takeWeak_20 : decode b_Na_takeWeak 20 = .ok (.getfield 34, 3) := by decide +kernel
theorem d_Na_takeWeak_23 : decode b_Na_takeWeak 23 = .ok (.getfield 59, 3) := by decide +kernel
theorem d_Na_takeWeak_26 : decode b_Na_takeWeak 26 = .ok (.aload_n 0, 1) := by decide +kernel
theorem d_Na_takeWeak_27 : decode b_Na_takeWeak 27 = .ok (.getfield 15, 3) := by decide +kernel
theorem d_Na_takeWeak_30 : decode b_Na_takeWeak 30 = .ok (.iload_n 1, 1) := by decide +kernel
theorem d_Na_takeWeak_31 : decode b_Na_takeWeak 31 = .ok (.iaload, 1) := by decide +kernel
theorem d_Na_takeWeak_32 : decode b_Na_takeWeak 32 = .ok (.iaload, 1) := by decide +kernel
theorem d_Na_takeWeak_33 : decode b_Na_takeWeak 33 = .ok (.if_icmp .ge 10, 3) := by decide +kernel
theorem d_Na_takeWeak_36 : decode b_Na_takeWeak 36 = .ok (.aload_n 0, 1) := by decide +kernel
theorem d_Na_takeWeak_37 : decode b_Na_takeWeak 37 = .ok (.getfield 15, 3) := by decide +kernel
theorem d_Na_takeWeak_40 : decode b_Na_takeWeak 40 = .ok (.iload_n 1, 1) := by decide +kernel
theorem d_Na_takeWeak_41 : decode b_Na_takeWeak 41 = .ok (.iload_n 2, 1) := by decide +kernel
theorem d_Na_takeWeak_42 : decode b_Na_takeWeak 42 = .ok (.iastore, 1) := by decide +kernel
theorem d_Na_takeWeak_43 : decode b_Na_takeWeak 43 = .ok (.return_, 1) := by decide +kernel
theorem d_Na_take_0 : decode b_Na_take 0 = .ok (.aload_n 0, 1) := by decide +kernel
theorem d_Na_take_1 : decode b_Na_take 1 = .ok (.getfield 34, 3) := by decide +kernel
theorem d_Na_take_4 : decode b_Na_take 4 = .ok (.getfield 73, 3) := by decide +kernel
theorem d_Na_take_7 : decode b_Na_take 7 = .ok (.iload_n 1, 1) := by decide +kernel
theorem d_Na_take_8 : decode b_Na_take 8 = .ok (.iaload, 1) := by decide +kernel
theorem d_Na_take_9 : decode b_Na_take 9 = .ok (.istore_n 2, 1) := by decide +kernel
theorem d_Na_take_10 : decode b_Na_take 10 = .ok (.aload_n 0, 1) := by decide +kernel
theorem d_Na_take_11 : decode b_Na_take 11 = .ok (.getfield 34, 3) := by decide +kernel
theorem d_Na_take_14 : decode b_Na_take 14 = .ok (.getfield 76, 3) := by decide +kernel
theorem d_Na_take_17 : decode b_Na_take 17 = .ok (.iload_n 1, 1) := by decide +kernel
theorem d_Na_take_18 : decode b_Na_take 18 = .ok (.iaload, 1) := by decide +kernel
theorem d_Na_take_19 : decode b_Na_take 19 = .ok (.lookupswitch 61 #[(1, 25), (3, 34)], 25) := by decide +kernel
theorem d_Na_take_44 : decode b_Na_take 44 = .ok (.aload_n 0, 1) := by decide +kernel
theorem d_Na_take_45 : decode b_Na_take 45 = .ok (.iload_n 2, 1) := by decide +kernel
theorem d_Na_take_46 : decode b_Na_take 46 = .ok (.iload_n 1, 1) := by decide +kernel
theorem d_Na_take_47 : decode b_Na_take 47 = .ok (.invokevirtual 79, 3) := by decide +kernel
theorem d_Na_take_50 : decode b_Na_take 50 = .ok (.goto 36, 3) := by decide +kernel
theorem d_Na_take_53 : decode b_Na_take 53 = .ok (.aload_n 0, 1) := by decide +kernel
theorem d_Na_take_54 : decode b_Na_take 54 = .ok (.getfield 18, 3) := by decide +kernel
theorem d_Na_take_57 : decode b_Na_take 57 = .ok (.iload_n 2, 1) := by decide +kernel
theorem d_Na_take_58 : decode b_Na_take 58 = .ok (.aload_n 0, 1) := by decide +kernel
theorem d_Na_take_59 : decode b_Na_take 59 = .ok (.getfield 18, 3) := by decide +kernel
theorem d_Na_take_62 : decode b_Na_take 62 = .ok (.iload_n 2, 1) := by decide +kernel
theorem d_Na_take_63 : decode b_Na_take 63 = .ok (.iaload, 1) := by decide +kernel
theorem d_Na_take_64 : decode b_Na_take 64 = .ok (.aload_n 0, 1) := by decide +kernel
theorem d_Na_take_65 : decode b_Na_take 65 = .ok (.getfield 34, 3) := by decide +kernel
theorem d_Na_take_68 : decode b_Na_take 68 = .ok (.getfield 83, 3) := by decide +kernel
theorem d_Na_take_71 : decode b_Na_take 71 = .ok (.iload_n 1, 1) := by decide +kernel
theorem d_Na_take_72 : decode b_Na_take 72 = .ok (.iaload, 1) := by decide +kernel
theorem d_Na_take_73 : decode b_Na_take 73 = .ok (.invokestatic 84, 3) := by decide +kernel
theorem d_Na_take_76 : decode b_Na_take 76 = .ok (.iastore, 1) := by decide +kernel
theorem d_Na_take_77 : decode b_Na_take 77 = .ok (.goto 9, 3) := by decide +kernel
theorem d_Na_take_80 : decode b_Na_take 80 = .ok (.aload_n 0, 1) := by decide +kernel
theorem d_Na_take_81 : decode b_Na_take 81 = .ok (.iload_n 2, 1) := by decide +kernel
theorem d_Na_take_82 : decode b_Na_take 82 = .ok (.iload_n 1, 1) := by decide +kernel
theorem d_Na_take_83 : decode b_Na_take 83 = .ok (.invokevirtual 90, 3) := by decide +kernel
theorem d_Na_take_86 : decode b_Na_take 86 = .ok (.return_, 1) := by decide +kernel
theorem d_fill37_0 : decode b_fill37 0 = .ok (.iconst 0, 1) := by decide +kernel
theorem d_fill37_1 : decode b_fill37 1 = .ok (.istore_n 2, 1) := by decide +kernel
theorem d_fill37_2 : decode b_fill37 2 = .ok (.aload_n 0, 1) := by decide +kernel
theorem d_fill37_3 : decode b_fill37 3 = .ok (.arraylength, 1) := by decide +kernel
theorem d_fill37_4 : decode b_fill37 4 = .ok (.istore_n 3, 1) := by decide +kernel
theorem d_fill37_5 : decode b_fill37 5 = .ok (.iload_n 2, 1) := by decide +kernel
theorem d_fill37_6 : decode b_fill37 6 = .ok (.iload_n 3, 1) := by decide +kernel
theorem d_fill37_7 : decode b_fill37 7 = .ok (.if_icmp .ge 13, 3) := by decide +kernel
theorem d_fill37_10 : decode b_fill37 10 = .ok (.aload_n 0, 1) := by decide +kernel
theorem d_fill37_11 : decode b_fill37 11 = .ok (.iload_n 2, 1) := by decide +kernel
theorem d_fill37_12 : decode b_fill37 12 = .ok (.iload_n 1, 1) := by decide +kernel
theorem d_fill37_13 : decode b_fill37 13 = .ok (.iastore, 1) := by decide +kernel
theorem d_fill37_14 : decode b_fill37 14 = .ok (.iinc 2 1, 3) := by decide +kernel
theorem d_fill37_17 : decode b_fill37 17 = .ok (.goto (-12), 3) := by decide +kernel
theorem d_fill37_20 : decode b_fill37 20 = .ok (.return_, 1) := by decide +kernel
theorem d_fill38_0 : decode b_fill38 0 = .ok (.iconst 0, 1) := by decide +kernel
theorem d_fill38_1 : decode b_fill38 1 = .ok (.istore_n 2, 1) := by decide +kernel
theorem d_fill38_2 : decode b_fill38 2 = .ok (.aload_n 0, 1) := by decide +kernel
theorem d_fill38_3 : decode b_fill38 3 = .ok (.arraylength, 1) := by decide +kernel
theorem d_fill38_4 : decode b_fill38 4 = .ok (.istore_n 3, 1) := by decide +kernel
theorem d_fill38_5 : decode b_fill38 5 = .ok (.iload_n 2, 1) := by decide +kernel
theorem d_fill38_6 : decode b_fill38 6 = .ok (.iload_n 3, 1) := by decide +kernel
theorem d_fill38_7 : decode b_fill38 7 = .ok (.if_icmp .ge 13, 3) := by decide +kernel
theorem d_fill38_10 : decode b_fill38 10 = .ok (.aload_n 0, 1) := by decide +kernel
theorem d_fill38_11 : decode b_fill38 11 = .ok (.iload_n 2, 1) := by decide +kernel
theorem d_fill38_12 : decode b_fill38 12 = .ok (.iload_n 1, 1) := by decide +kernel
theorem d_fill38_13 : decode b_fill38 13 = .ok (.iastore, 1) := by decide +kernel
theorem d_fill38_14 : decode b_fill38 14 = .ok (.iinc 2 1, 3) := by decide +kernel
theorem d_fill38_17 : decode b_fill38 17 = .ok (.goto (-12), 3) := by decide +kernel
theorem d_fill38_20 : decode b_fill38 20 = .ok (.return_, 1) := by decide +kernel
theorem d_fill39_0 : decode b_fill39 0 = .ok (.iconst 0, 1) := by decide +kernel
theorem d_fill39_1 : decode b_fill39 1 = .ok (.istore_n 2, 1) := by decide +kernel
theorem d_fill39_2 : decode b_fill39 2 = .ok (.aload_n 0, 1) := by decide +kernel
theorem d_fill39_3 : decode b_fill39 3 = .ok (.arraylength, 1) := by decide +kernel
theorem d_fill39_4 : decode b_fill39 4 = .ok (.istore_n 3, 1) := by decide +kernel
theorem d_fill39_5 : decode b_fill39 5 = .ok (.iload_n 2, 1) := by decide +kernel
theorem d_fill39_6 : decode b_fill39 6 = .ok (.iload_n 3, 1) := by decide +kernel
theorem d_fill39_7 : decode b_fill39 7 = .ok (.if_icmp .ge 13, 3) := by decide +kernel
theorem d_fill39_10 : decode b_fill39 10 = .ok (.aload_n 0, 1) := by decide +kernel
theorem d_fill39_11 : decode b_fill39 11 = .ok (.iload_n 2, 1) := by decide +kernel
theorem d_fill39_12 : decode b_fill39 12 = .ok (.iload_n 1, 1) := by decide +kernel
theorem d_fill39_13 : decode b_fill39 13 = .ok (.iastore, 1) := by decide +kernel
theorem d_fill39_14 : decode b_fill39 14 = .ok (.iinc 2 1, 3) := by decide +kernel
theorem d_fill39_17 : decode b_fill39 17 = .ok (.goto (-12), 3) := by decide +kernel
theorem d_fill39_20 : decode b_fill39 20 = .ok (.return_, 1) := by decide +kernel
theorem d_Na_settle_0 : decode b_Na_settle 0 = .ok (.aload_n 0, 1) := by decide +kernel
theorem d_Na_settle_1 : decode b_Na_settle 1 = .ok (.getfield 9, 3) := by decide +kernel
theorem d_Na_settle_4 : decode b_Na_settle 4 = .ok (.iconst (-1), 1) := by decide +kernel
theorem d_Na_settle_5 : decode b_Na_settle 5 = .ok (.invokestatic 38, 3) := by decide +kernel
theorem d_Na_settle_8 : decode b_Na_settle 8 = .ok (.aload_n 0, 1) := by decide +kernel
theorem d_Na_settle_9 : decode b_Na_settle 9 = .ok (.getfield 15, 3) := by decide +kernel
theorem d_Na_settle_12 : decode b_Na_settle 12 = .ok (.iconst (-1), 1) := by decide +kernel
theorem d_Na_settle_13 : decode b_Na_settle 13 = .ok (.invokestatic 38, 3) := by decide +kernel
theorem d_Na_settle_16 : decode b_Na_settle 16 = .ok (.aload_n 0, 1) := by decide +kernel
theorem d_Na_settle_17 : decode b_Na_settle 17 = .ok (.getfield 18, 3) := by decide +kernel
theorem d_Na_settle_20 : decode b_Na_settle 20 = .ok (.iconst 0, 1) := by decide +kernel
theorem d_Na_settle_21 : decode b_Na_settle 21 = .ok (.invokestatic 38, 3) := by decide +kernel
theorem d_Na_settle_24 : decode b_Na_settle 24 = .ok (.aload_n 0, 1) := by decide +kernel
theorem d_Na_settle_25 : decode b_Na_settle 25 = .ok (.iconst (-1), 1) := by decide +kernel
theorem d_Na_settle_26 : decode b_Na_settle 26 = .ok (.putfield 44, 3) := by decide +kernel
theorem d_Na_settle_29 : decode b_Na_settle 29 = .ok (.iconst 0, 1) := by decide +kernel
theorem d_Na_settle_30 : decode b_Na_settle 30 = .ok (.istore_n 1, 1) := by decide +kernel
theorem d_Na_settle_31 : decode b_Na_settle 31 = .ok (.iload_n 1, 1) := by decide +kernel
theorem d_Na_settle_32 : decode b_Na_settle 32 = .ok (.aload_n 0, 1) := by decide +kernel
theorem d_Na_settle_33 : decode b_Na_settle 33 = .ok (.getfield 34, 3) := by decide +kernel
theorem d_Na_settle_36 : decode b_Na_settle 36 = .ok (.getfield 48, 3) := by decide +kernel
theorem d_Na_settle_39 : decode b_Na_settle 39 = .ok (.if_icmp .ge 45, 3) := by decide +kernel
theorem d_Na_settle_42 : decode b_Na_settle 42 = .ok (.aload_n 0, 1) := by decide +kernel
theorem d_Na_settle_43 : decode b_Na_settle 43 = .ok (.getfield 30, 3) := by decide +kernel
theorem d_Na_settle_46 : decode b_Na_settle 46 = .ok (.getfield 53, 3) := by decide +kernel
theorem d_Na_settle_49 : decode b_Na_settle 49 = .ok (.aload_n 0, 1) := by decide +kernel
theorem d_Na_settle_50 : decode b_Na_settle 50 = .ok (.getfield 34, 3) := by decide +kernel
theorem d_Na_settle_53 : decode b_Na_settle 53 = .ok (.getfield 59, 3) := by decide +kernel
theorem d_Na_settle_56 : decode b_Na_settle 56 = .ok (.iload_n 1, 1) := by decide +kernel
theorem d_Na_settle_57 : decode b_Na_settle 57 = .ok (.iaload, 1) := by decide +kernel
theorem d_Na_settle_58 : decode b_Na_settle 58 = .ok (.baload, 1) := by decide +kernel
theorem d_Na_settle_59 : decode b_Na_settle 59 = .ok (.ifCond .eq 19, 3) := by decide +kernel
theorem d_Na_settle_62 : decode b_Na_settle 62 = .ok (.aload_n 0, 1) := by decide +kernel
theorem d_Na_settle_63 : decode b_Na_settle 63 = .ok (.getfield 34, 3) := by decide +kernel
theorem d_Na_settle_66 : decode b_Na_settle 66 = .ok (.iload_n 1, 1) := by decide +kernel
theorem d_Na_settle_67 : decode b_Na_settle 67 = .ok (.invokevirtual 62, 3) := by decide +kernel
theorem d_Na_settle_70 : decode b_Na_settle 70 = .ok (.ifCond .eq 8, 3) := by decide +kernel
theorem d_Na_settle_73 : decode b_Na_settle 73 = .ok (.aload_n 0, 1) := by decide +kernel
theorem d_Na_settle_74 : decode b_Na_settle 74 = .ok (.iload_n 1, 1) := by decide +kernel
theorem d_Na_settle_75 : decode b_Na_settle 75 = .ok (.invokevirtual 66, 3) := by decide +kernel
theorem d_Na_settle_78 : decode b_Na_settle 78 = .ok (.iinc 1 1, 3) := by decide +kernel
theorem d_Na_settle_81 : decode b_Na_settle 81 = .ok (.goto (-50), 3) := by decide +kernel
theorem d_Na_settle_84 : decode b_Na_settle 84 = .ok (.iconst 0, 1) := by decide +kernel
theorem d_Na_settle_85 : decode b_Na_settle 85 = .ok (.istore_n 1, 1) := by decide +kernel
theorem d_Na_settle_86 : decode b_Na_settle 86 = .ok (.iload_n 1, 1) := by decide +kernel
theorem d_Na_settle_87 : decode b_Na_settle 87 = .ok (.aload_n 0, 1) := by decide +kernel
theorem d_Na_settle_88 : decode b_Na_settle 88 = .ok (.getfield 34, 3) := by decide +kernel
theorem d_Na_settle_91 : decode b_Na_settle 91 = .ok (.getfield 48, 3) := by decide +kernel
theorem d_Na_settle_94 : decode b_Na_settle 94 = .ok (.if_icmp .ge 14, 3) := by decide +kernel
theorem d_Na_settle_97 : decode b_Na_settle 97 = .ok (.aload_n 0, 1) := by decide +kernel
theorem d_Na_settle_98 : decode b_Na_settle 98 = .ok (.iload_n 1, 1) := by decide +kernel
theorem d_Na_settle_99 : decode b_Na_settle 99 = .ok (.invokevirtual 70, 3) := by decide +kernel
theorem d_Na_settle_102 : decode b_Na_settle 102 = .ok (.iinc 1 1, 3) := by decide +kernel
theorem d_Na_settle_105 : decode b_Na_settle 105 = .ok (.goto (-19), 3) := by decide +kernel
theorem d_Na_settle_108 : decode b_Na_settle 108 = .ok (.return_, 1) := by decide +kernel
theorem d_Rc_firstMissing_0 : decode b_Rc_firstMissing 0 = .ok (.iconst 0, 1) := by decide +kernel
theorem d_Rc_firstMissing_1 : decode b_Rc_firstMissing 1 = .ok (.istore_n 1, 1) := by decide +kernel
theorem d_Rc_firstMissing_2 : decode b_Rc_firstMissing 2 = .ok (.iload_n 1, 1) := by decide +kernel
theorem d_Rc_firstMissing_3 : decode b_Rc_firstMissing 3 = .ok (.aload_n 0, 1) := by decide +kernel
theorem d_Rc_firstMissing_4 : decode b_Rc_firstMissing 4 = .ok (.getfield 30, 3) := by decide +kernel
theorem d_Rc_firstMissing_7 : decode b_Rc_firstMissing 7 = .ok (.getfield 89, 3) := by decide +kernel
theorem d_Rc_firstMissing_10 : decode b_Rc_firstMissing 10 = .ok (.if_icmp .ge 58, 3) := by decide +kernel
theorem d_Rc_firstMissing_13 : decode b_Rc_firstMissing 13 = .ok (.aload_n 0, 1) := by decide +kernel
theorem d_Rc_firstMissing_14 : decode b_Rc_firstMissing 14 = .ok (.getfield 30, 3) := by decide +kernel
theorem d_Rc_firstMissing_17 : decode b_Rc_firstMissing 17 = .ok (.getfield 90, 3) := by decide +kernel
theorem d_Rc_firstMissing_20 : decode b_Rc_firstMissing 20 = .ok (.iload_n 1, 1) := by decide +kernel
theorem d_Rc_firstMissing_21 : decode b_Rc_firstMissing 21 = .ok (.iaload, 1) := by decide +kernel
theorem d_Rc_firstMissing_22 : decode b_Rc_firstMissing 22 = .ok (.istore_n 2, 1) := by decide +kernel
theorem d_Rc_firstMissing_23 : decode b_Rc_firstMissing 23 = .ok (.aload_n 0, 1) := by decide +kernel
theorem d_Rc_firstMissing_24 : decode b_Rc_firstMissing 24 = .ok (.getfield 9, 3) := by decide +kernel
theorem d_Rc_firstMissing_27 : decode b_Rc_firstMissing 27 = .ok (.aload_n 0, 1) := by decide +kernel
theorem d_Rc_firstMissing_28 : decode b_Rc_firstMissing 28 = .ok (.getfield 30, 3) := by decide +kernel
theorem d_Rc_firstMissing_31 : decode b_Rc_firstMissing 31 = .ok (.getfield 93, 3) := by decide +kernel
theorem d_Rc_firstMissing_34 : decode b_Rc_firstMissing 34 = .ok (.iload_n 2, 1) := by decide +kernel
theorem d_Rc_firstMissing_35 : decode b_Rc_firstMissing 35 = .ok (.iaload, 1) := by decide +kernel
theorem d_Rc_firstMissing_36 : decode b_Rc_firstMissing 36 = .ok (.baload, 1) := by decide +kernel
theorem d_Rc_firstMissing_37 : decode b_Rc_firstMissing 37 = .ok (.ifCond .eq 25, 3) := by decide +kernel
theorem d_Rc_firstMissing_40 : decode b_Rc_firstMissing 40 = .ok (.aload_n 0, 1) := by decide +kernel
theorem d_Rc_firstMissing_41 : decode b_Rc_firstMissing 41 = .ok (.getfield 34, 3) := by decide +kernel
theorem d_Rc_firstMissing_44 : decode b_Rc_firstMissing 44 = .ok (.getfield 81, 3) := by decide +kernel
theorem d_Rc_firstMissing_47 : decode b_Rc_firstMissing 47 = .ok (.aload_n 0, 1) := by decide +kernel
theorem d_Rc_firstMissing_48 : decode b_Rc_firstMissing 48 = .ok (.getfield 30, 3) := by decide +kernel
theorem d_Rc_firstMissing_51 : decode b_Rc_firstMissing 51 = .ok (.getfield 74, 3) := by decide +kernel
theorem d_Rc_firstMissing_54 : decode b_Rc_firstMissing 54 = .ok (.iload_n 2, 1) := by decide +kernel
theorem d_Rc_firstMissing_55 : decode b_Rc_firstMissing 55 = .ok (.iaload, 1) := by decide +kernel
theorem d_Rc_firstMissing_56 : decode b_Rc_firstMissing 56 = .ok (.iaload, 1) := by decide +kernel
theorem d_Rc_firstMissing_57 : decode b_Rc_firstMissing 57 = .ok (.ifCond .ne 5, 3) := by decide +kernel
theorem d_Rc_firstMissing_60 : decode b_Rc_firstMissing 60 = .ok (.iload_n 2, 1) := by decide +kernel
theorem d_Rc_firstMissing_61 : decode b_Rc_firstMissing 61 = .ok (.ireturn, 1) := by decide +kernel
theorem d_Rc_firstMissing_62 : decode b_Rc_firstMissing 62 = .ok (.iinc 1 1, 3) := by decide +kernel
theorem d_Rc_firstMissing_65 : decode b_Rc_firstMissing 65 = .ok (.goto (-63), 3) := by decide +kernel
theorem d_Rc_firstMissing_68 : decode b_Rc_firstMissing 68 = .ok (.iconst (-1), 1) := by decide +kernel
theorem d_Rc_firstMissing_69 : decode b_Rc_firstMissing 69 = .ok (.ireturn, 1) := by decide +kernel
theorem d_Rc_find_0 : decode b_Rc_find 0 = .ok (.aload_n 0, 1) := by decide +kernel
theorem d_Rc_find_1 : decode b_Rc_find 1 = .ok (.getfield 9, 3) := by decide +kernel
theorem d_Rc_find_4 : decode b_Rc_find 4 = .ok (.iload_n 1, 1) := by decide +kernel
theorem d_Rc_find_5 : decode b_Rc_find 5 = .ok (.baload, 1) := by decide +kernel
theorem d_Rc_find_6 : decode b_Rc_find 6 = .ok (.ifCond .ne 30, 3) := by decide +kernel
theorem d_Rc_find_9 : decode b_Rc_find 9 = .ok (.aload_n 0, 1) := by decide +kernel
theorem d_Rc_find_10 : decode b_Rc_find 10 = .ok (.getfield 9, 3) := by decide +kernel
theorem d_Rc_find_13 : decode b_Rc_find 13 = .ok (.iload_n 1, 1) := by decide +kernel
theorem d_Rc_find_14 : decode b_Rc_find 14 = .ok (.iconst 1, 1) := by decide +kernel
theorem d_Rc_find_15 : decode b_Rc_find 15 = .ok (.bastore, 1) := by decide +kernel
theorem d_Rc_find_16 : decode b_Rc_find 16 = .ok (.aload_n 0, 1) := by decide +kernel
theorem d_Rc_find_17 : decode b_Rc_find 17 = .ok (.getfield 18, 3) := by decide +kernel
theorem d_Rc_find_20 : decode b_Rc_find 20 = .ok (.aload_n 0, 1) := by decide +kernel
theorem d_Rc_find_21 : decode b_Rc_find 21 = .ok (.getfield 62, 3) := by decide +kernel
theorem d_Rc_find_24 : decode b_Rc_find 24 = .ok (.iload_n 1, 1) := by decide +kernel
theorem d_Rc_find_25 : decode b_Rc_find 25 = .ok (.iastore, 1) := by decide +kernel
theorem d_Rc_find_26 : decode b_Rc_find 26 = .ok (.aload_n 0, 1) := by decide +kernel
theorem d_Rc_find_27 : decode b_Rc_find 27 = .ok (.dup, 1) := by decide +kernel
theorem d_Rc_find_28 : decode b_Rc_find 28 = .ok (.getfield 62, 3) := by decide +kernel
theorem d_Rc_find_31 : decode b_Rc_find 31 = .ok (.iconst 1, 1) := by decide +kernel
theorem d_Rc_find_32 : decode b_Rc_find 32 = .ok (.iadd, 1) := by decide +kernel
theorem d_Rc_find_33 : decode b_Rc_find 33 = .ok (.putfield 62, 3) := by decide +kernel
theorem d_Rc_find_36 : decode b_Rc_find 36 = .ok (.return_, 1) := by decide +kernel
theorem d_Rc_forget_0 : decode b_Rc_forget 0 = .ok (.iconst 0, 1) := by decide +kernel
theorem d_Rc_forget_1 : decode b_Rc_forget 1 = .ok (.istore_n 1, 1) := by decide +kernel
theorem d_Rc_forget_2 : decode b_Rc_forget 2 = .ok (.iload_n 1, 1) := by decide +kernel
theorem d_Rc_forget_3 : decode b_Rc_forget 3 = .ok (.bipush 96, 2) := by decide +kernel
theorem d_Rc_forget_5 : decode b_Rc_forget 5 = .ok (.if_icmp .ge 16, 3) := by decide +kernel
theorem d_Rc_forget_8 : decode b_Rc_forget 8 = .ok (.aload_n 0, 1) := by decide +kernel
theorem d_Rc_forget_9 : decode b_Rc_forget 9 = .ok (.getfield 9, 3) := by decide +kernel
theorem d_Rc_forget_12 : decode b_Rc_forget 12 = .ok (.iload_n 1, 1) := by decide +kernel
theorem d_Rc_forget_13 : decode b_Rc_forget 13 = .ok (.iconst 0, 1) := by decide +kernel
theorem d_Rc_forget_14 : decode b_Rc_forget 14 = .ok (.bastore, 1) := by decide +kernel
theorem d_Rc_forget_15 : decode b_Rc_forget 15 = .ok (.iinc 1 1, 3) := by decide +kernel
theorem d_Rc_forget_18 : decode b_Rc_forget 18 = .ok (.goto (-16), 3) := by decide +kernel
theorem d_Rc_forget_21 : decode b_Rc_forget 21 = .ok (.iconst 0, 1) := by decide +kernel
theorem d_Rc_forget_22 : decode b_Rc_forget 22 = .ok (.istore_n 1, 1) := by decide +kernel
theorem d_Rc_forget_23 : decode b_Rc_forget 23 = .ok (.iload_n 1, 1) := by decide +kernel
theorem d_Rc_forget_24 : decode b_Rc_forget 24 = .ok (.sipush 200, 3) := by decide +kernel
theorem d_Rc_forget_27 : decode b_Rc_forget 27 = .ok (.if_icmp .ge 16, 3) := by decide +kernel
theorem d_Rc_forget_30 : decode b_Rc_forget 30 = .ok (.aload_n 0, 1) := by decide +kernel
theorem d_Rc_forget_31 : decode b_Rc_forget 31 = .ok (.getfield 15, 3) := by decide +kernel
theorem d_Rc_forget_34 : decode b_Rc_forget 34 = .ok (.iload_n 1, 1) := by decide +kernel
theorem d_Rc_forget_35 : decode b_Rc_forget 35 = .ok (.iconst 0, 1) := by decide +kernel
theorem d_Rc_forget_36 : decode b_Rc_forget 36 = .ok (.bastore, 1) := by decide +kernel
theorem d_Rc_forget_37 : decode b_Rc_forget 37 = .ok (.iinc 1 1, 3) := by decide +kernel
theorem d_Rc_forget_40 : decode b_Rc_forget 40 = .ok (.goto (-17), 3) := by decide +kernel
theorem d_Rc_forget_43 : decode b_Rc_forget 43 = .ok (.aload_n 0, 1) := by decide +kernel
theorem d_Rc_forget_44 : decode b_Rc_forget 44 = .ok (.iconst 0, 1) := by decide +kernel
theorem d_Rc_forget_45 : decode b_Rc_forget 45 = .ok (.putfield 62, 3) := by decide +kernel
theorem d_Rc_forget_48 : decode b_Rc_forget 48 = .ok (.return_, 1) := by decide +kernel
theorem d_Re_countOf_0 : decode b_Re_countOf 0 = .ok (.aload_n 0, 1) := by decide +kernel
theorem d_Re_countOf_1 : decode b_Re_countOf 1 = .ok (.getfield 30, 3) := by decide +kernel
theorem d_Re_countOf_4 : decode b_Re_countOf 4 = .ok (.iload_n 1, 1) := by decide +kernel
theorem d_Re_countOf_5 : decode b_Re_countOf 5 = .ok (.iconst 1, 1) := by decide +kernel
theorem d_Re_countOf_6 : decode b_Re_countOf 6 = .ok (.iadd, 1) := by decide +kernel
theorem d_Re_countOf_7 : decode b_Re_countOf 7 = .ok (.iaload, 1) := by decide +kernel
theorem d_Re_countOf_8 : decode b_Re_countOf 8 = .ok (.aload_n 0, 1) := by decide +kernel
theorem d_Re_countOf_9 : decode b_Re_countOf 9 = .ok (.getfield 30, 3) := by decide +kernel
theorem d_Re_countOf_12 : decode b_Re_countOf 12 = .ok (.iload_n 1, 1) := by decide +kernel
theorem d_Re_countOf_13 : decode b_Re_countOf 13 = .ok (.iaload, 1) := by decide +kernel
theorem d_Re_countOf_14 : decode b_Re_countOf 14 = .ok (.isub, 1) := by decide +kernel
theorem d_Re_countOf_15 : decode b_Re_countOf 15 = .ok (.ireturn, 1) := by decide +kernel
theorem d_Re_pick_0 : decode b_Re_pick 0 = .ok (.aload_n 0, 1) := by decide +kernel
theorem d_Re_pick_1 : decode b_Re_pick 1 = .ok (.getfield 27, 3) := by decide +kernel
theorem d_Re_pick_4 : decode b_Re_pick 4 = .ok (.aload_n 0, 1) := by decide +kernel
theorem d_Re_pick_5 : decode b_Re_pick 5 = .ok (.getfield 30, 3) := by decide +kernel
theorem d_Re_pick_8 : decode b_Re_pick 8 = .ok (.iload_n 1, 1) := by decide +kernel
theorem d_Re_pick_9 : decode b_Re_pick 9 = .ok (.iaload, 1) := by decide +kernel
theorem d_Re_pick_10 : decode b_Re_pick 10 = .ok (.iload_n 2, 1) := by decide +kernel
theorem d_Re_pick_11 : decode b_Re_pick 11 = .ok (.iadd, 1) := by decide +kernel
theorem d_Re_pick_12 : decode b_Re_pick 12 = .ok (.iaload, 1) := by decide +kernel
theorem d_Re_pick_13 : decode b_Re_pick 13 = .ok (.ireturn, 1) := by decide +kernel
theorem d_Rc_spreadFrom_0 : decode b_Rc_spreadFrom 0 = .ok (.iconst 0, 1) := by decide +kernel
theorem d_Rc_spreadFrom_1 : decode b_Rc_spreadFrom 1 = .ok (.istore_n 2, 1) := by decide +kernel
theorem d_Rc_spreadFrom_2 : decode b_Rc_spreadFrom 2 = .ok (.iload_n 2, 1) := by decide +kernel
theorem d_Rc_spreadFrom_3 : decode b_Rc_spreadFrom 3 = .ok (.aload_n 0, 1) := by decide +kernel
theorem d_Rc_spreadFrom_4 : decode b_Rc_spreadFrom 4 = .ok (.getfield 30, 3) := by decide +kernel
theorem d_Rc_spreadFrom_7 : decode b_Rc_spreadFrom 7 = .ok (.iload_n 1, 1) := by decide +kernel
theorem d_Rc_spreadFrom_8 : decode b_Rc_spreadFrom 8 = .ok (.invokevirtual 68, 3) := by decide +kernel
theorem d_Rc_spreadFrom_11 : decode b_Rc_spreadFrom 11 = .ok (.if_icmp .ge 84, 3) := by decide +kernel
theorem d_Rc_spreadFrom_14 : decode b_Rc_spreadFrom 14 = .ok (.aload_n 0, 1) := by decide +kernel
theorem d_Rc_spreadFrom_15 : decode b_Rc_spreadFrom 15 = .ok (.getfield 30, 3) := by decide +kernel
theorem d_Rc_spreadFrom_18 : decode b_Rc_spreadFrom 18 = .ok (.getfield 74, 3) := by decide +kernel
theorem d_Rc_spreadFrom_21 : decode b_Rc_spreadFrom 21 = .ok (.aload_n 0, 1) := by decide +kernel
theorem d_Rc_spreadFrom_22 : decode b_Rc_spreadFrom 22 = .ok (.getfield 30, 3) := by decide +kernel
theorem d_Rc_spreadFrom_25 : decode b_Rc_spreadFrom 25 = .ok (.iload_n 1, 1) := by decide +kernel
theorem d_Rc_spreadFrom_26 : decode b_Rc_spreadFrom 26 = .ok (.iload_n 2, 1) := by decide +kernel
theorem d_Rc_spreadFrom_27 : decode b_Rc_spreadFrom 27 = .ok (.invokevirtual 77, 3) := by decide +kernel
theorem d_Rc_spreadFrom_30 : decode b_Rc_spreadFrom 30 = .ok (.iaload, 1) := by decide +kernel
theorem d_Rc_spreadFrom_31 : decode b_Rc_spreadFrom 31 = .ok (.istore_n 3, 1) := by decide +kernel
theorem d_Rc_spreadFrom_32 : decode b_Rc_spreadFrom 32 = .ok (.aload_n 0, 1) := by decide +kernel
theorem d_Rc_spreadFrom_33 : decode b_Rc_spreadFrom 33 = .ok (.getfield 34, 3) := by decide +kernel
theorem d_Rc_spreadFrom_36 : decode b_Rc_spreadFrom 36 = .ok (.getfield 81, 3) := by decide +kernel
theorem d_Rc_spreadFrom_39 : decode b_Rc_spreadFrom 39 = .ok (.iload_n 3, 1) := by decide +kernel
theorem d_Rc_spreadFrom_40 : decode b_Rc_spreadFrom 40 = .ok (.iaload, 1) := by decide +kernel
theorem d_Rc_spreadFrom_41 : decode b_Rc_spreadFrom 41 = .ok (.iconst 1, 1) := by decide +kernel
theorem d_Rc_spreadFrom_42 : decode b_Rc_spreadFrom 42 = .ok (.if_icmp .ne 19, 3) := by decide +kernel
theorem d_Rc_spreadFrom_45 : decode b_Rc_spreadFrom 45 = .ok (.aload_n 0, 1) := by decide +kernel
theorem d_Rc_spreadFrom_46 : decode b_Rc_spreadFrom 46 = .ok (.aload_n 0, 1) := by decide +kernel
theorem d_Rc_spreadFrom_47 : decode b_Rc_spreadFrom 47 = .ok (.getfield 34, 3) := by decide +kernel
theorem d_Rc_spreadFrom_50 : decode b_Rc_spreadFrom 50 = .ok (.getfield 86, 3) := by decide +kernel
theorem d_Rc_spreadFrom_53 : decode b_Rc_spreadFrom 53 = .ok (.iload_n 3, 1) := by decide +kernel
theorem d_Rc_spreadFrom_54 : decode b_Rc_spreadFrom 54 = .ok (.iaload, 1) := by decide +kernel
theorem d_Rc_spreadFrom_55 : decode b_Rc_spreadFrom 55 = .ok (.invokevirtual 41, 3) := by decide +kernel
theorem d_Rc_spreadFrom_58 : decode b_Rc_spreadFrom 58 = .ok (.goto 31, 3) := by decide +kernel
theorem d_Rc_spreadFrom_61 : decode b_Rc_spreadFrom 61 = .ok (.aload_n 0, 1) := by decide +kernel
theorem d_Rc_spreadFrom_62 : decode b_Rc_spreadFrom 62 = .ok (.getfield 34, 3) := by decide +kernel
theorem d_Rc_spreadFrom_65 : decode b_Rc_spreadFrom 65 = .ok (.getfield 81, 3) := by decide +kernel
theorem d_Rc_spreadFrom_68 : decode b_Rc_spreadFrom 68 = .ok (.iload_n 3, 1) := by decide +kernel
theorem d_Rc_spreadFrom_69 : decode b_Rc_spreadFrom 69 = .ok (.iaload, 1) := by decide +kernel
theorem d_Rc_spreadFrom_70 : decode b_Rc_spreadFrom 70 = .ok (.iconst 3, 1) := by decide +kernel
theorem d_Rc_spreadFrom_71 : decode b_Rc_spreadFrom 71 = .ok (.if_icmp .ne 18, 3) := by decide +kernel
theorem d_Rc_spreadFrom_74 : decode b_Rc_spreadFrom 74 = .ok (.aload_n 0, 1) := by decide +kernel
theorem d_Rc_spreadFrom_75 : decode b_Rc_spreadFrom 75 = .ok (.getfield 15, 3) := by decide +kernel
theorem d_Rc_spreadFrom_78 : decode b_Rc_spreadFrom 78 = .ok (.aload_n 0, 1) := by decide +kernel
theorem d_Rc_spreadFrom_79 : decode b_Rc_spreadFrom 79 = .ok (.getfield 34, 3) := by decide +kernel
theorem d_Rc_spreadFrom_82 : decode b_Rc_spreadFrom 82 = .ok (.getfield 86, 3) := by decide +kernel
theorem d_Rc_spreadFrom_85 : decode b_Rc_spreadFrom 85 = .ok (.iload_n 3, 1) := by decide +kernel
theorem d_Rc_spreadFrom_86 : decode b_Rc_spreadFrom 86 = .ok (.iaload, 1) := by decide +kernel
theorem d_Rc_spreadFrom_87 : decode b_Rc_spreadFrom 87 = .ok (.iconst 1, 1) := by decide +kernel
theorem d_Rc_spreadFrom_88 : decode b_Rc_spreadFrom 88 = .ok (.bastore, 1) := by decide +kernel
theorem d_Rc_spreadFrom_89 : decode b_Rc_spreadFrom 89 = .ok (.iinc 2 1, 3) := by decide +kernel
theorem d_Rc_spreadFrom_92 : decode b_Rc_spreadFrom 92 = .ok (.goto (-90), 3) := by decide +kernel
theorem d_Rc_spreadFrom_95 : decode b_Rc_spreadFrom 95 = .ok (.return_, 1) := by decide +kernel
end
section
set_option maxHeartbeats 4000000 in
set_option maxRecDepth 100000 in
theorem c_Na_giveMeaning (l : Launch) (D : va_G) (cI cZ : ClassId) (a : Nat → Nat) {V : Sto} {p1 : Int32} {r : Int32} {V' : Sto} (h : f_Na_giveMeaning V p1 = some (r, V')) : YMv l D cI cZ a shpC y_Na_giveMeaning b_Na_giveMeaning 3 rm_Na_giveMeaning [.ref (a 6), .int p1] V V' := by
  refine YMv_of (by decide) (Nat.le_of_ble_eq_true rfl) ?_
  intro C hl hDD hcI hcZ ha hC hE
  subst hl hDD hcI hcZ ha
  show Y C shpC 3 0 [(0, .ref (C.a 6)), (1, .int p1)] [] V
  rw [f_Na_giveMeaning] at h
  refine Y_aload_n (pc := 0) hC d_Na_giveMeaning_0 rfl 0 rfl ?_
  refine Y_getR (pc := 1) hC sc_6 fl_Na_34 rfl d_Na_giveMeaning_1 ?_
  refine Y_getR (pc := 4) hC sc_3 fl_Na_73 rfl d_Na_giveMeaning_4 ?_
  refine Y_iload_n (pc := 7) hC d_Na_giveMeaning_7 rfl 1 rfl ?_
  obtain ⟨hi, h⟩ := ck_some h
  refine Y_iald (pc := 8) hC sc_22 rfl hi d_Na_giveMeaning_8 ?_
  refine Y_istore_n (pc := 9) hC (L' := [(2, .int (V 22 p1.toNatClampNeg)), (0, .ref (C.a 6)), (1, .int p1)]) d_Na_giveMeaning_9 rfl (by decide) rfl ?_
  refine Y_aload_n (pc := 10) hC d_Na_giveMeaning_10 rfl 1 rfl ?_
  refine Y_getR (pc := 11) hC sc_6 fl_Na_30 rfl d_Na_giveMeaning_11 ?_
  refine Y_getR (pc := 14) hC sc_1 fl_Na_53 rfl d_Na_giveMeaning_14 ?_
  refine Y_aload_n (pc := 17) hC d_Na_giveMeaning_17 rfl 1 rfl ?_
  refine Y_getR (pc := 18) hC sc_6 fl_Na_34 rfl d_Na_giveMeaning_18 ?_
  refine Y_getR (pc := 21) hC sc_3 fl_Na_59 rfl d_Na_giveMeaning_21 ?_
  refine Y_iload_n (pc := 24) hC d_Na_giveMeaning_24 rfl 2 rfl ?_
  obtain ⟨hi, h⟩ := ck_some h
  refine Y_iald (pc := 25) hC sc_21 rfl hi d_Na_giveMeaning_25 ?_
  obtain ⟨hi, h⟩ := ck_some h
  refine Y_zald (pc := 26) hC sc_13 rfl hi d_Na_giveMeaning_26 ?_
  refine Y_if_ne (pc := 27) hC 41 d_Na_giveMeaning_27 rfl (fun cc_27 => ?_) (fun cc_27 => ?_)
  · have h := ifn cc_27 h
    refine Y_aload_n (pc := 41) hC d_Na_giveMeaning_41 rfl 1 rfl ?_
    refine Y_getR (pc := 42) hC sc_6 fl_Na_34 rfl d_Na_giveMeaning_42 ?_
    refine Y_getR (pc := 45) hC sc_3 fl_Na_76 rfl d_Na_giveMeaning_45 ?_
    refine Y_iload_n (pc := 48) hC d_Na_giveMeaning_48 rfl 2 rfl ?_
    obtain ⟨hi, h⟩ := ck_some h
    refine Y_iald (pc := 49) hC sc_23 rfl hi d_Na_giveMeaning_49 ?_
    refine Y_if_ne (pc := 50) hC 62 d_Na_giveMeaning_50 rfl (fun cc_50 => ?_) (fun cc_50 => ?_)
    · have h := ifn cc_50 h
      refine Y_aload_n (pc := 62) hC d_Na_giveMeaning_62 rfl 1 rfl ?_
      refine Y_iload_n (pc := 63) hC d_Na_giveMeaning_63 rfl 0 rfl ?_
      obtain ⟨r1, V1, hc_r1, h⟩ := cl_some h
      refine Y_callV (pc := 64) hC (c_Na_isCommon C.l C.D C.cI C.cZ C.a hc_r1) sc_6 cls_Na ml_Na_93 mv_Na_isCommon (by decide) (Nat.le_of_ble_eq_true rfl) rfl d_Na_giveMeaning_64 ?_
      refine Y_if_eq (pc := 67) hC 81 d_Na_giveMeaning_67 rfl (fun cc_67 => ?_) (fun cc_67 => ?_)
      · have h := ifp cc_67 h
        refine Y_aload_n (pc := 81) hC d_Na_giveMeaning_81 rfl 1 rfl ?_
        refine Y_iload_n (pc := 82) hC d_Na_giveMeaning_82 rfl 0 rfl ?_
        obtain ⟨r2, V2, hc_r2, h⟩ := cl_some h
        refine Y_callV (pc := 83) hC (c_Na_definer C.l C.D C.cI C.cZ C.a hc_r2) sc_6 cls_Na ml_Na_96 mv_Na_definer (by decide) (Nat.le_of_ble_eq_true rfl) rfl d_Na_giveMeaning_83 ?_
        refine Y_iconst (pc := 86) hC d_Na_giveMeaning_86 ki_m1 ?_
        refine Y_icmp_eq (pc := 87) hC 103 d_Na_giveMeaning_87 rfl (fun cc_87 => ?_) (fun cc_87 => ?_)
        · have h := ifp cc_87 h
          refine Y_aload_n (pc := 103) hC d_Na_giveMeaning_103 rfl 1 rfl ?_
          refine Y_getR (pc := 104) hC sc_6 fl_Na_34 rfl d_Na_giveMeaning_104 ?_
          refine Y_getR (pc := 107) hC sc_3 fl_Na_76 rfl d_Na_giveMeaning_107 ?_
          refine Y_iload_n (pc := 110) hC d_Na_giveMeaning_110 rfl 2 rfl ?_
          obtain ⟨hi, h⟩ := ck_some h
          refine Y_iald (pc := 111) hC sc_23 rfl hi d_Na_giveMeaning_111 ?_
          refine Y_iconst (pc := 112) hC d_Na_giveMeaning_112 ki_2 ?_
          refine Y_icmp_ne (pc := 113) hC 127 d_Na_giveMeaning_113 rfl (fun cc_113 => ?_) (fun cc_113 => ?_)
          · have h := ifn cc_113 h
            refine Y_aload_n (pc := 127) hC d_Na_giveMeaning_127 rfl 1 rfl ?_
            refine Y_iload_n (pc := 128) hC d_Na_giveMeaning_128 rfl 2 rfl ?_
            refine Y_iconst (pc := 129) hC d_Na_giveMeaning_129 ki_0 ?_
            refine Y_iconst (pc := 130) hC d_Na_giveMeaning_130 ki_m1 ?_
            refine Y_iconst (pc := 131) hC d_Na_giveMeaning_131 ki_0 ?_
            obtain ⟨r3, V3, hc_r3, h⟩ := cl_some h
            refine Y_callVv (pc := 132) hC (c_Na_setMeaning C.l C.D C.cI C.cZ C.a hc_r3) sc_6 cls_Na ml_Na_103 mv_Na_setMeaning (by decide) (Nat.le_of_ble_eq_true rfl) rfl d_Na_giveMeaning_132 ?_
            exact Y_vret (pc := 135) hC hE d_Na_giveMeaning_135 h
          · have h := ifp cc_113 h
            refine Y_aload_n (pc := 116) hC d_Na_giveMeaning_116 rfl 1 rfl ?_
            refine Y_iload_n (pc := 117) hC d_Na_giveMeaning_117 rfl 2 rfl ?_
            refine Y_iconst (pc := 118) hC d_Na_giveMeaning_118 ki_2 ?_
            refine Y_iconst (pc := 119) hC d_Na_giveMeaning_119 ki_m1 ?_
            refine Y_iconst (pc := 120) hC d_Na_giveMeaning_120 ki_0 ?_
            obtain ⟨r4, V4, hc_r4, h⟩ := cl_some h
            refine Y_callVv (pc := 121) hC (c_Na_setMeaning C.l C.D C.cI C.cZ C.a hc_r4) sc_6 cls_Na ml_Na_103 mv_Na_setMeaning (by decide) (Nat.le_of_ble_eq_true rfl) rfl d_Na_giveMeaning_121 ?_
            refine Y_goto (pc := 124) hC 135 d_Na_giveMeaning_124 rfl ?_
            exact Y_vret (pc := 135) hC hE d_Na_giveMeaning_135 h
        · have h := ifn cc_87 h
          refine Y_aload_n (pc := 90) hC d_Na_giveMeaning_90 rfl 1 rfl ?_
          refine Y_iload_n (pc := 91) hC d_Na_giveMeaning_91 rfl 2 rfl ?_
          refine Y_aload_n (pc := 92) hC d_Na_giveMeaning_92 rfl 1 rfl ?_
          refine Y_iload_n (pc := 93) hC d_Na_giveMeaning_93 rfl 0 rfl ?_
          obtain ⟨r5, V5, hc_r5, h⟩ := cl_some h
          refine Y_callV (pc := 94) hC (c_Na_definer C.l C.D C.cI C.cZ C.a hc_r5) sc_6 cls_Na ml_Na_96 mv_Na_definer (by decide) (Nat.le_of_ble_eq_true rfl) rfl d_Na_giveMeaning_94 ?_
          obtain ⟨r6, V6, hc_r6, h⟩ := cl_some h
          refine Y_callVv (pc := 97) hC (c_Na_copyMeaning C.l C.D C.cI C.cZ C.a hc_r6) sc_6 cls_Na ml_Na_107 mv_Na_copyMeaning (by decide) (Nat.le_of_ble_eq_true rfl) rfl d_Na_giveMeaning_97 ?_
          refine Y_goto (pc := 100) hC 135 d_Na_giveMeaning_100 rfl ?_
          exact Y_vret (pc := 135) hC hE d_Na_giveMeaning_135 h
      · have h := ifn cc_67 h
        refine Y_aload_n (pc := 70) hC d_Na_giveMeaning_70 rfl 1 rfl ?_
        refine Y_iload_n (pc := 71) hC d_Na_giveMeaning_71 rfl 2 rfl ?_
        refine Y_iconst (pc := 72) hC d_Na_giveMeaning_72 ki_3 ?_
        refine Y_iload_n (pc := 73) hC d_Na_giveMeaning_73 rfl 0 rfl ?_
        refine Y_iconst (pc := 74) hC d_Na_giveMeaning_74 ki_0 ?_
        obtain ⟨r7, V7, hc_r7, h⟩ := cl_some h
        refine Y_callVv (pc := 75) hC (c_Na_setMeaning C.l C.D C.cI C.cZ C.a hc_r7) sc_6 cls_Na ml_Na_103 mv_Na_setMeaning (by decide) (Nat.le_of_ble_eq_true rfl) rfl d_Na_giveMeaning_75 ?_
        refine Y_goto (pc := 78) hC 135 d_Na_giveMeaning_78 rfl ?_
        exact Y_vret (pc := 135) hC hE d_Na_giveMeaning_135 h
    · have h := ifp cc_50 h
      refine Y_aload_n (pc := 53) hC d_Na_giveMeaning_53 rfl 1 rfl ?_
      refine Y_iload_n (pc := 54) hC d_Na_giveMeaning_54 rfl 2 rfl ?_
      refine Y_iload_n (pc := 55) hC d_Na_giveMeaning_55 rfl 2 rfl ?_
      obtain ⟨r8, V8, hc_r8, h⟩ := cl_some h
      refine Y_callVv (pc := 56) hC (c_Na_copyMeaning C.l C.D C.cI C.cZ C.a hc_r8) sc_6 cls_Na ml_Na_107 mv_Na_copyMeaning (by decide) (Nat.le_of_ble_eq_true rfl) rfl d_Na_giveMeaning_56 ?_
      refine Y_goto (pc := 59) hC 135 d_Na_giveMeaning_59 rfl ?_
      exact Y_vret (pc := 135) hC hE d_Na_giveMeaning_135 h
  · have h := ifp cc_27 h
    refine Y_aload_n (pc := 30) hC d_Na_giveMeaning_30 rfl 1 rfl ?_
    refine Y_iload_n (pc := 31) hC d_Na_giveMeaning_31 rfl 2 rfl ?_
    refine Y_iconst (pc := 32) hC d_Na_giveMeaning_32 ki_m1 ?_
    refine Y_iconst (pc := 33) hC d_Na_giveMeaning_33 ki_m1 ?_
    refine Y_iconst (pc := 34) hC d_Na_giveMeaning_34 ki_0 ?_
    obtain ⟨r9, V9, hc_r9, h⟩ := cl_some h
    refine Y_callVv (pc := 35) hC (c_Na_setMeaning C.l C.D C.cI C.cZ C.a hc_r9) sc_6 cls_Na ml_Na_103 mv_Na_setMeaning (by decide) (Nat.le_of_ble_eq_true rfl) rfl d_Na_giveMeaning_35 ?_
    refine Y_goto (pc := 38) hC 135 d_Na_giveMeaning_38 rfl ?_
    exact Y_vret (pc := 135) hC hE d_Na_giveMeaning_135 h
set_option maxHeartbeats 4000000 in
set_option maxRecDepth 100000 in
theorem c_Na_takeGlobal (l : Launch) (D : va_G) (cI cZ : ClassId) (a : Nat → Nat) {V : Sto} {p1 p2 : Int32} {r : Int32} {V' : Sto} (h : f_Na_takeGlobal V p1 p2 = some (r, V')) : YMv l D cI cZ a shpC y_Na_takeGlobal b_Na_takeGlobal 3 rm_Na_takeGlobal [.ref (a 6), .int p1, .int p2] V V' := by
  refine YMv_of (by decide) (Nat.le_of_ble_eq_true rfl) ?_
  intro C hl hDD hcI hcZ ha hC hE
  subst hl hDD hcI hcZ ha
  show Y C shpC 3 0 [(0, .ref (C.a 6)), (1, .int p1), (2, .int p2)] [] V
  rw [f_Na_takeGlobal] at h
  refine Y_aload_n (pc := 0) hC d_Na_takeGlobal_0 rfl 0 rfl ?_
  refine Y_getR (pc := 1) hC sc_6 fl_Na_9 rfl d_Na_takeGlobal_1 ?_
  refine Y_iload_n (pc := 4) hC d_Na_takeGlobal_4 rfl 1 rfl ?_
  obtain ⟨hi, h⟩ := ck_some h
  refine Y_iald (pc := 5) hC sc_37 rfl hi d_Na_takeGlobal_5 ?_
  refine Y_iconst (pc := 6) hC d_Na_takeGlobal_6 ki_m1 ?_
  refine Y_icmp_ne (pc := 7) hC 20 d_Na_takeGlobal_7 rfl (fun cc_7 => ?_) (fun cc_7 => ?_)
  · have h := ifn cc_7 h
    refine Y_aload_n (pc := 20) hC d_Na_takeGlobal_20 rfl 0 rfl ?_
    refine Y_getI (pc := 21) hC sc_6 fl_Na_44 rfl d_Na_takeGlobal_21 ?_
    refine Y_iconst (pc := 24) hC d_Na_takeGlobal_24 ki_m1 ?_
    refine Y_icmp_eq (pc := 25) hC 36 d_Na_takeGlobal_25 rfl (fun cc_25 => ?_) (fun cc_25 => ?_)
    · have h := ifp cc_25 h
      refine Y_aload_n (pc := 36) hC d_Na_takeGlobal_36 rfl 0 rfl ?_
      refine Y_iload_n (pc := 37) hC d_Na_takeGlobal_37 rfl 1 rfl ?_
      obtain ⟨V1, hV1, h⟩ := nm_some h
      refine Y_put (pc := 38) hC sc_6 fl_Na_44 rfl (by decide) fp_Na ft_Na_5 rfl rfl hV1 d_Na_takeGlobal_38 ?_
      exact Y_vret (pc := 41) hC hE d_Na_takeGlobal_41 h
    · have h := ifn cc_25 h
      refine Y_iload_n (pc := 28) hC d_Na_takeGlobal_28 rfl 1 rfl ?_
      refine Y_aload_n (pc := 29) hC d_Na_takeGlobal_29 rfl 0 rfl ?_
      refine Y_getI (pc := 30) hC sc_6 fl_Na_44 rfl d_Na_takeGlobal_30 ?_
      refine Y_icmp_ge (pc := 33) hC 41 d_Na_takeGlobal_33 rfl (fun cc_33 => ?_) (fun cc_33 => ?_)
      · have h := ifp cc_33 h
        exact Y_vret (pc := 41) hC hE d_Na_takeGlobal_41 h
      · have h := ifn cc_33 h
        refine Y_aload_n (pc := 36) hC d_Na_takeGlobal_36 rfl 0 rfl ?_
        refine Y_iload_n (pc := 37) hC d_Na_takeGlobal_37 rfl 1 rfl ?_
        obtain ⟨V2, hV2, h⟩ := nm_some h
        refine Y_put (pc := 38) hC sc_6 fl_Na_44 rfl (by decide) fp_Na ft_Na_5 rfl rfl hV2 d_Na_takeGlobal_38 ?_
        exact Y_vret (pc := 41) hC hE d_Na_takeGlobal_41 h
  · have h := ifp cc_7 h
    refine Y_aload_n (pc := 10) hC d_Na_takeGlobal_10 rfl 0 rfl ?_
    refine Y_getR (pc := 11) hC sc_6 fl_Na_9 rfl d_Na_takeGlobal_11 ?_
    refine Y_iload_n (pc := 14) hC d_Na_takeGlobal_14 rfl 1 rfl ?_
    refine Y_iload_n (pc := 15) hC d_Na_takeGlobal_15 rfl 2 rfl ?_
    obtain ⟨hi, h⟩ := ck_some h
    obtain ⟨V3, hV3, h⟩ := nm_some h
    refine Y_iast (pc := 16) hC sc_37 (by decide) rfl hi rfl hV3 d_Na_takeGlobal_16 ?_
    refine Y_goto (pc := 17) hC 41 d_Na_takeGlobal_17 rfl ?_
    exact Y_vret (pc := 41) hC hE d_Na_takeGlobal_41 h
set_option maxHeartbeats 4000000 in
set_option maxRecDepth 100000 in
theorem c_Na_takeWeak (l : Launch) (D : va_G) (cI cZ : ClassId) (a : Nat → Nat) {V : Sto} {p1 p2 : Int32} {r : Int32} {V' : Sto} (h : f_Na_takeWeak V p1 p2 = some (r, V')) : YMv l D cI cZ a shpC y_Na_takeWeak b_Na_takeWeak 3 rm_Na_takeWeak [.ref (a 6), .int p1, .int p2] V V' := by
  refine YMv_of (by decide) (Nat.le_of_ble_eq_true rfl) ?_
  intro C hl hDD hcI hcZ ha hC hE
  subst hl hDD hcI hcZ ha
  show Y C shpC 3 0 [(0, .ref (C.a 6)), (1, .int p1), (2, .int p2)] [] V
  rw [f_Na_takeWeak] at h
  refine Y_aload_n (pc := 0) hC d_Na_takeWeak_0 rfl 0 rfl ?_
  refine Y_getR (pc := 1) hC sc_6 fl_Na_15 rfl d_Na_takeWeak_1 ?_
  refine Y_iload_n (pc := 4) hC d_Na_takeWeak_4 rfl 1 rfl ?_
  obtain ⟨hi, h⟩ := ck_some h
  refine Y_iald (pc := 5) hC sc_38 rfl hi d_Na_takeWeak_5 ?_
  refine Y_iconst (pc := 6) hC d_Na_takeWeak_6 ki_m1 ?_
  refine Y_icmp_eq (pc := 7) hC 36 d_Na_takeWeak_7 rfl (fun cc_7 => ?_) (fun cc_7 => ?_)
  · have h := ifp cc_7 h
    refine Y_aload_n (pc := 36) hC d_Na_takeWeak_36 rfl 0 rfl ?_
    refine Y_getR (pc := 37) hC sc_6 fl_Na_15 rfl d_Na_takeWeak_37 ?_
    refine Y_iload_n (pc := 40) hC d_Na_takeWeak_40 rfl 1 rfl ?_
    refine Y_iload_n (pc := 41) hC d_Na_takeWeak_41 rfl 2 rfl ?_
    obtain ⟨hi, h⟩ := ck_some h
    obtain ⟨V1, hV1, h⟩ := nm_some h
    refine Y_iast (pc := 42) hC sc_38 (by decide) rfl hi rfl hV1 d_Na_takeWeak_42 ?_
    exact Y_vret (pc := 43) hC hE d_Na_takeWeak_43 h
  · have h := ifn cc_7 h
    refine Y_aload_n (pc := 10) hC d_Na_takeWeak_10 rfl 0 rfl ?_
    refine Y_getR (pc := 11) hC sc_6 fl_Na_34 rfl d_Na_takeWeak_11 ?_
    refine Y_getR (pc := 14) hC sc_3 fl_Na_59 rfl d_Na_takeWeak_14 ?_
    refine Y_iload_n (pc := 17) hC d_Na_takeWeak_17 rfl 2 rfl ?_
    obtain ⟨hi, h⟩ := ck_some h
    refine Y_iald (pc := 18) hC sc_21 rfl hi d_Na_takeWeak_18 ?_
    refine Y_aload_n (pc := 19) hC d_Na_takeWeak_19 rfl 0 rfl ?_
    refine Y_getR (pc := 20) hC sc_6 fl_Na_34 rfl d_Na_takeWeak_20 ?_
    refine Y_getR (pc := 23) hC sc_3 fl_Na_59 rfl d_Na_takeWeak_23 ?_
    refine Y_aload_n (pc := 26) hC d_Na_takeWeak_26 rfl 0 rfl ?_
    refine Y_getR (pc := 27) hC sc_6 fl_Na_15 rfl d_Na_takeWeak_27 ?_
    refine Y_iload_n (pc := 30) hC d_Na_takeWeak_30 rfl 1 rfl ?_
    obtain ⟨hi, h⟩ := ck_some h
    refine Y_iald (pc := 31) hC sc_38 rfl hi d_Na_takeWeak_31 ?_
    obtain ⟨hi, h⟩ := ck_some h
    refine Y_iald (pc := 32) hC sc_21 rfl hi d_Na_takeWeak_32 ?_
    refine Y_icmp_ge (pc := 33) hC 43 d_Na_takeWeak_33 rfl (fun cc_33 => ?_) (fun cc_33 => ?_)
    · have h := ifp cc_33 h
      exact Y_vret (pc := 43) hC hE d_Na_takeWeak_43 h
    · have h := ifn cc_33 h
      refine Y_aload_n (pc := 36) hC d_Na_takeWeak_36 rfl 0 rfl ?_
      refine Y_getR (pc := 37) hC sc_6 fl_Na_15 rfl d_Na_takeWeak_37 ?_
      refine Y_iload_n (pc := 40) hC d_Na_takeWeak_40 rfl 1 rfl ?_
      refine Y_iload_n (pc := 41) hC d_Na_takeWeak_41 rfl 2 rfl ?_
      obtain ⟨hi, h⟩ := ck_some h
      obtain ⟨V2, hV2, h⟩ := nm_some h
      refine Y_iast (pc := 42) hC sc_38 (by decide) rfl hi rfl hV2 d_Na_takeWeak_42 ?_
      exact Y_vret (pc := 43) hC hE d_Na_takeWeak_43 h
set_option maxHeartbeats 4000000 in
set_option maxRecDepth 100000 in
theorem c_Na_take (l : Launch) (D : va_G) (cI cZ : ClassId) (a : Nat → Nat) {V : Sto} {p1 : Int32} {r : Int32} {V' : Sto} (h : f_Na_take V p1 = some (r, V')) : YMv l D cI cZ a shpC y_Na_take b_Na_take 3 rm_Na_take [.ref (a 6), .int p1] V V' := by
  refine YMv_of (by decide) (Nat.le_of_ble_eq_true rfl) ?_
  intro C hl hDD hcI hcZ ha hC hE
  subst hl hDD hcI hcZ ha
  show Y C shpC 3 0 [(0, .ref (C.a 6)), (1, .int p1)] [] V
  rw [f_Na_take] at h
  refine Y_aload_n (pc := 0) hC d_Na_take_0 rfl 0 rfl ?_
  refine Y_getR (pc := 1) hC sc_6 fl_Na_34 rfl d_Na_take_1 ?_
  refine Y_getR (pc := 4) hC sc_3 fl_Na_73 rfl d_Na_take_4 ?_
  refine Y_iload_n (pc := 7) hC d_Na_take_7 rfl 1 rfl ?_
  obtain ⟨hi, h⟩ := ck_some h
  refine Y_iald (pc := 8) hC sc_22 rfl hi d_Na_take_8 ?_
  refine Y_istore_n (pc := 9) hC (L' := [(2, .int (V 22 p1.toNatClampNeg)), (0, .ref (C.a 6)), (1, .int p1)]) d_Na_take_9 rfl (by decide) rfl ?_
  refine Y_aload_n (pc := 10) hC d_Na_take_10 rfl 1 rfl ?_
  refine Y_getR (pc := 11) hC sc_6 fl_Na_34 rfl d_Na_take_11 ?_
  refine Y_getR (pc := 14) hC sc_3 fl_Na_76 rfl d_Na_take_14 ?_
  refine Y_iload_n (pc := 17) hC d_Na_take_17 rfl 2 rfl ?_
  obtain ⟨hi, h⟩ := ck_some h
  refine Y_iald (pc := 18) hC sc_23 rfl hi d_Na_take_18 ?_
  by_cases cs_19_0 : (V 23 p1.toNatClampNeg) = 1
  · have h := ifp cs_19_0 h
    refine Y_lookup (pc := 19) hC (off := 25) 44 d_Na_take_19 (by decide) (by rw [cs_19_0]; try rfl) rfl ?_
    refine Y_aload_n (pc := 44) hC d_Na_take_44 rfl 1 rfl ?_
    refine Y_iload_n (pc := 45) hC d_Na_take_45 rfl 0 rfl ?_
    refine Y_iload_n (pc := 46) hC d_Na_take_46 rfl 2 rfl ?_
    obtain ⟨r1, V1, hc_r1, h⟩ := cl_some h
    refine Y_callVv (pc := 47) hC (c_Na_takeGlobal C.l C.D C.cI C.cZ C.a hc_r1) sc_6 cls_Na ml_Na_79 mv_Na_takeGlobal (by decide) (Nat.le_of_ble_eq_true rfl) rfl d_Na_take_47 ?_
    refine Y_goto (pc := 50) hC 86 d_Na_take_50 rfl ?_
    exact Y_vret (pc := 86) hC hE d_Na_take_86 h
  · have h := ifn cs_19_0 h
    by_cases cs_19_1 : (V 23 p1.toNatClampNeg) = 3
    · have h := ifp cs_19_1 h
      refine Y_lookup (pc := 19) hC (off := 34) 53 d_Na_take_19 (by decide) (by rw [cs_19_1]; try rfl) rfl ?_
      refine Y_aload_n (pc := 53) hC d_Na_take_53 rfl 1 rfl ?_
      refine Y_getR (pc := 54) hC sc_6 fl_Na_18 rfl d_Na_take_54 ?_
      refine Y_iload_n (pc := 57) hC d_Na_take_57 rfl 0 rfl ?_
      refine Y_aload_n (pc := 58) hC d_Na_take_58 rfl 1 rfl ?_
      refine Y_getR (pc := 59) hC sc_6 fl_Na_18 rfl d_Na_take_59 ?_
      refine Y_iload_n (pc := 62) hC d_Na_take_62 rfl 0 rfl ?_
      obtain ⟨hi, h⟩ := ck_some h
      refine Y_iald (pc := 63) hC sc_39 rfl hi d_Na_take_63 ?_
      refine Y_aload_n (pc := 64) hC d_Na_take_64 rfl 1 rfl ?_
      refine Y_getR (pc := 65) hC sc_6 fl_Na_34 rfl d_Na_take_65 ?_
      refine Y_getR (pc := 68) hC sc_3 fl_Na_83 rfl d_Na_take_68 ?_
      refine Y_iload_n (pc := 71) hC d_Na_take_71 rfl 2 rfl ?_
      obtain ⟨hi, h⟩ := ck_some h
      refine Y_iald (pc := 72) hC sc_26 rfl hi d_Na_take_72 ?_
      refine Y_mmax (pc := 73) hC mm_Na_84 (by decide) (Nat.le_of_ble_eq_true rfl) d_Na_take_73 ?_
      obtain ⟨hi, h⟩ := ck_some h
      obtain ⟨V2, hV2, h⟩ := nm_some h
      refine Y_iast (pc := 76) hC sc_39 (by decide) rfl hi rfl hV2 d_Na_take_76 ?_
      refine Y_goto (pc := 77) hC 86 d_Na_take_77 rfl ?_
      exact Y_vret (pc := 86) hC hE d_Na_take_86 h
    · have h := ifn cs_19_1 h
      have cn_0 := i32_ne cs_19_0
      have cn_1 := i32_ne cs_19_1
      simp only [i32lit_1, i32lit_3] at cn_0 cn_1
      refine Y_lookup (pc := 19) hC (off := 61) 80 d_Na_take_19 (by decide) (by simp [Op.lookupswitch.offset, Ne.symm cn_0, cn_0, Ne.symm cn_1, cn_1]) rfl ?_
      refine Y_aload_n (pc := 80) hC d_Na_take_80 rfl 1 rfl ?_
      refine Y_iload_n (pc := 81) hC d_Na_take_81 rfl 0 rfl ?_
      refine Y_iload_n (pc := 82) hC d_Na_take_82 rfl 2 rfl ?_
      obtain ⟨r2, V3, hc_r2, h⟩ := cl_some h
      refine Y_callVv (pc := 83) hC (c_Na_takeWeak C.l C.D C.cI C.cZ C.a hc_r2) sc_6 cls_Na ml_Na_90 mv_Na_takeWeak (by decide) (Nat.le_of_ble_eq_true rfl) rfl d_Na_take_83 ?_
      exact Y_vret (pc := 86) hC hE d_Na_take_86 h
set_option maxHeartbeats 4000000 in
set_option maxRecDepth 100000 in
theorem ylp_fill37_5 {C : YC} {r : Int32} {V' : Sto} {x1 : Int32} {x3 : Int32} {k20 : Sto → RT} (hC : YF C "java/util/Arrays" b_fill37 4 rm_fill37) (hE : YEv C shpC V') (hk20 : ∀ (V1 : Sto), k20 V1 = some (r, V') → Y C shpC 4 20 [] [] V1) : ∀ (n : Nat) (x2 : Int32) (V : Sto), lp_fill37_5 x1 x3 k20 n x2 V = some (r, V') → Y C shpC 4 5 [(0, .ref (C.a 37)), (1, .int x1), (2, .int x2), (3, .int x3)] [] V := by
  intro n
  induction n with
  | zero =>
    intro x2 V h
    rw [lp_fill37_5] at h
    cases h
  | succ n ih =>
    intro x2 V h
    rw [lp_fill37_5] at h
    refine Y_iload_n (pc := 5) hC d_fill37_5 rfl 2 rfl ?_
    refine Y_iload_n (pc := 6) hC d_fill37_6 rfl 3 rfl ?_
    refine Y_icmp_ge (pc := 7) hC 20 d_fill37_7 rfl (fun cc_7 => ?_) (fun cc_7 => ?_)
    · have h := ifp cc_7 h
      refine Y_sub (pc := 20) [] rfl ?_
      exact hk20 _ h
    · have h := ifn cc_7 h
      refine Y_aload_n (pc := 10) hC d_fill37_10 rfl 0 rfl ?_
      refine Y_iload_n (pc := 11) hC d_fill37_11 rfl 2 rfl ?_
      refine Y_iload_n (pc := 12) hC d_fill37_12 rfl 1 rfl ?_
      obtain ⟨hi, h⟩ := ck_some h
      obtain ⟨V1, hV1, h⟩ := nm_some h
      refine Y_iast (pc := 13) hC sc_37 (by decide) rfl hi rfl hV1 d_fill37_13 ?_
      refine Y_iinc (pc := 14) hC (v := x2 + 1) (L' := [(2, .int (x2 + 1)), (0, .ref (C.a 37)), (1, .int x1), (3, .int x3)]) d_fill37_14 2 rfl rfl (by decide) rfl ?_
      refine Y_goto (pc := 17) hC 5 d_fill37_17 rfl ?_
      refine Y_sub (pc := 5) [1, 2, 0, 3] rfl ?_
      exact ih _ _ h
set_option maxHeartbeats 4000000 in
set_option maxRecDepth 100000 in
theorem c_fill37 (l : Launch) (D : va_G) (cI cZ : ClassId) (a : Nat → Nat) {V : Sto} {p1 : Int32} {r : Int32} {V' : Sto} (h : f_fill37 V p1 = some (r, V')) : YMv l D cI cZ a shpC y_fill37 b_fill37 4 rm_fill37 [.ref (a 37), .int p1] V V' := by
  refine YMv_of (by decide) (Nat.le_of_ble_eq_true rfl) ?_
  intro C hl hDD hcI hcZ ha hC hE
  subst hl hDD hcI hcZ ha
  show Y C shpC 4 0 [(0, .ref (C.a 37)), (1, .int p1)] [] V
  rw [f_fill37] at h
  refine Y_iconst (pc := 0) hC d_fill37_0 ki_0 ?_
  refine Y_istore_n (pc := 1) hC (L' := [(2, .int 0), (0, .ref (C.a 37)), (1, .int p1)]) d_fill37_1 rfl (by decide) rfl ?_
  refine Y_aload_n (pc := 2) hC d_fill37_2 rfl 1 rfl ?_
  refine Y_alen (pc := 3) hC sc_37 rfl d_fill37_3 ?_
  refine Y_istore_n (pc := 4) hC (L' := [(3, .int (nI 200)), (2, .int 0), (0, .ref (C.a 37)), (1, .int p1)]) d_fill37_4 rfl (by decide) rfl ?_
  refine Y_sub (pc := 5) [2, 3, 1, 0] rfl ?_
  refine ylp_fill37_5 hC hE (fun V2 h => ?_) FU _ _ h
  exact Y_vret (pc := 20) hC hE d_fill37_20 h
set_option maxHeartbeats 4000000 in
set_option maxRecDepth 100000 in
theorem ylp_fill38_5 {C : YC} {r : Int32} {V' : Sto} {x1 : Int32} {x3 : Int32} {k20 : Sto → RT} (hC : YF C "java/util/Arrays" b_fill38 4 rm_fill38) (hE : YEv C shpC V') (hk20 : ∀ (V1 : Sto), k20 V1 = some (r, V') → Y C shpC 4 20 [] [] V1) : ∀ (n : Nat) (x2 : Int32) (V : Sto), lp_fill38_5 x1 x3 k20 n x2 V = some (r, V') → Y C shpC 4 5 [(0, .ref (C.a 38)), (1, .int x1), (2, .int x2), (3, .int x3)] [] V := by
  intro n
  induction n with
  | zero =>
    intro x2 V h
    rw [lp_fill38_5] at h
    cases h
  | succ n ih =>
    intro x2 V h
    rw [lp_fill38_5] at h
    refine Y_iload_n (pc := 5) hC d_fill38_5 rfl 2 rfl ?_
    refine Y_iload_n (pc := 6) hC d_fill38_6 rfl 3 rfl ?_
    refine Y_icmp_ge (pc := 7) hC 20 d_fill38_7 rfl (fun cc_7 => ?_) (fun cc_7 => ?_)
    · have h := ifp cc_7 h
      refine Y_sub (pc := 20) [] rfl ?_
      exact hk20 _ h
    · have h := ifn cc_7 h
      refine Y_aload_n (pc := 10) hC d_fill38_10 rfl 0 rfl ?_
      refine Y_iload_n (pc := 11) hC d_fill38_11 rfl 2 rfl ?_
      refine Y_iload_n (pc := 12) hC d_fill38_12 rfl 1 rfl ?_
      obtain ⟨hi, h⟩ := ck_some h
      obtain ⟨V1, hV1, h⟩ := nm_some h
      refine Y_iast (pc := 13) hC sc_38 (by decide) rfl hi rfl hV1 d_fill38_13 ?_
      refine Y_iinc (pc := 14) hC (v := x2 + 1) (L' := [(2, .int (x2 + 1)), (0, .ref (C.a 38)), (1, .int x1), (3, .int x3)]) d_fill38_14 2 rfl rfl (by decide) rfl ?_
      refine Y_goto (pc := 17) hC 5 d_fill38_17 rfl ?_
      refine Y_sub (pc := 5) [1, 2, 0, 3] rfl ?_
      exact ih _ _ h
set_option maxHeartbeats 4000000 in
set_option maxRecDepth 100000 in
theorem c_fill38 (l : Launch) (D : va_G) (cI cZ : ClassId) (a : Nat → Nat) {V : Sto} {p1 : Int32} {r : Int32} {V' : Sto} (h : f_fill38 V p1 = some (r, V')) : YMv l D cI cZ a shpC y_fill38 b_fill38 4 rm_fill38 [.ref (a 38), .int p1] V V' := by
  refine YMv_of (by decide) (Nat.le_of_ble_eq_true rfl) ?_
  intro C hl hDD hcI hcZ ha hC hE
  subst hl hDD hcI hcZ ha
  show Y C shpC 4 0 [(0, .ref (C.a 38)), (1, .int p1)] [] V
  rw [f_fill38] at h
  refine Y_iconst (pc := 0) hC d_fill38_0 ki_0 ?_
  refine Y_istore_n (pc := 1) hC (L' := [(2, .int 0), (0, .ref (C.a 38)), (1, .int p1)]) d_fill38_1 rfl (by decide) rfl ?_
  refine Y_aload_n (pc := 2) hC d_fill38_2 rfl 1 rfl ?_
  refine Y_alen (pc := 3) hC sc_38 rfl d_fill38_3 ?_
  refine Y_istore_n (pc := 4) hC (L' := [(3, .int (nI 200)), (2, .int 0), (0, .ref (C.a 38)), (1, .int p1)]) d_fill38_4 rfl (by decide) rfl ?_
  refine Y_sub (pc := 5) [2, 3, 1, 0] rfl ?_
  refine ylp_fill38_5 hC hE (fun V2 h => ?_) FU _ _ h
  exact Y_vret (pc := 20) hC hE d_fill38_20 h
set_option maxHeartbeats 4000000 in
set_option maxRecDepth 100000 in
theorem ylp_fill39_5 {C : YC} {r : Int32} {V' : Sto} {x1 : Int32} {x3 : Int32} {k20 : Sto → RT} (hC : YF C "java/util/Arrays" b_fill39 4 rm_fill39) (hE : YEv C shpC V') (hk20 : ∀ (V1 : Sto), k20 V1 = some (r, V') → Y C shpC 4 20 [] [] V1) : ∀ (n : Nat) (x2 : Int32) (V : Sto), lp_fill39_5 x1 x3 k20 n x2 V = some (r, V') → Y C shpC 4 5 [(0, .ref (C.a 39)), (1, .int x1), (2, .int x2), (3, .int x3)] [] V := by
  intro n
  induction n with
  | zero =>
    intro x2 V h
    rw [lp_fill39_5] at h
    cases h
  | succ n ih =>
    intro x2 V h
    rw [lp_fill39_5] at h
    refine Y_iload_n (pc := 5) hC d_fill39_5 rfl 2 rfl ?_
    refine Y_iload_n (pc := 6) hC d_fill39_6 rfl 3 rfl ?_
    refine Y_icmp_ge (pc := 7) hC 20 d_fill39_7 rfl (fun cc_7 => ?_) (fun cc_7 => ?_)
    · have h := ifp cc_7 h
      refine Y_sub (pc := 20) [] rfl ?_
      exact hk20 _ h
    · have h := ifn cc_7 h
      refine Y_aload_n (pc := 10) hC d_fill39_10 rfl 0 rfl ?_
      refine Y_iload_n (pc := 11) hC d_fill39_11 rfl 2 rfl ?_
      refine Y_iload_n (pc := 12) hC d_fill39_12 rfl 1 rfl ?_
      obtain ⟨hi, h⟩ := ck_some h
      obtain ⟨V1, hV1, h⟩ := nm_some h
      refine Y_iast (pc := 13) hC sc_39 (by decide) rfl hi rfl hV1 d_fill39_13 ?_
      refine Y_iinc (pc := 14) hC (v := x2 + 1) (L' := [(2, .int (x2 + 1)), (0, .ref (C.a 39)), (1, .int x1), (3, .int x3)]) d_fill39_14 2 rfl rfl (by decide) rfl ?_
      refine Y_goto (pc := 17) hC 5 d_fill39_17 rfl ?_
      refine Y_sub (pc := 5) [1, 2, 0, 3] rfl ?_
      exact ih _ _ h
set_option maxHeartbeats 4000000 in
set_option maxRecDepth 100000 in
theorem c_fill39 (l : Launch) (D : va_G) (cI cZ : ClassId) (a : Nat → Nat) {V : Sto} {p1 : Int32} {r : Int32} {V' : Sto} (h : f_fill39 V p1 = some (r, V')) : YMv l D cI cZ a shpC y_fill39 b_fill39 4 rm_fill39 [.ref (a 39), .int p1] V V' := by
  refine YMv_of (by decide) (Nat.le_of_ble_eq_true rfl) ?_
  intro C hl hDD hcI hcZ ha hC hE
  subst hl hDD hcI hcZ ha
  show Y C shpC 4 0 [(0, .ref (C.a 39)), (1, .int p1)] [] V
  rw [f_fill39] at h
  refine Y_iconst (pc := 0) hC d_fill39_0 ki_0 ?_
  refine Y_istore_n (pc := 1) hC (L' := [(2, .int 0), (0, .ref (C.a 39)), (1, .int p1)]) d_fill39_1 rfl (by decide) rfl ?_
  refine Y_aload_n (pc := 2) hC d_fill39_2 rfl 1 rfl ?_
  refine Y_alen (pc := 3) hC sc_39 rfl d_fill39_3 ?_
  refine Y_istore_n (pc := 4) hC (L' := [(3, .int (nI 200)), (2, .int 0), (0, .ref (C.a 39)), (1, .int p1)]) d_fill39_4 rfl (by decide) rfl ?_
  refine Y_sub (pc := 5) [2, 3, 1, 0] rfl ?_
  refine ylp_fill39_5 hC hE (fun V2 h => ?_) FU _ _ h
  exact Y_vret (pc := 20) hC hE d_fill39_20 h
set_option maxHeartbeats 4000000 in
set_option maxRecDepth 100000 in
theorem ylp_Na_settle_31 {C : YC} {r : Int32} {V' : Sto} {k84 : Sto → RT} (hC : YF C R_Na b_Na_settle 2 rm_Na_settle) (hE : YEv C shpC V') (hk84 : ∀ (V1 : Sto), k84 V1 = some (r, V') → Y C shpC 2 84 [(0, .ref (C.a 6))] [] V1) : ∀ (n : Nat) (x1 : Int32) (V : Sto), lp_Na_settle_31 k84 n x1 V = some (r, V') → Y C shpC 2 31 [(0, .ref (C.a 6)), (1, .int x1)] [] V := by
  intro n
  induction n with
  | zero =>
    intro x1 V h
    rw [lp_Na_settle_31] at h
    cases h
  | succ n ih =>
    intro x1 V h
    rw [lp_Na_settle_31] at h
    refine Y_iload_n (pc := 31) hC d_Na_settle_31 rfl 1 rfl ?_
    refine Y_aload_n (pc := 32) hC d_Na_settle_32 rfl 0 rfl ?_
    refine Y_getR (pc := 33) hC sc_6 fl_Na_34 rfl d_Na_settle_33 ?_
    refine Y_getI (pc := 36) hC sc_3 fl_Na_48 rfl d_Na_settle_36 ?_
    refine Y_icmp_ge (pc := 39) hC 84 d_Na_settle_39 rfl (fun cc_39 => ?_) (fun cc_39 => ?_)
    · have h := ifp cc_39 h
      refine Y_sub (pc := 84) [0] rfl ?_
      exact hk84 _ h
    · have h := ifn cc_39 h
      refine Y_aload_n (pc := 42) hC d_Na_settle_42 rfl 0 rfl ?_
      refine Y_getR (pc := 43) hC sc_6 fl_Na_30 rfl d_Na_settle_43 ?_
      refine Y_getR (pc := 46) hC sc_1 fl_Na_53 rfl d_Na_settle_46 ?_
      refine Y_aload_n (pc := 49) hC d_Na_settle_49 rfl 0 rfl ?_
      refine Y_getR (pc := 50) hC sc_6 fl_Na_34 rfl d_Na_settle_50 ?_
      refine Y_getR (pc := 53) hC sc_3 fl_Na_59 rfl d_Na_settle_53 ?_
      refine Y_iload_n (pc := 56) hC d_Na_settle_56 rfl 1 rfl ?_
      obtain ⟨hi, h⟩ := ck_some h
      refine Y_iald (pc := 57) hC sc_21 rfl hi d_Na_settle_57 ?_
      obtain ⟨hi, h⟩ := ck_some h
      refine Y_zald (pc := 58) hC sc_13 rfl hi d_Na_settle_58 ?_
      refine Y_if_eq (pc := 59) hC 78 d_Na_settle_59 rfl (fun cc_59 => ?_) (fun cc_59 => ?_)
      · have h := ifp cc_59 h
        refine Y_iinc (pc := 78) hC (v := x1 + 1) (L' := [(1, .int (x1 + 1)), (0, .ref (C.a 6))]) d_Na_settle_78 1 rfl rfl (by decide) rfl ?_
        refine Y_goto (pc := 81) hC 31 d_Na_settle_81 rfl ?_
        refine Y_sub (pc := 31) [1, 0] rfl ?_
        exact ih _ _ h
      · have h := ifn cc_59 h
        refine Y_aload_n (pc := 62) hC d_Na_settle_62 rfl 0 rfl ?_
        refine Y_getR (pc := 63) hC sc_6 fl_Na_34 rfl d_Na_settle_63 ?_
        refine Y_iload_n (pc := 66) hC d_Na_settle_66 rfl 1 rfl ?_
        obtain ⟨r4, V5, hc_r4, h⟩ := cl_some h
        refine Y_callV (pc := 67) hC (c_Sy_givesName C.l C.D C.cI C.cZ C.a hc_r4) sc_3 cls_Sy ml_Na_62 mv_Sy_givesName (by decide) (Nat.le_of_ble_eq_true rfl) rfl d_Na_settle_67 ?_
        refine Y_if_eq (pc := 70) hC 78 d_Na_settle_70 rfl (fun cc_70 => ?_) (fun cc_70 => ?_)
        · have h := ifp cc_70 h
          refine Y_iinc (pc := 78) hC (v := x1 + 1) (L' := [(1, .int (x1 + 1)), (0, .ref (C.a 6))]) d_Na_settle_78 1 rfl rfl (by decide) rfl ?_
          refine Y_goto (pc := 81) hC 31 d_Na_settle_81 rfl ?_
          refine Y_sub (pc := 31) [1, 0] rfl ?_
          exact ih _ _ h
        · have h := ifn cc_70 h
          refine Y_aload_n (pc := 73) hC d_Na_settle_73 rfl 0 rfl ?_
          refine Y_iload_n (pc := 74) hC d_Na_settle_74 rfl 1 rfl ?_
          obtain ⟨r5, V6, hc_r5, h⟩ := cl_some h
          refine Y_callVv (pc := 75) hC (c_Na_take C.l C.D C.cI C.cZ C.a hc_r5) sc_6 cls_Na ml_Na_66 mv_Na_take (by decide) (Nat.le_of_ble_eq_true rfl) rfl d_Na_settle_75 ?_
          refine Y_iinc (pc := 78) hC (v := x1 + 1) (L' := [(1, .int (x1 + 1)), (0, .ref (C.a 6))]) d_Na_settle_78 1 rfl rfl (by decide) rfl ?_
          refine Y_goto (pc := 81) hC 31 d_Na_settle_81 rfl ?_
          refine Y_sub (pc := 31) [1, 0] rfl ?_
          exact ih _ _ h
set_option maxHeartbeats 4000000 in
set_option maxRecDepth 100000 in
theorem ylp_Na_settle_86 {C : YC} {r : Int32} {V' : Sto} {k108 : Sto → RT} (hC : YF C R_Na b_Na_settle 2 rm_Na_settle) (hE : YEv C shpC V') (hk108 : ∀ (V1 : Sto), k108 V1 = some (r, V') → Y C shpC 2 108 [] [] V1) : ∀ (n : Nat) (x1 : Int32) (V : Sto), lp_Na_settle_86 k108 n x1 V = some (r, V') → Y C shpC 2 86 [(0, .ref (C.a 6)), (1, .int x1)] [] V := by
  intro n
  induction n with
  | zero =>
    intro x1 V h
    rw [lp_Na_settle_86] at h
    cases h
  | succ n ih =>
    intro x1 V h
    rw [lp_Na_settle_86] at h
    refine Y_iload_n (pc := 86) hC d_Na_settle_86 rfl 1 rfl ?_
    refine Y_aload_n (pc := 87) hC d_Na_settle_87 rfl 0 rfl ?_
    refine Y_getR (pc := 88) hC sc_6 fl_Na_34 rfl d_Na_settle_88 ?_
    refine Y_getI (pc := 91) hC sc_3 fl_Na_48 rfl d_Na_settle_91 ?_
    refine Y_icmp_ge (pc := 94) hC 108 d_Na_settle_94 rfl (fun cc_94 => ?_) (fun cc_94 => ?_)
    · have h := ifp cc_94 h
      refine Y_sub (pc := 108) [] rfl ?_
      exact hk108 _ h
    · have h := ifn cc_94 h
      refine Y_aload_n (pc := 97) hC d_Na_settle_97 rfl 0 rfl ?_
      refine Y_iload_n (pc := 98) hC d_Na_settle_98 rfl 1 rfl ?_
      obtain ⟨r6, V8, hc_r6, h⟩ := cl_some h
      refine Y_callVv (pc := 99) hC (c_Na_giveMeaning C.l C.D C.cI C.cZ C.a hc_r6) sc_6 cls_Na ml_Na_70 mv_Na_giveMeaning (by decide) (Nat.le_of_ble_eq_true rfl) rfl d_Na_settle_99 ?_
      refine Y_iinc (pc := 102) hC (v := x1 + 1) (L' := [(1, .int (x1 + 1)), (0, .ref (C.a 6))]) d_Na_settle_102 1 rfl rfl (by decide) rfl ?_
      refine Y_goto (pc := 105) hC 86 d_Na_settle_105 rfl ?_
      refine Y_sub (pc := 86) [1, 0] rfl ?_
      exact ih _ _ h
set_option maxHeartbeats 4000000 in
set_option maxRecDepth 100000 in
theorem c_Na_settle (l : Launch) (D : va_G) (cI cZ : ClassId) (a : Nat → Nat) {V : Sto} {r : Int32} {V' : Sto} (h : f_Na_settle V = some (r, V')) : YMv l D cI cZ a shpC y_Na_settle b_Na_settle 2 rm_Na_settle [.ref (a 6)] V V' := by
  refine YMv_of (by decide) (Nat.le_of_ble_eq_true rfl) ?_
  intro C hl hDD hcI hcZ ha hC hE
  subst hl hDD hcI hcZ ha
  show Y C shpC 2 0 [(0, .ref (C.a 6))] [] V
  rw [f_Na_settle] at h
  refine Y_aload_n (pc := 0) hC d_Na_settle_0 rfl 0 rfl ?_
  refine Y_getR (pc := 1) hC sc_6 fl_Na_9 rfl d_Na_settle_1 ?_
  refine Y_iconst (pc := 4) hC d_Na_settle_4 ki_m1 ?_
  obtain ⟨r1, V1, hc_r1, h⟩ := cl_some h
  refine Y_callSv (pc := 5) hC (c_fill37 C.l C.D C.cI C.cZ C.a hc_r1) ml_Na_38 ms_fill37 (by decide) (Nat.le_of_ble_eq_true rfl) rfl d_Na_settle_5 ?_
  refine Y_aload_n (pc := 8) hC d_Na_settle_8 rfl 0 rfl ?_
  refine Y_getR (pc := 9) hC sc_6 fl_Na_15 rfl d_Na_settle_9 ?_
  refine Y_iconst (pc := 12) hC d_Na_settle_12 ki_m1 ?_
  obtain ⟨r2, V2, hc_r2, h⟩ := cl_some h
  refine Y_callSv (pc := 13) hC (c_fill38 C.l C.D C.cI C.cZ C.a hc_r2) ml_Na_38 ms_fill38 (by decide) (Nat.le_of_ble_eq_true rfl) rfl d_Na_settle_13 ?_
  refine Y_aload_n (pc := 16) hC d_Na_settle_16 rfl 0 rfl ?_
  refine Y_getR (pc := 17) hC sc_6 fl_Na_18 rfl d_Na_settle_17 ?_
  refine Y_iconst (pc := 20) hC d_Na_settle_20 ki_0 ?_
  obtain ⟨r3, V3, hc_r3, h⟩ := cl_some h
  refine Y_callSv (pc := 21) hC (c_fill39 C.l C.D C.cI C.cZ C.a hc_r3) ml_Na_38 ms_fill39 (by decide) (Nat.le_of_ble_eq_true rfl) rfl d_Na_settle_21 ?_
  refine Y_aload_n (pc := 24) hC d_Na_settle_24 rfl 0 rfl ?_
  refine Y_iconst (pc := 25) hC d_Na_settle_25 ki_m1 ?_
  obtain ⟨V4, hV4, h⟩ := nm_some h
  refine Y_put (pc := 26) hC sc_6 fl_Na_44 rfl (by decide) fp_Na ft_Na_5 rfl rfl hV4 d_Na_settle_26 ?_
  refine Y_iconst (pc := 29) hC d_Na_settle_29 ki_0 ?_
  refine Y_istore_n (pc := 30) hC (L' := [(1, .int 0), (0, .ref (C.a 6))]) d_Na_settle_30 rfl (by decide) rfl ?_
  refine Y_sub (pc := 31) [1, 0] rfl ?_
  refine ylp_Na_settle_31 hC hE (fun V7 h => ?_) FU _ _ h
  refine Y_iconst (pc := 84) hC d_Na_settle_84 ki_0 ?_
  refine Y_istore_n (pc := 85) hC (L' := [(1, .int 0), (0, .ref (C.a 6))]) d_Na_settle_85 rfl (by decide) rfl ?_
  refine Y_sub (pc := 86) [1, 0] rfl ?_
  refine ylp_Na_settle_86 hC hE (fun V9 h => ?_) FU _ _ h
  exact Y_vret (pc := 108) hC hE d_Na_settle_108 h
set_option maxHeartbeats 4000000 in
set_option maxRecDepth 100000 in
theorem ylp_Rc_firstMissing_2 {C : YC} {r : Int32} {V' : Sto} {k60 : Int32 → Sto → RT} {k68 : Sto → RT} (hC : YF C R_Rc b_Rc_firstMissing 3 rm_Rc_firstMissing) (hE : YEi C .int shpC r V') (hk60 : ∀ (y2 : Int32) (V1 : Sto), k60 y2 V1 = some (r, V') → Y C shpC 3 60 [(2, .int y2)] [] V1) (hk68 : ∀ (V1 : Sto), k68 V1 = some (r, V') → Y C shpC 3 68 [] [] V1) : ∀ (n : Nat) (x1 : Int32) (V : Sto), lp_Rc_firstMissing_2 k60 k68 n x1 V = some (r, V') → Y C shpC 3 2 [(0, .ref (C.a 7)), (1, .int x1)] [] V := by
  intro n
  induction n with
  | zero =>
    intro x1 V h
    rw [lp_Rc_firstMissing_2] at h
    cases h
  | succ n ih =>
    intro x1 V h
    rw [lp_Rc_firstMissing_2] at h
    refine Y_iload_n (pc := 2) hC d_Rc_firstMissing_2 rfl 1 rfl ?_
    refine Y_aload_n (pc := 3) hC d_Rc_firstMissing_3 rfl 0 rfl ?_
    refine Y_getR (pc := 4) hC sc_7 fl_Rc_30 rfl d_Rc_firstMissing_4 ?_
    refine Y_getI (pc := 7) hC sc_4 fl_Rc_89 rfl d_Rc_firstMissing_7 ?_
    refine Y_icmp_ge (pc := 10) hC 68 d_Rc_firstMissing_10 rfl (fun cc_10 => ?_) (fun cc_10 => ?_)
    · have h := ifp cc_10 h
      refine Y_sub (pc := 68) [] rfl ?_
      exact hk68 _ h
    · have h := ifn cc_10 h
      refine Y_aload_n (pc := 13) hC d_Rc_firstMissing_13 rfl 0 rfl ?_
      refine Y_getR (pc := 14) hC sc_7 fl_Rc_30 rfl d_Rc_firstMissing_14 ?_
      refine Y_getR (pc := 17) hC sc_4 fl_Rc_90 rfl d_Rc_firstMissing_17 ?_
      refine Y_iload_n (pc := 20) hC d_Rc_firstMissing_20 rfl 1 rfl ?_
      obtain ⟨hi, h⟩ := ck_some h
      refine Y_iald (pc := 21) hC sc_32 rfl hi d_Rc_firstMissing_21 ?_
      refine Y_istore_n (pc := 22) hC (L' := [(2, .int (V 32 x1.toNatClampNeg)), (0, .ref (C.a 7)), (1, .int x1)]) d_Rc_firstMissing_22 rfl (by decide) rfl ?_
      refine Y_aload_n (pc := 23) hC d_Rc_firstMissing_23 rfl 1 rfl ?_
      refine Y_getR (pc := 24) hC sc_7 fl_Rc_9 rfl d_Rc_firstMissing_24 ?_
      refine Y_aload_n (pc := 27) hC d_Rc_firstMissing_27 rfl 1 rfl ?_
      refine Y_getR (pc := 28) hC sc_7 fl_Rc_30 rfl d_Rc_firstMissing_28 ?_
      refine Y_getR (pc := 31) hC sc_4 fl_Rc_93 rfl d_Rc_firstMissing_31 ?_
      refine Y_iload_n (pc := 34) hC d_Rc_firstMissing_34 rfl 0 rfl ?_
      obtain ⟨hi, h⟩ := ck_some h
      refine Y_iald (pc := 35) hC sc_27 rfl hi d_Rc_firstMissing_35 ?_
      obtain ⟨hi, h⟩ := ck_some h
      refine Y_zald (pc := 36) hC sc_43 rfl hi d_Rc_firstMissing_36 ?_
      refine Y_if_eq (pc := 37) hC 62 d_Rc_firstMissing_37 rfl (fun cc_37 => ?_) (fun cc_37 => ?_)
      · have h := ifp cc_37 h
        refine Y_iinc (pc := 62) hC (v := x1 + 1) (L' := [(1, .int (x1 + 1)), (2, .int (V 32 x1.toNatClampNeg)), (0, .ref (C.a 7))]) d_Rc_firstMissing_62 2 rfl rfl (by decide) rfl ?_
        refine Y_goto (pc := 65) hC 2 d_Rc_firstMissing_65 rfl ?_
        refine Y_sub (pc := 2) [2, 0] rfl ?_
        exact ih _ _ h
      · have h := ifn cc_37 h
        refine Y_aload_n (pc := 40) hC d_Rc_firstMissing_40 rfl 1 rfl ?_
        refine Y_getR (pc := 41) hC sc_7 fl_Rc_34 rfl d_Rc_firstMissing_41 ?_
        refine Y_getR (pc := 44) hC sc_6 fl_Rc_81 rfl d_Rc_firstMissing_44 ?_
        refine Y_aload_n (pc := 47) hC d_Rc_firstMissing_47 rfl 1 rfl ?_
        refine Y_getR (pc := 48) hC sc_7 fl_Rc_30 rfl d_Rc_firstMissing_48 ?_
        refine Y_getR (pc := 51) hC sc_4 fl_Rc_74 rfl d_Rc_firstMissing_51 ?_
        refine Y_iload_n (pc := 54) hC d_Rc_firstMissing_54 rfl 0 rfl ?_
        obtain ⟨hi, h⟩ := ck_some h
        refine Y_iald (pc := 55) hC sc_30 rfl hi d_Rc_firstMissing_55 ?_
        obtain ⟨hi, h⟩ := ck_some h
        refine Y_iald (pc := 56) hC sc_40 rfl hi d_Rc_firstMissing_56 ?_
        refine Y_if_ne (pc := 57) hC 62 d_Rc_firstMissing_57 rfl (fun cc_57 => ?_) (fun cc_57 => ?_)
        · have h := ifn cc_57 h
          refine Y_iinc (pc := 62) hC (v := x1 + 1) (L' := [(1, .int (x1 + 1)), (2, .int (V 32 x1.toNatClampNeg)), (0, .ref (C.a 7))]) d_Rc_firstMissing_62 2 rfl rfl (by decide) rfl ?_
          refine Y_goto (pc := 65) hC 2 d_Rc_firstMissing_65 rfl ?_
          refine Y_sub (pc := 2) [2, 0] rfl ?_
          exact ih _ _ h
        · have h := ifp cc_57 h
          refine Y_sub (pc := 60) [0] rfl ?_
          exact hk60 _ _ h
set_option maxHeartbeats 4000000 in
set_option maxRecDepth 100000 in
theorem c_Rc_firstMissing (l : Launch) (D : va_G) (cI cZ : ClassId) (a : Nat → Nat) {V : Sto} {r : Int32} {V' : Sto} (h : f_Rc_firstMissing V = some (r, V')) : YMi l D cI cZ a shpC y_Rc_firstMissing b_Rc_firstMissing 3 (some .int) rm_Rc_firstMissing [.ref (a 7)] V r V' := by
  refine YMi_of (by decide) (Nat.le_of_ble_eq_true rfl) ?_
  intro C hl hDD hcI hcZ ha hC hE
  subst hl hDD hcI hcZ ha
  show Y C shpC 3 0 [(0, .ref (C.a 7))] [] V
  rw [f_Rc_firstMissing] at h
  refine Y_iconst (pc := 0) hC d_Rc_firstMissing_0 ki_0 ?_
  refine Y_istore_n (pc := 1) hC (L' := [(1, .int 0), (0, .ref (C.a 7))]) d_Rc_firstMissing_1 rfl (by decide) rfl ?_
  refine Y_sub (pc := 2) [1, 0] rfl ?_
  refine ylp_Rc_firstMissing_2 hC hE (fun y1 V1 h => ?_) (fun V2 h => ?_) FU _ _ h
  · have h := h
    refine Y_iload_n (pc := 60) hC d_Rc_firstMissing_60 rfl 0 rfl ?_
    exact Y_iret (pc := 61) hC hE d_Rc_firstMissing_61 h
  · have h := h
    refine Y_iconst (pc := 68) hC d_Rc_firstMissing_68 ki_m1 ?_
    exact Y_iret (pc := 69) hC hE d_Rc_firstMissing_69 h
set_option maxHeartbeats 4000000 in
set_option maxRecDepth 100000 in
theorem c_Rc_find (l : Launch) (D : va_G) (cI cZ : ClassId) (a : Nat → Nat) {V : Sto} {p1 : Int32} {r : Int32} {V' : Sto} (h : f_Rc_find V p1 = some (r, V')) : YMv l D cI cZ a shpC y_Rc_find b_Rc_find 2 rm_Rc_find [.ref (a 7), .int p1] V V' := by
  refine YMv_of (by decide) (Nat.le_of_ble_eq_true rfl) ?_
  intro C hl hDD hcI hcZ ha hC hE
  subst hl hDD hcI hcZ ha
  show Y C shpC 2 0 [(0, .ref (C.a 7)), (1, .int p1)] [] V
  rw [f_Rc_find] at h
  refine Y_aload_n (pc := 0) hC d_Rc_find_0 rfl 0 rfl ?_
  refine Y_getR (pc := 1) hC sc_7 fl_Rc_9 rfl d_Rc_find_1 ?_
  refine Y_iload_n (pc := 4) hC d_Rc_find_4 rfl 1 rfl ?_
  obtain ⟨hi, h⟩ := ck_some h
  refine Y_zald (pc := 5) hC sc_43 rfl hi d_Rc_find_5 ?_
  refine Y_if_ne (pc := 6) hC 36 d_Rc_find_6 rfl (fun cc_6 => ?_) (fun cc_6 => ?_)
  · have h := ifn cc_6 h
    exact Y_vret (pc := 36) hC hE d_Rc_find_36 h
  · have h := ifp cc_6 h
    refine Y_aload_n (pc := 9) hC d_Rc_find_9 rfl 0 rfl ?_
    refine Y_getR (pc := 10) hC sc_7 fl_Rc_9 rfl d_Rc_find_10 ?_
    refine Y_iload_n (pc := 13) hC d_Rc_find_13 rfl 1 rfl ?_
    refine Y_iconst (pc := 14) hC d_Rc_find_14 ki_1 ?_
    obtain ⟨hi, h⟩ := ck_some h
    obtain ⟨V1, hV1, h⟩ := nm_some h
    refine Y_zast (pc := 15) hC sc_43 (by decide) rfl hi rfl hV1 d_Rc_find_15 ?_
    refine Y_aload_n (pc := 16) hC d_Rc_find_16 rfl 0 rfl ?_
    refine Y_getR (pc := 17) hC sc_7 fl_Rc_18 rfl d_Rc_find_17 ?_
    refine Y_aload_n (pc := 20) hC d_Rc_find_20 rfl 0 rfl ?_
    refine Y_getI (pc := 21) hC sc_7 fl_Rc_62 rfl d_Rc_find_21 ?_
    refine Y_iload_n (pc := 24) hC d_Rc_find_24 rfl 1 rfl ?_
    obtain ⟨hi, h⟩ := ck_some h
    obtain ⟨V2, hV2, h⟩ := nm_some h
    refine Y_iast (pc := 25) hC sc_45 (by decide) rfl hi rfl hV2 d_Rc_find_25 ?_
    refine Y_aload_n (pc := 26) hC d_Rc_find_26 rfl 0 rfl ?_
    refine Y_dup (pc := 27) hC d_Rc_find_27 rfl ?_
    refine Y_getI (pc := 28) hC sc_7 fl_Rc_62 rfl d_Rc_find_28 ?_
    refine Y_iconst (pc := 31) hC d_Rc_find_31 ki_1 ?_
    refine Y_iadd (pc := 32) hC d_Rc_find_32 ?_
    obtain ⟨V3, hV3, h⟩ := nm_some h
    refine Y_put (pc := 33) hC sc_7 fl_Rc_62 rfl (by decide) fp_Rc ft_Rc_6 rfl rfl hV3 d_Rc_find_33 ?_
    exact Y_vret (pc := 36) hC hE d_Rc_find_36 h
set_option maxHeartbeats 4000000 in
set_option maxRecDepth 100000 in
theorem ylp_Rc_forget_2 {C : YC} {r : Int32} {V' : Sto} {k21 : Sto → RT} (hC : YF C R_Rc b_Rc_forget 2 rm_Rc_forget) (hE : YEv C shpC V') (hk21 : ∀ (V1 : Sto), k21 V1 = some (r, V') → Y C shpC 2 21 [(0, .ref (C.a 7))] [] V1) : ∀ (n : Nat) (x1 : Int32) (V : Sto), lp_Rc_forget_2 k21 n x1 V = some (r, V') → Y C shpC 2 2 [(0, .ref (C.a 7)), (1, .int x1)] [] V := by
  intro n
  induction n with
  | zero =>
    intro x1 V h
    rw [lp_Rc_forget_2] at h
    cases h
  | succ n ih =>
    intro x1 V h
    rw [lp_Rc_forget_2] at h
    refine Y_iload_n (pc := 2) hC d_Rc_forget_2 rfl 1 rfl ?_
    refine Y_bipush (pc := 3) hC d_Rc_forget_3 kb_96 ?_
    refine Y_icmp_ge (pc := 5) hC 21 d_Rc_forget_5 rfl (fun cc_5 => ?_) (fun cc_5 => ?_)
    · have h := ifp cc_5 h
      refine Y_sub (pc := 21) [0] rfl ?_
      exact hk21 _ h
    · have h := ifn cc_5 h
      refine Y_aload_n (pc := 8) hC d_Rc_forget_8 rfl 0 rfl ?_
      refine Y_getR (pc := 9) hC sc_7 fl_Rc_9 rfl d_Rc_forget_9 ?_
      refine Y_iload_n (pc := 12) hC d_Rc_forget_12 rfl 1 rfl ?_
      refine Y_iconst (pc := 13) hC d_Rc_forget_13 ki_0 ?_
      obtain ⟨hi, h⟩ := ck_some h
      obtain ⟨V1, hV1, h⟩ := nm_some h
      refine Y_zast (pc := 14) hC sc_43 (by decide) rfl hi rfl hV1 d_Rc_forget_14 ?_
      refine Y_iinc (pc := 15) hC (v := x1 + 1) (L' := [(1, .int (x1 + 1)), (0, .ref (C.a 7))]) d_Rc_forget_15 1 rfl rfl (by decide) rfl ?_
      refine Y_goto (pc := 18) hC 2 d_Rc_forget_18 rfl ?_
      refine Y_sub (pc := 2) [1, 0] rfl ?_
      exact ih _ _ h
set_option maxHeartbeats 4000000 in
set_option maxRecDepth 100000 in
theorem ylp_Rc_forget_23 {C : YC} {r : Int32} {V' : Sto} {k43 : Sto → RT} (hC : YF C R_Rc b_Rc_forget 2 rm_Rc_forget) (hE : YEv C shpC V') (hk43 : ∀ (V1 : Sto), k43 V1 = some (r, V') → Y C shpC 2 43 [(0, .ref (C.a 7))] [] V1) : ∀ (n : Nat) (x1 : Int32) (V : Sto), lp_Rc_forget_23 k43 n x1 V = some (r, V') → Y C shpC 2 23 [(0, .ref (C.a 7)), (1, .int x1)] [] V := by
  intro n
  induction n with
  | zero =>
    intro x1 V h
    rw [lp_Rc_forget_23] at h
    cases h
  | succ n ih =>
    intro x1 V h
    rw [lp_Rc_forget_23] at h
    refine Y_iload_n (pc := 23) hC d_Rc_forget_23 rfl 1 rfl ?_
    refine Y_sipush (pc := 24) hC d_Rc_forget_24 ks_200 ?_
    refine Y_icmp_ge (pc := 27) hC 43 d_Rc_forget_27 rfl (fun cc_27 => ?_) (fun cc_27 => ?_)
    · have h := ifp cc_27 h
      refine Y_sub (pc := 43) [0] rfl ?_
      exact hk43 _ h
    · have h := ifn cc_27 h
      refine Y_aload_n (pc := 30) hC d_Rc_forget_30 rfl 0 rfl ?_
      refine Y_getR (pc := 31) hC sc_7 fl_Rc_15 rfl d_Rc_forget_31 ?_
      refine Y_iload_n (pc := 34) hC d_Rc_forget_34 rfl 1 rfl ?_
      refine Y_iconst (pc := 35) hC d_Rc_forget_35 ki_0 ?_
      obtain ⟨hi, h⟩ := ck_some h
      obtain ⟨V3, hV3, h⟩ := nm_some h
      refine Y_zast (pc := 36) hC sc_44 (by decide) rfl hi rfl hV3 d_Rc_forget_36 ?_
      refine Y_iinc (pc := 37) hC (v := x1 + 1) (L' := [(1, .int (x1 + 1)), (0, .ref (C.a 7))]) d_Rc_forget_37 1 rfl rfl (by decide) rfl ?_
      refine Y_goto (pc := 40) hC 23 d_Rc_forget_40 rfl ?_
      refine Y_sub (pc := 23) [1, 0] rfl ?_
      exact ih _ _ h
set_option maxHeartbeats 4000000 in
set_option maxRecDepth 100000 in
theorem c_Rc_forget (l : Launch) (D : va_G) (cI cZ : ClassId) (a : Nat → Nat) {V : Sto} {r : Int32} {V' : Sto} (h : f_Rc_forget V = some (r, V')) : YMv l D cI cZ a shpC y_Rc_forget b_Rc_forget 2 rm_Rc_forget [.ref (a 7)] V V' := by
  refine YMv_of (by decide) (Nat.le_of_ble_eq_true rfl) ?_
  intro C hl hDD hcI hcZ ha hC hE
  subst hl hDD hcI hcZ ha
  show Y C shpC 2 0 [(0, .ref (C.a 7))] [] V
  rw [f_Rc_forget] at h
  refine Y_iconst (pc := 0) hC d_Rc_forget_0 ki_0 ?_
  refine Y_istore_n (pc := 1) hC (L' := [(1, .int 0), (0, .ref (C.a 7))]) d_Rc_forget_1 rfl (by decide) rfl ?_
  refine Y_sub (pc := 2) [1, 0] rfl ?_
  refine ylp_Rc_forget_2 hC hE (fun V2 h => ?_) FU _ _ h
  refine Y_iconst (pc := 21) hC d_Rc_forget_21 ki_0 ?_
  refine Y_istore_n (pc := 22) hC (L' := [(1, .int 0), (0, .ref (C.a 7))]) d_Rc_forget_22 rfl (by decide) rfl ?_
  refine Y_sub (pc := 23) [1, 0] rfl ?_
  refine ylp_Rc_forget_23 hC hE (fun V4 h => ?_) FU _ _ h
  refine Y_aload_n (pc := 43) hC d_Rc_forget_43 rfl 0 rfl ?_
  refine Y_iconst (pc := 44) hC d_Rc_forget_44 ki_0 ?_
  obtain ⟨V5, hV5, h⟩ := nm_some h
  refine Y_put (pc := 45) hC sc_7 fl_Rc_62 rfl (by decide) fp_Rc ft_Rc_6 rfl rfl hV5 d_Rc_forget_45 ?_
  exact Y_vret (pc := 48) hC hE d_Rc_forget_48 h
set_option maxHeartbeats 4000000 in
set_option maxRecDepth 100000 in
theorem c_Re_countOf (l : Launch) (D : va_G) (cI cZ : ClassId) (a : Nat → Nat) {V : Sto} {p1 : Int32} {r : Int32} {V' : Sto} (h : f_Re_countOf V p1 = some (r, V')) : YMi l D cI cZ a shpC y_Re_countOf b_Re_countOf 2 (some .int) rm_Re_countOf [.ref (a 4), .int p1] V r V' := by
  refine YMi_of (by decide) (Nat.le_of_ble_eq_true rfl) ?_
  intro C hl hDD hcI hcZ ha hC hE
  subst hl hDD hcI hcZ ha
  show Y C shpC 2 0 [(0, .ref (C.a 4)), (1, .int p1)] [] V
  rw [f_Re_countOf] at h
  refine Y_aload_n (pc := 0) hC d_Re_countOf_0 rfl 0 rfl ?_
  refine Y_getR (pc := 1) hC sc_4 fl_Re_30 rfl d_Re_countOf_1 ?_
  refine Y_iload_n (pc := 4) hC d_Re_countOf_4 rfl 1 rfl ?_
  refine Y_iconst (pc := 5) hC d_Re_countOf_5 ki_1 ?_
  refine Y_iadd (pc := 6) hC d_Re_countOf_6 ?_
  obtain ⟨hi, h⟩ := ck_some h
  refine Y_iald (pc := 7) hC sc_33 rfl hi d_Re_countOf_7 ?_
  refine Y_aload_n (pc := 8) hC d_Re_countOf_8 rfl 0 rfl ?_
  refine Y_getR (pc := 9) hC sc_4 fl_Re_30 rfl d_Re_countOf_9 ?_
  refine Y_iload_n (pc := 12) hC d_Re_countOf_12 rfl 1 rfl ?_
  obtain ⟨hi, h⟩ := ck_some h
  refine Y_iald (pc := 13) hC sc_33 rfl hi d_Re_countOf_13 ?_
  refine Y_isub (pc := 14) hC d_Re_countOf_14 ?_
  exact Y_iret (pc := 15) hC hE d_Re_countOf_15 h
set_option maxHeartbeats 4000000 in
set_option maxRecDepth 100000 in
theorem c_Re_pick (l : Launch) (D : va_G) (cI cZ : ClassId) (a : Nat → Nat) {V : Sto} {p1 p2 : Int32} {r : Int32} {V' : Sto} (h : f_Re_pick V p1 p2 = some (r, V')) : YMi l D cI cZ a shpC y_Re_pick b_Re_pick 3 (some .int) rm_Re_pick [.ref (a 4), .int p1, .int p2] V r V' := by
  refine YMi_of (by decide) (Nat.le_of_ble_eq_true rfl) ?_
  intro C hl hDD hcI hcZ ha hC hE
  subst hl hDD hcI hcZ ha
  show Y C shpC 3 0 [(0, .ref (C.a 4)), (1, .int p1), (2, .int p2)] [] V
  rw [f_Re_pick] at h
  refine Y_aload_n (pc := 0) hC d_Re_pick_0 rfl 0 rfl ?_
  refine Y_getR (pc := 1) hC sc_4 fl_Re_27 rfl d_Re_pick_1 ?_
  refine Y_aload_n (pc := 4) hC d_Re_pick_4 rfl 0 rfl ?_
  refine Y_getR (pc := 5) hC sc_4 fl_Re_30 rfl d_Re_pick_5 ?_
  refine Y_iload_n (pc := 8) hC d_Re_pick_8 rfl 1 rfl ?_
  obtain ⟨hi, h⟩ := ck_some h
  refine Y_iald (pc := 9) hC sc_33 rfl hi d_Re_pick_9 ?_
  refine Y_iload_n (pc := 10) hC d_Re_pick_10 rfl 2 rfl ?_
  refine Y_iadd (pc := 11) hC d_Re_pick_11 ?_
  obtain ⟨hi, h⟩ := ck_some h
  refine Y_iald (pc := 12) hC sc_32 rfl hi d_Re_pick_12 ?_
  exact Y_iret (pc := 13) hC hE d_Re_pick_13 h
set_option maxHeartbeats 4000000 in
set_option maxRecDepth 100000 in
theorem ylp_Rc_spreadFrom_2 {C : YC} {r : Int32} {V' : Sto} {x1 : Int32} {k95 : Sto → RT} (hC : YF C R_Rc b_Rc_spreadFrom 4 rm_Rc_spreadFrom) (hE : YEv C shpC V') (hk95 : ∀ (V1 : Sto), k95 V1 = some (r, V') → Y C shpC 4 95 [] [] V1) : ∀ (n : Nat) (x2 : Int32) (V : Sto), lp_Rc_spreadFrom_2 x1 k95 n x2 V = some (r, V') → Y C shpC 4 2 [(0, .ref (C.a 7)), (1, .int x1), (2, .int x2)] [] V := by
  intro n
  induction n with
  | zero =>
    intro x2 V h
    rw [lp_Rc_spreadFrom_2] at h
    cases h
  | succ n ih =>
    intro x2 V h
    rw [lp_Rc_spreadFrom_2] at h
    refine Y_iload_n (pc := 2) hC d_Rc_spreadFrom_2 rfl 2 rfl ?_
    refine Y_aload_n (pc := 3) hC d_Rc_spreadFrom_3 rfl 0 rfl ?_
    refine Y_getR (pc := 4) hC sc_7 fl_Rc_30 rfl d_Rc_spreadFrom_4 ?_
    refine Y_iload_n (pc := 7) hC d_Rc_spreadFrom_7 rfl 1 rfl ?_
    obtain ⟨r1, V1, hc_r1, h⟩ := cl_some h
    refine Y_callV (pc := 8) hC (c_Re_countOf C.l C.D C.cI C.cZ C.a hc_r1) sc_4 cls_Re ml_Rc_68 mv_Re_countOf (by decide) (Nat.le_of_ble_eq_true rfl) rfl d_Rc_spreadFrom_8 ?_
    refine Y_icmp_ge (pc := 11) hC 95 d_Rc_spreadFrom_11 rfl (fun cc_11 => ?_) (fun cc_11 => ?_)
    · have h := ifp cc_11 h
      refine Y_sub (pc := 95) [] rfl ?_
      exact hk95 _ h
    · have h := ifn cc_11 h
      refine Y_aload_n (pc := 14) hC d_Rc_spreadFrom_14 rfl 0 rfl ?_
      refine Y_getR (pc := 15) hC sc_7 fl_Rc_30 rfl d_Rc_spreadFrom_15 ?_
      refine Y_getR (pc := 18) hC sc_4 fl_Rc_74 rfl d_Rc_spreadFrom_18 ?_
      refine Y_aload_n (pc := 21) hC d_Rc_spreadFrom_21 rfl 0 rfl ?_
      refine Y_getR (pc := 22) hC sc_7 fl_Rc_30 rfl d_Rc_spreadFrom_22 ?_
      refine Y_iload_n (pc := 25) hC d_Rc_spreadFrom_25 rfl 1 rfl ?_
      refine Y_iload_n (pc := 26) hC d_Rc_spreadFrom_26 rfl 2 rfl ?_
      obtain ⟨r2, V2, hc_r2, h⟩ := cl_some h
      refine Y_callV (pc := 27) hC (c_Re_pick C.l C.D C.cI C.cZ C.a hc_r2) sc_4 cls_Re ml_Rc_77 mv_Re_pick (by decide) (Nat.le_of_ble_eq_true rfl) rfl d_Rc_spreadFrom_27 ?_
      obtain ⟨hi, h⟩ := ck_some h
      refine Y_iald (pc := 30) hC sc_30 rfl hi d_Rc_spreadFrom_30 ?_
      refine Y_istore_n (pc := 31) hC (L' := [(3, .int (V2 30 r2.toNatClampNeg)), (0, .ref (C.a 7)), (1, .int x1), (2, .int x2)]) d_Rc_spreadFrom_31 rfl (by decide) rfl ?_
      refine Y_aload_n (pc := 32) hC d_Rc_spreadFrom_32 rfl 1 rfl ?_
      refine Y_getR (pc := 33) hC sc_7 fl_Rc_34 rfl d_Rc_spreadFrom_33 ?_
      refine Y_getR (pc := 36) hC sc_6 fl_Rc_81 rfl d_Rc_spreadFrom_36 ?_
      refine Y_iload_n (pc := 39) hC d_Rc_spreadFrom_39 rfl 0 rfl ?_
      obtain ⟨hi, h⟩ := ck_some h
      refine Y_iald (pc := 40) hC sc_40 rfl hi d_Rc_spreadFrom_40 ?_
      refine Y_iconst (pc := 41) hC d_Rc_spreadFrom_41 ki_1 ?_
      refine Y_icmp_ne (pc := 42) hC 61 d_Rc_spreadFrom_42 rfl (fun cc_42 => ?_) (fun cc_42 => ?_)
      · have h := ifn cc_42 h
        refine Y_aload_n (pc := 61) hC d_Rc_spreadFrom_61 rfl 1 rfl ?_
        refine Y_getR (pc := 62) hC sc_7 fl_Rc_34 rfl d_Rc_spreadFrom_62 ?_
        refine Y_getR (pc := 65) hC sc_6 fl_Rc_81 rfl d_Rc_spreadFrom_65 ?_
        refine Y_iload_n (pc := 68) hC d_Rc_spreadFrom_68 rfl 0 rfl ?_
        obtain ⟨hi, h⟩ := ck_some h
        refine Y_iald (pc := 69) hC sc_40 rfl hi d_Rc_spreadFrom_69 ?_
        refine Y_iconst (pc := 70) hC d_Rc_spreadFrom_70 ki_3 ?_
        refine Y_icmp_ne (pc := 71) hC 89 d_Rc_spreadFrom_71 rfl (fun cc_71 => ?_) (fun cc_71 => ?_)
        · have h := ifn cc_71 h
          refine Y_iinc (pc := 89) hC (v := x2 + 1) (L' := [(2, .int (x2 + 1)), (3, .int (V2 30 r2.toNatClampNeg)), (0, .ref (C.a 7)), (1, .int x1)]) d_Rc_spreadFrom_89 3 rfl rfl (by decide) rfl ?_
          refine Y_goto (pc := 92) hC 2 d_Rc_spreadFrom_92 rfl ?_
          refine Y_sub (pc := 2) [2, 3, 0] rfl ?_
          exact ih _ _ h
        · have h := ifp cc_71 h
          refine Y_aload_n (pc := 74) hC d_Rc_spreadFrom_74 rfl 1 rfl ?_
          refine Y_getR (pc := 75) hC sc_7 fl_Rc_15 rfl d_Rc_spreadFrom_75 ?_
          refine Y_aload_n (pc := 78) hC d_Rc_spreadFrom_78 rfl 1 rfl ?_
          refine Y_getR (pc := 79) hC sc_7 fl_Rc_34 rfl d_Rc_spreadFrom_79 ?_
          refine Y_getR (pc := 82) hC sc_6 fl_Rc_86 rfl d_Rc_spreadFrom_82 ?_
          refine Y_iload_n (pc := 85) hC d_Rc_spreadFrom_85 rfl 0 rfl ?_
          obtain ⟨hi, h⟩ := ck_some h
          refine Y_iald (pc := 86) hC sc_41 rfl hi d_Rc_spreadFrom_86 ?_
          refine Y_iconst (pc := 87) hC d_Rc_spreadFrom_87 ki_1 ?_
          obtain ⟨hi, h⟩ := ck_some h
          obtain ⟨V3, hV3, h⟩ := nm_some h
          refine Y_zast (pc := 88) hC sc_44 (by decide) rfl hi rfl hV3 d_Rc_spreadFrom_88 ?_
          refine Y_iinc (pc := 89) hC (v := x2 + 1) (L' := [(2, .int (x2 + 1)), (3, .int (V2 30 r2.toNatClampNeg)), (0, .ref (C.a 7)), (1, .int x1)]) d_Rc_spreadFrom_89 3 rfl rfl (by decide) rfl ?_
          refine Y_goto (pc := 92) hC 2 d_Rc_spreadFrom_92 rfl ?_
          refine Y_sub (pc := 2) [2, 3, 0] rfl ?_
          exact ih _ _ h
      · have h := ifp cc_42 h
        refine Y_aload_n (pc := 45) hC d_Rc_spreadFrom_45 rfl 1 rfl ?_
        refine Y_aload_n (pc := 46) hC d_Rc_spreadFrom_46 rfl 1 rfl ?_
        refine Y_getR (pc := 47) hC sc_7 fl_Rc_34 rfl d_Rc_spreadFrom_47 ?_
        refine Y_getR (pc := 50) hC sc_6 fl_Rc_86 rfl d_Rc_spreadFrom_50 ?_
        refine Y_iload_n (pc := 53) hC d_Rc_spreadFrom_53 rfl 0 rfl ?_
        obtain ⟨hi, h⟩ := ck_some h
        refine Y_iald (pc := 54) hC sc_41 rfl hi d_Rc_spreadFrom_54 ?_
        obtain ⟨r3, V4, hc_r3, h⟩ := cl_some h
        refine Y_callVv (pc := 55) hC (c_Rc_find C.l C.D C.cI C.cZ C.a hc_r3) sc_7 cls_Rc ml_Rc_41 mv_Rc_find (by decide) (Nat.le_of_ble_eq_true rfl) rfl d_Rc_spreadFrom_55 ?_
        refine Y_goto (pc := 58) hC 89 d_Rc_spreadFrom_58 rfl ?_
        refine Y_iinc (pc := 89) hC (v := x2 + 1) (L' := [(2, .int (x2 + 1)), (3, .int (V2 30 r2.toNatClampNeg)), (0, .ref (C.a 7)), (1, .int x1)]) d_Rc_spreadFrom_89 3 rfl rfl (by decide) rfl ?_
        refine Y_goto (pc := 92) hC 2 d_Rc_spreadFrom_92 rfl ?_
        refine Y_sub (pc := 2) [2, 3, 0] rfl ?_
        exact ih _ _ h
set_option maxHeartbeats 4000000 in
set_option maxRecDepth 100000 in
theorem c_Rc_spreadFrom (l : Launch) (D : va_G) (cI cZ : ClassId) (a : Nat → Nat) {V : Sto} {p1 : Int32} {r : Int32} {V' : Sto} (h : f_Rc_spreadFrom V p1 = some (r, V')) : YMv l D cI cZ a shpC y_Rc_spreadFrom b_Rc_spreadFrom 4 rm_Rc_spreadFrom [.ref (a 7), .int p1] V V' := by
  refine YMv_of (by decide) (Nat.le_of_ble_eq_true rfl) ?_
  intro C hl hDD hcI hcZ ha hC hE
  subst hl hDD hcI hcZ ha
  show Y C shpC 4 0 [(0, .ref (C.a 7)), (1, .int p1)] [] V
  rw [f_Rc_spreadFrom] at h
  refine Y_iconst (pc := 0) hC d_Rc_spreadFrom_0 ki_0 ?_
  refine Y_istore_n (pc := 1) hC (L' := [(2, .int 0), (0, .ref (C.a 7)), (1, .int p1)]) d_Rc_spreadFrom_1 rfl (by decide) rfl ?_
  refine Y_sub (pc := 2) [1, 2, 0] rfl ?_
  refine ylp_Rc_spreadFrom_2 hC hE (fun V5 h => ?_) FU _ _ h
  exact Y_vret (pc := 95) hC hE d_Rc_spreadFrom_95 h
end
section
def lp_Rc_spread_16 (k70 : Sto → RT) : Nat → Int32 → Sto → RT
  | 0, _, _ => none
  | n + 1, x2, V =>
    if (V 2 0) ≤ x2 then
      k70 V
    else
    ck (ib x2 96) <|
    if (V 20 x2.toNatClampNeg) = 0 then
      lp_Rc_spread_16 k70 n (x2 + 1) V
    else
    ck (ib x2 96) <|
    ck (ib (V 15 x2.toNatClampNeg) 24) <|
    if (V 13 (V 15 x2.toNatClampNeg).toNatClampNeg) = 0 then
      lp_Rc_spread_16 k70 n (x2 + 1) V
    else
    cl (f_Rc_find V x2) fun r3 V4 =>
    lp_Rc_spread_16 k70 n (x2 + 1) V4
def lp_Rc_spread_72 (k102 : Sto → RT) : Nat → Int32 → Sto → RT
  | 0, _, _ => none
  | n + 1, x2, V =>
    if (V 7 6) ≤ x2 then
      k102 V
    else
    if 96 ≤ x2 then
      k102 V
    else
    ck (ib x2 96) <|
    cl (f_Rc_spreadFrom V (V 45 x2.toNatClampNeg)) fun r4 V6 =>
    lp_Rc_spread_72 k102 n (x2 + 1) V6
def f_Rc_spread (V : Sto) (p1 : Int32) : RT :=
  cl (f_Rc_forget V) fun r1 V1 =>
  jn (fun (V3 : Sto) =>
      lp_Rc_spread_16
        (fun V5 =>
          lp_Rc_spread_72
            (fun V7 =>
              some (0, V7)) FU 0 V5) FU 0 V3) fun j1 =>
  if p1 = (-1) then
    j1 V1
  else
  cl (f_Rc_find V1 p1) fun r2 V2 =>
  j1 V2
def lp_fill33_5 (x1 : Int32) (x3 : Int32) (k20 : Sto → RT) : Nat → Int32 → Sto → RT
  | 0, _, _ => none
  | n + 1, x2, V =>
    if x3 ≤ x2 then
      k20 V
    else
    ck (ib x2 97) <| nm (sw V 33 x2.toNatClampNeg x1) fun V1 =>
    lp_fill33_5 x1 x3 k20 n (x2 + 1) V1
def f_fill33 (V : Sto) (p1 : Int32) : RT :=
  lp_fill33_5 p1 (nI 97)
    (fun V2 =>
      some (0, V2)) FU 0 V
def lp_Re_putInOrder_10 (k41 : Sto → RT) : Nat → Int32 → Sto → RT
  | 0, _, _ => none
  | n + 1, x2, V =>
    if (V 4 0) ≤ x2 then
      k41 V
    else
    ck (ib x2 600) <|
    ck (ib ((V 27 x2.toNatClampNeg) + 1) 97) <|
    ck (ib ((V 27 x2.toNatClampNeg) + 1) 97) <| nm (sw V 33 ((V 27 x2.toNatClampNeg) + 1).toNatClampNeg ((V 33 ((V 27 x2.toNatClampNeg) + 1).toNatClampNeg) + 1)) fun V2 =>
    lp_Re_putInOrder_10 k41 n (x2 + 1) V2
def lp_Re_putInOrder_43 (x1 : Int32) (k83 : Sto → RT) : Nat → Int32 → Sto → RT
  | 0, _, _ => none
  | n + 1, x2, V =>
    if x1 ≤ x2 then
      k83 V
    else
    ck (ib (x2 + 1) 97) <|
    ck (ib x2 97) <|
    ck (ib (x2 + 1) 97) <| nm (sw V 33 (x2 + 1).toNatClampNeg ((V 33 (x2 + 1).toNatClampNeg) + (V 33 x2.toNatClampNeg))) fun V4 =>
    ck (ib x2 97) <|
    ck (ib x2 96) <| nm (sw V4 34 x2.toNatClampNeg (V4 33 x2.toNatClampNeg)) fun V5 =>
    lp_Re_putInOrder_43 x1 k83 n (x2 + 1) V5
def lp_Re_putInOrder_85 (k128 : Sto → RT) : Nat → Int32 → Sto → RT
  | 0, _, _ => none
  | n + 1, x2, V =>
    if (V 4 0) ≤ x2 then
      k128 V
    else
    ck (ib x2 600) <|
    ck (ib (V 27 x2.toNatClampNeg) 96) <|
    ck (ib (V 34 (V 27 x2.toNatClampNeg).toNatClampNeg) 600) <| nm (sw V 32 (V 34 (V 27 x2.toNatClampNeg).toNatClampNeg).toNatClampNeg x2) fun V7 =>
    ck (ib (V 27 x2.toNatClampNeg) 96) <|
    ck (ib (V 27 x2.toNatClampNeg) 96) <| nm (sw V7 34 (V 27 x2.toNatClampNeg).toNatClampNeg ((V7 34 (V 27 x2.toNatClampNeg).toNatClampNeg) + 1)) fun V8 =>
    lp_Re_putInOrder_85 k128 n (x2 + 1) V8
def f_Re_putInOrder (V : Sto) (p1 : Int32) : RT :=
  cl (f_fill33 V 0) fun r1 V1 =>
  lp_Re_putInOrder_10
    (fun V3 =>
      lp_Re_putInOrder_43 p1
        (fun V6 =>
          lp_Re_putInOrder_85
            (fun V9 =>
              some (0, V9)) FU 0 V6) FU 0 V3) FU 0 V1
def f_Ly_fails (V : Sto) (p1 p2 p3 : Int32) : RT :=
  nm (sw V 0 15 p1) fun V1 =>
  nm (sw V1 0 16 p2) fun V2 =>
  nm (sw V2 0 17 p3) fun V3 =>
  some (0, V3)
def f_Ly_linksNames (V : Sto) : RT :=
  cl (f_Re_putInOrder V (V 2 0)) fun r1 V1 =>
  cl (f_Ar_bringIn V1 (V1 0 11) (V1 0 13)) fun r2 V2 =>
  cl (f_Na_settle V2) fun r3 V3 =>
  if (V3 6 5) = (-1) then
    if (V3 0 11) = (-1) then
      jn (fun (z1 : Int32) (V5 : Sto) =>
          cl (f_Rc_spread V5 z1) fun r5 V6 =>
          cl (f_Rc_firstMissing V6) fun r6 V7 =>
          if r6 = (-1) then
            some (1, V7)
          else
          ck (ib r6 600) <|
          ck (ib (V7 30 r6.toNatClampNeg) 400) <|
          cl (f_Ly_fails V7 2 (V7 22 (V7 30 r6.toNatClampNeg).toNatClampNeg) r6) fun r7 V8 =>
          ck (bb r7) <| some (r7, V8)) fun j1 =>
      if (V3 0 11) = (-1) then
        j1 (-1) V3
      else
      cl (f_Na_sectionOf V3 (V3 0 11)) fun r4 V4 =>
      j1 r4 V4
    else
    cl (f_Na_isDefined V3 (V3 0 11)) fun r8 V9 =>
    if r8 = 0 then
      cl (f_Ly_fails V9 2 (V9 0 11) (-1)) fun r13 V15 =>
      ck (bb r13) <| some (r13, V15)
    else
    jn (fun (z2 : Int32) (V11 : Sto) =>
        cl (f_Rc_spread V11 z2) fun r10 V12 =>
        cl (f_Rc_firstMissing V12) fun r11 V13 =>
        if r11 = (-1) then
          some (1, V13)
        else
        ck (ib r11 600) <|
        ck (ib (V13 30 r11.toNatClampNeg) 400) <|
        cl (f_Ly_fails V13 2 (V13 22 (V13 30 r11.toNatClampNeg).toNatClampNeg) r11) fun r12 V14 =>
        ck (bb r12) <| some (r12, V14)) fun j2 =>
    if (V9 0 11) = (-1) then
      j2 (-1) V9
    else
    cl (f_Na_sectionOf V9 (V9 0 11)) fun r9 V10 =>
    j2 r9 V10
  else
  cl (f_Ly_fails V3 1 (V3 6 5) (-1)) fun r14 V16 =>
  ck (bb r14) <| some (r14, V16)
def f_Fo_isSame (V : Sto) (p1 p2 : Int32) : RT :=
  ck (ib p1 600) <|
  ck (ib p2 600) <|
  ck (ib p1 600) <|
  ck (ib p2 600) <|
  if (V 28 p1.toNatClampNeg) = (V 28 p2.toNatClampNeg) then
    ck (ib p1 600) <|
    ck (ib p2 600) <|
    if (V 29 p1.toNatClampNeg) = (V 29 p2.toNatClampNeg) then
      ck (ib p1 600) <|
      ck (ib p2 600) <|
      if (V 31 p1.toNatClampNeg) = (V 31 p2.toNatClampNeg) then
        ck (ib (V 30 p1.toNatClampNeg) 400) <|
        ck (ib (V 30 p2.toNatClampNeg) 400) <|
        if (V 40 (V 30 p1.toNatClampNeg).toNatClampNeg) = (V 40 (V 30 p2.toNatClampNeg).toNatClampNeg) then
          ck (ib (V 30 p1.toNatClampNeg) 400) <|
          ck (ib (V 30 p2.toNatClampNeg) 400) <|
          if (V 42 (V 30 p1.toNatClampNeg).toNatClampNeg) = (V 42 (V 30 p2.toNatClampNeg).toNatClampNeg) then
            some (1, V)
          else
          some (0, V)
        else
        some (0, V)
      else
      some (0, V)
    else
    some (0, V)
  else
  some (0, V)
def lp_Fo_hasSameRelocations_23 (x1 : Int32) (x2 : Int32) (k60 : Sto → RT) (k68 : Sto → RT) : Nat → Int32 → Sto → RT
  | 0, _, _ => none
  | n + 1, x3, V =>
    cl (f_Re_countOf V x1) fun r3 V3 =>
    if r3 ≤ x3 then
      k68 V3
    else
    cl (f_Re_pick V3 x1 x3) fun r4 V4 =>
    cl (f_Re_pick V4 x2 x3) fun r5 V5 =>
    cl (f_Fo_isSame V5 r4 r5) fun r6 V6 =>
    if r6 = 0 then
      k60 V6
    else
    lp_Fo_hasSameRelocations_23 x1 x2 k60 k68 n (x3 + 1) V6
def f_Fo_hasSameRelocations (V : Sto) (p1 p2 : Int32) : RT :=
  cl (f_Re_countOf V p1) fun r1 V1 =>
  cl (f_Re_countOf V1 p2) fun r2 V2 =>
  if r1 = r2 then
    lp_Fo_hasSameRelocations_23 p1 p2
      (fun V7 =>
        some (0, V7))
      (fun V8 =>
        some (1, V8)) FU 0 V2
  else
  some (0, V2)
def f_Se_read (V : Sto) (p1 p2 : Int32) : RT :=
  ck (ib p1 96) <|
  ck (ib ((V 19 p1.toNatClampNeg) + (p2 / 4)) ((V 1000 14).toNatClampNeg)) <|
  some (V 14 ((V 19 p1.toNatClampNeg) + (p2 / 4)).toNatClampNeg, V)
def lp_Fo_hasSameWords_2 (x1 : Int32) (x2 : Int32) (k36 : Sto → RT) (k44 : Sto → RT) : Nat → Int32 → Sto → RT
  | 0, _, _ => none
  | n + 1, x3, V =>
    ck (ib x1 96) <|
    if (V 17 x1.toNatClampNeg) ≤ x3 then
      k44 V
    else
    cl (f_Se_read V x1 x3) fun r1 V1 =>
    cl (f_Se_read V1 x2 x3) fun r2 V2 =>
    if r1 = r2 then
      lp_Fo_hasSameWords_2 x1 x2 k36 k44 n (x3 + 4) V2
    else
    k36 V2
def f_Fo_hasSameWords (V : Sto) (p1 p2 : Int32) : RT :=
  lp_Fo_hasSameWords_2 p1 p2
    (fun V3 =>
      some (0, V3))
    (fun V4 =>
      some (1, V4)) FU 0 V
def f_Fo_looksSame (V : Sto) (p1 p2 : Int32) : RT :=
  ck (ib p1 96) <|
  ck (ib p2 96) <|
  if (V 17 p1.toNatClampNeg) = (V 17 p2.toNatClampNeg) then
    ck (ib p1 96) <|
    ck (ib p2 96) <|
    if (V 18 p1.toNatClampNeg) = (V 18 p2.toNatClampNeg) then
      cl (f_Fo_hasSameWords V p1 p2) fun r1 V1 =>
      if r1 = 0 then
        some (0, V1)
      else
      cl (f_Fo_hasSameRelocations V1 p1 p2) fun r2 V2 =>
      if r2 = 0 then
        some (0, V2)
      else
      some (1, V2)
    else
    some (0, V)
  else
  some (0, V)
end
section
theorem fl_Rc_26 : FL R_Rc 26 7 1 := ⟨R_Rc, F_Rc, N_Rc, rfl, by decide, i_Rc, (mw 376 (by decide +kernel))⟩
theorem fl_Rc_45 : FL R_Rc 45 2 0 := ⟨R_Se, F_Se, N_Se, rfl, by decide, i_Se, (mw 156 (by decide +kernel))⟩
theorem fl_Rc_51 : FL R_Rc 51 2 9 := ⟨R_Se, F_Se, N_Se, rfl, by decide, i_Se, (mw 180 (by decide +kernel))⟩
theorem fl_Rc_22 : FL R_Rc 22 7 0 := ⟨R_Rc, F_Rc, N_Rc, rfl, by decide, i_Rc, (mw 375 (by decide +kernel))⟩
theorem fl_Rc_54 : FL R_Rc 54 1 2 := ⟨R_Un, F_Un, N_Un, rfl, by decide, i_Un, (mw 135 (by decide +kernel))⟩
theorem fl_Rc_59 : FL R_Rc 59 2 4 := ⟨R_Se, F_Se, N_Se, rfl, by decide, i_Se, (mw 164 (by decide +kernel))⟩
theorem ml_Rc_65 : MLb R_Rc 65 y_Rc_spreadFrom b_Rc_spreadFrom 4 (none) 1 := ⟨(mw 1245 (by decide +kernel)), (mw 1242 (by decide +kernel)), (mw 90 (by decide +kernel)), by decide +kernel⟩
theorem mv_Rc_spreadFrom : MLv y_Rc_spreadFrom := ⟨(mw 1244 (by decide +kernel)), (mw 21 (by decide +kernel))⟩
theorem ml_Rc_38 : MLb R_Rc 38 y_Rc_forget b_Rc_forget 2 (none) 0 := ⟨(mw 1237 (by decide +kernel)), (mw 1234 (by decide +kernel)), (mw 90 (by decide +kernel)), by decide +kernel⟩
theorem mv_Rc_forget : MLv y_Rc_forget := ⟨(mw 1236 (by decide +kernel)), (mw 19 (by decide +kernel))⟩
theorem fl_Re_36 : FL R_Re 36 4 0 := ⟨R_Re, F_Re, N_Re, rfl, by decide, i_Re, (mw 252 (by decide +kernel))⟩
theorem fl_Re_9 : FL R_Re 9 4 1 := ⟨R_Re, F_Re, N_Re, rfl, by decide, i_Re, (mw 257 (by decide +kernel))⟩
theorem fl_Re_33 : FL R_Re 33 4 8 := ⟨R_Re, F_Re, N_Re, rfl, by decide, i_Re, (mw 282 (by decide +kernel))⟩
theorem ml_Re_40 : MLb R_Re 40 y_fill33 b_fill33 4 (none) 2 := ⟨(mw 1142 (by decide +kernel)), (mw 1140 (by decide +kernel)), (mw 103 (by decide +kernel)), by decide +kernel⟩
theorem ms_fill33 : Cond.static y_fill33 ∈ ALLW := (mw 1141 (by decide +kernel))
theorem fl_Ly_145 : FL R_Ly 145 2 0 := ⟨R_Se, F_Se, N_Se, rfl, by decide, i_Se, (mw 157 (by decide +kernel))⟩
theorem ml_Ly_328 : MLb R_Ly 328 y_Re_putInOrder b_Re_putInOrder 4 (none) 1 := ⟨(mw 1139 (by decide +kernel)), (mw 1136 (by decide +kernel)), (mw 87 (by decide +kernel)), by decide +kernel⟩
theorem mv_Re_putInOrder : MLv y_Re_putInOrder := ⟨(mw 1137 (by decide +kernel)), (mw 1138 (by decide +kernel))⟩
theorem fl_Ly_42 : FL R_Ly 42 0 4 := ⟨R_Ly, F_Ly, N_Ly, rfl, by decide, i_Ly, (mw 543 (by decide +kernel))⟩
theorem ml_Ly_331 : MLb R_Ly 331 y_Ar_bringIn b_Ar_bringIn 5 (none) 2 := ⟨(mw 1146 (by decide +kernel)), (mw 1143 (by decide +kernel)), (mw 88 (by decide +kernel)), by decide +kernel⟩
theorem mv_Ar_bringIn : MLv y_Ar_bringIn := ⟨(mw 1144 (by decide +kernel)), (mw 1145 (by decide +kernel))⟩
theorem fl_Ly_49 : FL R_Ly 49 0 5 := ⟨R_Ly, F_Ly, N_Ly, rfl, by decide, i_Ly, (mw 544 (by decide +kernel))⟩
theorem ml_Ly_335 : MLb R_Ly 335 y_Na_settle b_Na_settle 2 (none) 0 := ⟨(mw 1182 (by decide +kernel)), (mw 1179 (by decide +kernel)), (mw 89 (by decide +kernel)), by decide +kernel⟩
theorem mv_Na_settle : MLv y_Na_settle := ⟨(mw 1180 (by decide +kernel)), (mw 1181 (by decide +kernel))⟩
theorem fl_Ly_338 : FL R_Ly 338 6 5 := ⟨R_Na, F_Na, N_Na, rfl, by decide, i_Na, (mw 334 (by decide +kernel))⟩
theorem fl_Ly_58 : FL R_Ly 58 0 6 := ⟨R_Ly, F_Ly, N_Ly, rfl, by decide, i_Ly, (mw 545 (by decide +kernel))⟩
theorem ml_Ly_350 : MLb R_Ly 350 y_Rc_spread b_Rc_spread 3 (none) 1 := ⟨(mw 1233 (by decide +kernel)), (mw 1230 (by decide +kernel)), (mw 90 (by decide +kernel)), by decide +kernel⟩
theorem mv_Rc_spread : MLv y_Rc_spread := ⟨(mw 1231 (by decide +kernel)), (mw 1232 (by decide +kernel))⟩
theorem ml_Ly_353 : MLb R_Ly 353 y_Rc_firstMissing b_Rc_firstMissing 3 (some .int) 0 := ⟨(mw 1257 (by decide +kernel)), (mw 1254 (by decide +kernel)), (mw 90 (by decide +kernel)), by decide +kernel⟩
theorem mv_Rc_firstMissing : MLv y_Rc_firstMissing := ⟨(mw 1255 (by decide +kernel)), (mw 1256 (by decide +kernel))⟩
theorem fl_Ly_356 : FL R_Ly 356 3 2 := ⟨R_Sy, F_Sy, N_Sy, rfl, by decide, i_Sy, (mw 221 (by decide +kernel))⟩
theorem fl_Ly_359 : FL R_Ly 359 4 4 := ⟨R_Re, F_Re, N_Re, rfl, by decide, i_Re, (mw 273 (by decide +kernel))⟩
theorem ml_Ly_341 : MLb R_Ly 341 y_Ly_fails b_Ly_fails 4 (some .boolean) 3 := ⟨(mw 1221 (by decide +kernel)), (mw 1218 (by decide +kernel)), (mw 83 (by decide +kernel)), by decide +kernel⟩
theorem mv_Ly_fails : MLv y_Ly_fails := ⟨(mw 1220 (by decide +kernel)), (mw 18 (by decide +kernel))⟩
theorem ml_Ly_347 : MLb R_Ly 347 y_Na_sectionOf b_Na_sectionOf 3 (some .int) 1 := ⟨(mw 1229 (by decide +kernel)), (mw 1226 (by decide +kernel)), (mw 89 (by decide +kernel)), by decide +kernel⟩
theorem mv_Na_sectionOf : MLv y_Na_sectionOf := ⟨(mw 1227 (by decide +kernel)), (mw 1228 (by decide +kernel))⟩
theorem ml_Ly_344 : MLb R_Ly 344 y_Na_isDefined b_Na_isDefined 2 (some .boolean) 1 := ⟨(mw 1225 (by decide +kernel)), (mw 1222 (by decide +kernel)), (mw 89 (by decide +kernel)), by decide +kernel⟩
theorem mv_Na_isDefined : MLv y_Na_isDefined := ⟨(mw 1223 (by decide +kernel)), (mw 1224 (by decide +kernel))⟩
theorem fl_Fo_22 : FL R_Fo 22 8 1 := ⟨R_Fo, F_Fo, N_Fo, rfl, by decide, i_Fo, (mw 412 (by decide +kernel))⟩
theorem fl_Fo_98 : FL R_Fo 98 4 4 := ⟨R_Re, F_Re, N_Re, rfl, by decide, i_Re, (mw 272 (by decide +kernel))⟩
theorem fl_Fo_101 : FL R_Fo 101 4 2 := ⟨R_Re, F_Re, N_Re, rfl, by decide, i_Re, (mw 264 (by decide +kernel))⟩
theorem fl_Fo_104 : FL R_Fo 104 4 3 := ⟨R_Re, F_Re, N_Re, rfl, by decide, i_Re, (mw 268 (by decide +kernel))⟩
theorem fl_Fo_107 : FL R_Fo 107 4 5 := ⟨R_Re, F_Re, N_Re, rfl, by decide, i_Re, (mw 276 (by decide +kernel))⟩
theorem fl_Fo_26 : FL R_Fo 26 8 2 := ⟨R_Fo, F_Fo, N_Fo, rfl, by decide, i_Fo, (mw 413 (by decide +kernel))⟩
theorem fl_Fo_110 : FL R_Fo 110 6 6 := ⟨R_Na, F_Na, N_Na, rfl, by decide, i_Na, (mw 339 (by decide +kernel))⟩
theorem fl_Fo_115 : FL R_Fo 115 6 8 := ⟨R_Na, F_Na, N_Na, rfl, by decide, i_Na, (mw 349 (by decide +kernel))⟩
theorem ml_Fo_87 : MLb R_Fo 87 y_Re_countOf b_Re_countOf 2 (some .int) 1 := ⟨(mw 1249 (by decide +kernel)), (mw 1290 (by decide +kernel)), (mw 87 (by decide +kernel)), by decide +kernel⟩
theorem ml_Fo_92 : MLb R_Fo 92 y_Re_pick b_Re_pick 3 (some .int) 2 := ⟨(mw 1253 (by decide +kernel)), (mw 1291 (by decide +kernel)), (mw 87 (by decide +kernel)), by decide +kernel⟩
theorem ml_Fo_95 : MLb R_Fo 95 y_Fo_isSame b_Fo_isSame 5 (some .boolean) 2 := ⟨(mw 1295 (by decide +kernel)), (mw 1292 (by decide +kernel)), (mw 91 (by decide +kernel)), by decide +kernel⟩
theorem mv_Fo_isSame : MLv y_Fo_isSame := ⟨(mw 1294 (by decide +kernel)), (mw 28 (by decide +kernel))⟩
theorem fl_Se_9 : FL R_Se 9 2 3 := ⟨R_Se, F_Se, N_Se, rfl, by decide, i_Se, (mw 162 (by decide +kernel))⟩
theorem fl_Se_27 : FL R_Se 27 2 8 := ⟨R_Se, F_Se, N_Se, rfl, by decide, i_Se, (mw 178 (by decide +kernel))⟩
theorem fl_Fo_18 : FL R_Fo 18 8 0 := ⟨R_Fo, F_Fo, N_Fo, rfl, by decide, i_Fo, (mw 411 (by decide +kernel))⟩
theorem fl_Fo_71 : FL R_Fo 71 2 6 := ⟨R_Se, F_Se, N_Se, rfl, by decide, i_Se, (mw 174 (by decide +kernel))⟩
theorem ml_Fo_83 : MLb R_Fo 83 y_Se_read b_Se_read 3 (some .int) 2 := ⟨(mw 1285 (by decide +kernel)), (mw 1282 (by decide +kernel)), (mw 85 (by decide +kernel)), by decide +kernel⟩
theorem mv_Se_read : MLv y_Se_read := ⟨(mw 1283 (by decide +kernel)), (mw 1284 (by decide +kernel))⟩
theorem fl_Fo_74 : FL R_Fo 74 2 7 := ⟨R_Se, F_Se, N_Se, rfl, by decide, i_Se, (mw 177 (by decide +kernel))⟩
theorem ml_Fo_77 : MLb R_Fo 77 y_Fo_hasSameWords b_Fo_hasSameWords 4 (some .boolean) 2 := ⟨(mw 1281 (by decide +kernel)), (mw 1278 (by decide +kernel)), (mw 91 (by decide +kernel)), by decide +kernel⟩
theorem mv_Fo_hasSameWords : MLv y_Fo_hasSameWords := ⟨(mw 1280 (by decide +kernel)), (mw 26 (by decide +kernel))⟩
theorem ml_Fo_80 : MLb R_Fo 80 y_Fo_hasSameRelocations b_Fo_hasSameRelocations 4 (some .boolean) 2 := ⟨(mw 1289 (by decide +kernel)), (mw 1286 (by decide +kernel)), (mw 91 (by decide +kernel)), by decide +kernel⟩
theorem mv_Fo_hasSameRelocations : MLv y_Fo_hasSameRelocations := ⟨(mw 1288 (by decide +kernel)), (mw 27 (by decide +kernel))⟩
theorem d_Rc_spread_0 : decode b_Rc_spread 0 = .ok (.aload_n 0, 1) := by decide +kernel
theorem d_Rc_spread_1 : decode b_Rc_spread 1 = .ok (.invokevirtual 38, 3) := by decide +kernel
theorem d_Rc_spread_4 : decode b_Rc_spread 4 = .ok (.iload_n 1, 1) := by decide +kernel
theorem d_Rc_spread_5 : decode b_Rc_spread 5 = .ok (.iconst (-1), 1) := by decide +kernel
theorem d_Rc_spread_6 : decode b_Rc_spread 6 = .ok (.if_icmp .eq 8, 3) := by decide +kernel
theorem d_Rc_spread_9 : decode b_Rc_spread 9 = .ok (.aload_n 0, 1) := by decide +kernel
theorem d_Rc_spread_10 : decode b_Rc_spread 10 = .ok (.iload_n 1, 1) := by decide +kernel
theorem d_Rc_spread_11 : decode b_Rc_spread 11 = .ok (.invokevirtual 41, 3) := by decide +kernel
theorem d_Rc_spread_14 : decode b_Rc_spread 14 = .ok (.iconst 0, 1) := by decide +kernel
theorem d_Rc_spread_15 : decode b_Rc_spread 15 = .ok (.istore_n 2, 1) := by decide +kernel
theorem d_Rc_spread_16 : decode b_Rc_spread 16 = .ok (.iload_n 2, 1) := by decide +kernel
theorem d_Rc_spread_17 : decode b_Rc_spread 17 = .ok (.aload_n 0, 1) := by decide +kernel
theorem d_Rc_spread_18 : decode b_Rc_spread 18 = .ok (.getfield 26, 3) := by decide +kernel
theorem d_Rc_spread_21 : decode b_Rc_spread 21 = .ok (.getfield 45, 3) := by decide +kernel
theorem d_Rc_spread_24 : decode b_Rc_spread 24 = .ok (.if_icmp .ge 46, 3) := by decide +kernel
theorem d_Rc_spread_27 : decode b_Rc_spread 27 = .ok (.aload_n 0, 1) := by decide +kernel
theorem d_Rc_spread_28 : decode b_Rc_spread 28 = .ok (.getfield 26, 3) := by decide +kernel
theorem d_Rc_spread_31 : decode b_Rc_spread 31 = .ok (.getfield 51, 3) := by decide +kernel
theorem d_Rc_spread_34 : decode b_Rc_spread 34 = .ok (.iload_n 2, 1) := by decide +kernel
theorem d_Rc_spread_35 : decode b_Rc_spread 35 = .ok (.baload, 1) := by decide +kernel
theorem d_Rc_spread_36 : decode b_Rc_spread 36 = .ok (.ifCond .eq 28, 3) := by decide +kernel
theorem d_Rc_spread_39 : decode b_Rc_spread 39 = .ok (.aload_n 0, 1) := by decide +kernel
theorem d_Rc_spread_40 : decode b_Rc_spread 40 = .ok (.getfield 22, 3) := by decide +kernel
theorem d_Rc_spread_43 : decode b_Rc_spread 43 = .ok (.getfield 54, 3) := by decide +kernel
theorem d_Rc_spread_46 : decode b_Rc_spread 46 = .ok (.aload_n 0, 1) := by decide +kernel
theorem d_Rc_spread_47 : decode b_Rc_spread 47 = .ok (.getfield 26, 3) := by decide +kernel
theorem d_Rc_spread_50 : decode b_Rc_spread 50 = .ok (.getfield 59, 3) := by decide +kernel
theorem d_Rc_spread_53 : decode b_Rc_spread 53 = .ok (.iload_n 2, 1) := by decide +kernel
theorem d_Rc_spread_54 : decode b_Rc_spread 54 = .ok (.iaload, 1) := by decide +kernel
theorem d_Rc_spread_55 : decode b_Rc_spread 55 = .ok (.baload, 1) := by decide +kernel
theorem d_Rc_spread_56 : decode b_Rc_spread 56 = .ok (.ifCond .eq 8, 3) := by decide +kernel
theorem d_Rc_spread_59 : decode b_Rc_spread 59 = .ok (.aload_n 0, 1) := by decide +kernel
theorem d_Rc_spread_60 : decode b_Rc_spread 60 = .ok (.iload_n 2, 1) := by decide +kernel
theorem d_Rc_spread_61 : decode b_Rc_spread 61 = .ok (.invokevirtual 41, 3) := by decide +kernel
theorem d_Rc_spread_64 : decode b_Rc_spread 64 = .ok (.iinc 2 1, 3) := by decide +kernel
theorem d_Rc_spread_67 : decode b_Rc_spread 67 = .ok (.goto (-51), 3) := by decide +kernel
theorem d_Rc_spread_70 : decode b_Rc_spread 70 = .ok (.iconst 0, 1) := by decide +kernel
theorem d_Rc_spread_71 : decode b_Rc_spread 71 = .ok (.istore_n 2, 1) := by decide +kernel
theorem d_Rc_spread_72 : decode b_Rc_spread 72 = .ok (.iload_n 2, 1) := by decide +kernel
theorem d_Rc_spread_73 : decode b_Rc_spread 73 = .ok (.aload_n 0, 1) := by decide +kernel
theorem d_Rc_spread_74 : decode b_Rc_spread 74 = .ok (.getfield 62, 3) := by decide +kernel
theorem d_Rc_spread_77 : decode b_Rc_spread 77 = .ok (.if_icmp .ge 25, 3) := by decide +kernel
theorem d_Rc_spread_80 : decode b_Rc_spread 80 = .ok (.iload_n 2, 1) := by decide +kernel
theorem d_Rc_spread_81 : decode b_Rc_spread 81 = .ok (.bipush 96, 2) := by decide +kernel
theorem d_Rc_spread_83 : decode b_Rc_spread 83 = .ok (.if_icmp .ge 19, 3) := by decide +kernel
theorem d_Rc_spread_86 : decode b_Rc_spread 86 = .ok (.aload_n 0, 1) := by decide +kernel
theorem d_Rc_spread_87 : decode b_Rc_spread 87 = .ok (.aload_n 0, 1) := by decide +kernel
theorem d_Rc_spread_88 : decode b_Rc_spread 88 = .ok (.getfield 18, 3) := by decide +kernel
theorem d_Rc_spread_91 : decode b_Rc_spread 91 = .ok (.iload_n 2, 1) := by decide +kernel
theorem d_Rc_spread_92 : decode b_Rc_spread 92 = .ok (.iaload, 1) := by decide +kernel
theorem d_Rc_spread_93 : decode b_Rc_spread 93 = .ok (.invokevirtual 65, 3) := by decide +kernel
theorem d_Rc_spread_96 : decode b_Rc_spread 96 = .ok (.iinc 2 1, 3) := by decide +kernel
theorem d_Rc_spread_99 : decode b_Rc_spread 99 = .ok (.goto (-27), 3) := by decide +kernel
theorem d_Rc_spread_102 : decode b_Rc_spread 102 = .ok (.return_, 1) := by decide +kernel
theorem d_fill33_0 : decode b_fill33 0 = .ok (.iconst 0, 1) := by decide +kernel
theorem d_fill33_1 : decode b_fill33 1 = .ok (.istore_n 2, 1) := by decide +kernel
theorem d_fill33_2 : decode b_fill33 2 = .ok (.aload_n 0, 1) := by decide +kernel
theorem d_fill33_3 : decode b_fill33 3 = .ok (.arraylength, 1) := by decide +kernel
theorem d_fill33_4 : decode b_fill33 4 = .ok (.istore_n 3, 1) := by decide +kernel
theorem d_fill33_5 : decode b_fill33 5 = .ok (.iload_n 2, 1) := by decide +kernel
theorem d_fill33_6 : decode b_fill33 6 = .ok (.iload_n 3, 1) := by decide +kernel
theorem d_fill33_7 : decode b_fill33 7 = .ok (.if_icmp .ge 13, 3) := by decide +kernel
theorem d_fill33_10 : decode b_fill33 10 = .ok (.aload_n 0, 1) := by decide +kernel
theorem d_fill33_11 : decode b_fill33 11 = .ok (.iload_n 2, 1) := by decide +kernel
theorem d_fill33_12 : decode b_fill33 12 = .ok (.iload_n 1, 1) := by decide +kernel
theorem d_fill33_13 : decode b_fill33 13 = .ok (.iastore, 1) := by decide +kernel
theorem d_fill33_14 : decode b_fill33 14 = .ok (.iinc 2 1, 3) := by decide +kernel
theorem d_fill33_17 : decode b_fill33 17 = .ok (.goto (-12), 3) := by decide +kernel
theorem d_fill33_20 : decode b_fill33 20 = .ok (.return_, 1) := by decide +kernel
theorem d_Re_putInOrder_0 : decode b_Re_putInOrder 0 = .ok (.aload_n 0, 1) := by decide +kernel
theorem d_Re_putInOrder_1 : decode b_Re_putInOrder 1 = .ok (.getfield 30, 3) := by decide +kernel
theorem d_Re_putInOrder_4 : decode b_Re_putInOrder 4 = .ok (.iconst 0, 1) := by decide +kernel
theorem d_Re_putInOrder_5 : decode b_Re_putInOrder 5 = .ok (.invokestatic 40, 3) := by decide +kernel
theorem d_Re_putInOrder_8 : decode b_Re_putInOrder 8 = .ok (.iconst 0, 1) := by decide +kernel
theorem d_Re_putInOrder_9 : decode b_Re_putInOrder 9 = .ok (.istore_n 2, 1) := by decide +kernel
theorem d_Re_putInOrder_10 : decode b_Re_putInOrder 10 = .ok (.iload_n 2, 1) := by decide +kernel
theorem d_Re_putInOrder_11 : decode b_Re_putInOrder 11 = .ok (.aload_n 0, 1) := by decide +kernel
theorem d_Re_putInOrder_12 : decode b_Re_putInOrder 12 = .ok (.getfield 36, 3) := by decide +kernel
theorem d_Re_putInOrder_15 : decode b_Re_putInOrder 15 = .ok (.if_icmp .ge 26, 3) := by decide +kernel
theorem d_Re_putInOrder_18 : decode b_Re_putInOrder 18 = .ok (.aload_n 0, 1) := by decide +kernel
theorem d_Re_putInOrder_19 : decode b_Re_putInOrder 19 = .ok (.getfield 30, 3) := by decide +kernel
theorem d_Re_putInOrder_22 : decode b_Re_putInOrder 22 = .ok (.aload_n 0, 1) := by decide +kernel
theorem d_Re_putInOrder_23 : decode b_Re_putInOrder 23 = .ok (.getfield 9, 3) := by decide +kernel
theorem d_Re_putInOrder_26 : decode b_Re_putInOrder 26 = .ok (.iload_n 2, 1) := by decide +kernel
theorem d_Re_putInOrder_27 : decode b_Re_putInOrder 27 = .ok (.iaload, 1) := by decide +kernel
theorem d_Re_putInOrder_28 : decode b_Re_putInOrder 28 = .ok (.iconst 1, 1) := by decide +kernel
theorem d_Re_putInOrder_29 : decode b_Re_putInOrder 29 = .ok (.iadd, 1) := by decide +kernel
theorem d_Re_putInOrder_30 : decode b_Re_putInOrder 30 = .ok (.dup2, 1) := by decide +kernel
theorem d_Re_putInOrder_31 : decode b_Re_putInOrder 31 = .ok (.iaload, 1) := by decide +kernel
theorem d_Re_putInOrder_32 : decode b_Re_putInOrder 32 = .ok (.iconst 1, 1) := by decide +kernel
theorem d_Re_putInOrder_33 : decode b_Re_putInOrder 33 = .ok (.iadd, 1) := by decide +kernel
theorem d_Re_putInOrder_34 : decode b_Re_putInOrder 34 = .ok (.iastore, 1) := by decide +kernel
theorem d_Re_putInOrder_35 : decode b_Re_putInOrder 35 = .ok (.iinc 2 1, 3) := by decide +kernel
theorem d_Re_putInOrder_38 : decode b_Re_putInOrder 38 = .ok (.goto (-28), 3) := by decide +kernel
theorem d_Re_putInOrder_41 : decode b_Re_putInOrder 41 = .ok (.iconst 0, 1) := by decide +kernel
theorem d_Re_putInOrder_42 : decode b_Re_putInOrder 42 = .ok (.istore_n 2, 1) := by decide +kernel
theorem d_Re_putInOrder_43 : decode b_Re_putInOrder 43 = .ok (.iload_n 2, 1) := by decide +kernel
theorem d_Re_putInOrder_44 : decode b_Re_putInOrder 44 = .ok (.iload_n 1, 1) := by decide +kernel
theorem d_Re_putInOrder_45 : decode b_Re_putInOrder 45 = .ok (.if_icmp .ge 38, 3) := by decide +kernel
theorem d_Re_putInOrder_48 : decode b_Re_putInOrder 48 = .ok (.aload_n 0, 1) := by decide +kernel
theorem d_Re_putInOrder_49 : decode b_Re_putInOrder 49 = .ok (.getfield 30, 3) := by decide +kernel
theorem d_Re_putInOrder_52 : decode b_Re_putInOrder 52 = .ok (.iload_n 2, 1) := by decide +kernel
theorem d_Re_putInOrder_53 : decode b_Re_putInOrder 53 = .ok (.iconst 1, 1) := by decide +kernel
theorem d_Re_putInOrder_54 : decode b_Re_putInOrder 54 = .ok (.iadd, 1) := by decide +kernel
theorem d_Re_putInOrder_55 : decode b_Re_putInOrder 55 = .ok (.dup2, 1) := by decide +kernel
theorem d_Re_putInOrder_56 : decode b_Re_putInOrder 56 = .ok (.iaload, 1) := by decide +kernel
theorem d_Re_putInOrder_57 : decode b_Re_putInOrder 57 = .ok (.aload_n 0, 1) := by decide +kernel
theorem d_Re_putInOrder_58 : decode b_Re_putInOrder 58 = .ok (.getfield 30, 3) := by decide +kernel
theorem d_Re_putInOrder_61 : decode b_Re_putInOrder 61 = .ok (.iload_n 2, 1) := by decide +kernel
theorem d_Re_putInOrder_62 : decode b_Re_putInOrder 62 = .ok (.iaload, 1) := by decide +kernel
theorem d_Re_putInOrder_63 : decode b_Re_putInOrder 63 = .ok (.iadd, 1) := by decide +kernel
theorem d_Re_putInOrder_64 : decode b_Re_putInOrder 64 = .ok (.iastore, 1) := by decide +kernel
theorem d_Re_putInOrder_65 : decode b_Re_putInOrder 65 = .ok (.aload_n 0, 1) := by decide +kernel
theorem d_Re_putInOrder_66 : decode b_Re_putInOrder 66 = .ok (.getfield 33, 3) := by decide +kernel
theorem d_Re_putInOrder_69 : decode b_Re_putInOrder 69 = .ok (.iload_n 2, 1) := by decide +kernel
theorem d_Re_putInOrder_70 : decode b_Re_putInOrder 70 = .ok (.aload_n 0, 1) := by decide +kernel
theorem d_Re_putInOrder_71 : decode b_Re_putInOrder 71 = .ok (.getfield 30, 3) := by decide +kernel
theorem d_Re_putInOrder_74 : decode b_Re_putInOrder 74 = .ok (.iload_n 2, 1) := by decide +kernel
theorem d_Re_putInOrder_75 : decode b_Re_putInOrder 75 = .ok (.iaload, 1) := by decide +kernel
theorem d_Re_putInOrder_76 : decode b_Re_putInOrder 76 = .ok (.iastore, 1) := by decide +kernel
theorem d_Re_putInOrder_77 : decode b_Re_putInOrder 77 = .ok (.iinc 2 1, 3) := by decide +kernel
theorem d_Re_putInOrder_80 : decode b_Re_putInOrder 80 = .ok (.goto (-37), 3) := by decide +kernel
theorem d_Re_putInOrder_83 : decode b_Re_putInOrder 83 = .ok (.iconst 0, 1) := by decide +kernel
theorem d_Re_putInOrder_84 : decode b_Re_putInOrder 84 = .ok (.istore_n 2, 1) := by decide +kernel
theorem d_Re_putInOrder_85 : decode b_Re_putInOrder 85 = .ok (.iload_n 2, 1) := by decide +kernel
theorem d_Re_putInOrder_86 : decode b_Re_putInOrder 86 = .ok (.aload_n 0, 1) := by decide +kernel
theorem d_Re_putInOrder_87 : decode b_Re_putInOrder 87 = .ok (.getfield 36, 3) := by decide +kernel
theorem d_Re_putInOrder_90 : decode b_Re_putInOrder 90 = .ok (.if_icmp .ge 38, 3) := by decide +kernel
theorem d_Re_putInOrder_93 : decode b_Re_putInOrder 93 = .ok (.aload_n 0, 1) := by decide +kernel
theorem d_Re_putInOrder_94 : decode b_Re_putInOrder 94 = .ok (.getfield 9, 3) := by decide +kernel
theorem d_Re_putInOrder_97 : decode b_Re_putInOrder 97 = .ok (.iload_n 2, 1) := by decide +kernel
theorem d_Re_putInOrder_98 : decode b_Re_putInOrder 98 = .ok (.iaload, 1) := by decide +kernel
theorem d_Re_putInOrder_99 : decode b_Re_putInOrder 99 = .ok (.istore_n 3, 1) := by decide +kernel
theorem d_Re_putInOrder_100 : decode b_Re_putInOrder 100 = .ok (.aload_n 0, 1) := by decide +kernel
theorem d_Re_putInOrder_101 : decode b_Re_putInOrder 101 = .ok (.getfield 27, 3) := by decide +kernel
theorem d_Re_putInOrder_104 : decode b_Re_putInOrder 104 = .ok (.aload_n 0, 1) := by decide +kernel
theorem d_Re_putInOrder_105 : decode b_Re_putInOrder 105 = .ok (.getfield 33, 3) := by decide +kernel
theorem d_Re_putInOrder_108 : decode b_Re_putInOrder 108 = .ok (.iload_n 3, 1) := by decide +kernel
theorem d_Re_putInOrder_109 : decode b_Re_putInOrder 109 = .ok (.iaload, 1) := by decide +kernel
theorem d_Re_putInOrder_110 : decode b_Re_putInOrder 110 = .ok (.iload_n 2, 1) := by decide +kernel
theorem d_Re_putInOrder_111 : decode b_Re_putInOrder 111 = .ok (.iastore, 1) := by decide +kernel
theorem d_Re_putInOrder_112 : decode b_Re_putInOrder 112 = .ok (.aload_n 0, 1) := by decide +kernel
theorem d_Re_putInOrder_113 : decode b_Re_putInOrder 113 = .ok (.getfield 33, 3) := by decide +kernel
theorem d_Re_putInOrder_116 : decode b_Re_putInOrder 116 = .ok (.iload_n 3, 1) := by decide +kernel
theorem d_Re_putInOrder_117 : decode b_Re_putInOrder 117 = .ok (.dup2, 1) := by decide +kernel
theorem d_Re_putInOrder_118 : decode b_Re_putInOrder 118 = .ok (.iaload, 1) := by decide +kernel
theorem d_Re_putInOrder_119 : decode b_Re_putInOrder 119 = .ok (.iconst 1, 1) := by decide +kernel
theorem d_Re_putInOrder_120 : decode b_Re_putInOrder 120 = .ok (.iadd, 1) := by decide +kernel
theorem d_Re_putInOrder_121 : decode b_Re_putInOrder 121 = .ok (.iastore, 1) := by decide +kernel
theorem d_Re_putInOrder_122 : decode b_Re_putInOrder 122 = .ok (.iinc 2 1, 3) := by decide +kernel
theorem d_Re_putInOrder_125 : decode b_Re_putInOrder 125 = .ok (.goto (-40), 3) := by decide +kernel
theorem d_Re_putInOrder_128 : decode b_Re_putInOrder 128 = .ok (.return_, 1) := by decide +kernel
theorem d_Ly_fails_0 : decode b_Ly_fails 0 = .ok (.aload_n 0, 1) := by decide +kernel
theorem d_Ly_fails_1 : decode b_Ly_fails 1 = .ok (.iload_n 1, 1) := by decide +kernel
theorem d_Ly_fails_2 : decode b_Ly_fails 2 = .ok (.putfield 249, 3) := by decide +kernel
theorem d_Ly_fails_5 : decode b_Ly_fails 5 = .ok (.aload_n 0, 1) := by decide +kernel
theorem d_Ly_fails_6 : decode b_Ly_fails 6 = .ok (.iload_n 2, 1) := by decide +kernel
theorem d_Ly_fails_7 : decode b_Ly_fails 7 = .ok (.putfield 102, 3) := by decide +kernel
theorem d_Ly_fails_10 : decode b_Ly_fails 10 = .ok (.aload_n 0, 1) := by decide +kernel
theorem d_Ly_fails_11 : decode b_Ly_fails 11 = .ok (.iload_n 3, 1) := by decide +kernel
theorem d_Ly_fails_12 : decode b_Ly_fails 12 = .ok (.putfield 105, 3) := by decide +kernel
theorem d_Ly_fails_15 : decode b_Ly_fails 15 = .ok (.iconst 0, 1) := by decide +kernel
theorem d_Ly_fails_16 : decode b_Ly_fails 16 = .ok (.ireturn, 1) := by decide +kernel
theorem d_Ly_linksNames_0 : decode b_Ly_linksNames 0 = .ok (.aload_n 0, 1) := by decide +kernel
theorem d_Ly_linksNames_1 : decode b_Ly_linksNames 1 = .ok (.getfield 33, 3) := by decide +kernel
theorem d_Ly_linksNames_4 : decode b_Ly_linksNames 4 = .ok (.aload_n 0, 1) := by decide +kernel
theorem d_Ly_linksNames_5 : decode b_Ly_linksNames 5 = .ok (.getfield 19, 3) := by decide +kernel
theorem d_Ly_linksNames_8 : decode b_Ly_linksNames 8 = .ok (.getfield 145, 3) := by decide +kernel
theorem d_Ly_linksNames_11 : decode b_Ly_linksNames 11 = .ok (.invokevirtual 328, 3) := by decide +kernel
theorem d_Ly_linksNames_14 : decode b_Ly_linksNames 14 = .ok (.aload_n 0, 1) := by decide +kernel
theorem d_Ly_linksNames_15 : decode b_Ly_linksNames 15 = .ok (.getfield 42, 3) := by decide +kernel
theorem d_Ly_linksNames_18 : decode b_Ly_linksNames 18 = .ok (.aload_n 0, 1) := by decide +kernel
theorem d_Ly_linksNames_19 : decode b_Ly_linksNames 19 = .ok (.getfield 98, 3) := by decide +kernel
theorem d_Ly_linksNames_22 : decode b_Ly_linksNames 22 = .ok (.aload_n 0, 1) := by decide +kernel
theorem d_Ly_linksNames_23 : decode b_Ly_linksNames 23 = .ok (.getfield 227, 3) := by decide +kernel
theorem d_Ly_linksNames_26 : decode b_Ly_linksNames 26 = .ok (.invokevirtual 331, 3) := by decide +kernel
theorem d_Ly_linksNames_29 : decode b_Ly_linksNames 29 = .ok (.aload_n 0, 1) := by decide +kernel
theorem d_Ly_linksNames_30 : decode b_Ly_linksNames 30 = .ok (.getfield 49, 3) := by decide +kernel
theorem d_Ly_linksNames_33 : decode b_Ly_linksNames 33 = .ok (.invokevirtual 335, 3) := by decide +kernel
theorem d_Ly_linksNames_36 : decode b_Ly_linksNames 36 = .ok (.aload_n 0, 1) := by decide +kernel
theorem d_Ly_linksNames_37 : decode b_Ly_linksNames 37 = .ok (.getfield 49, 3) := by decide +kernel
theorem d_Ly_linksNames_40 : decode b_Ly_linksNames 40 = .ok (.getfield 338, 3) := by decide +kernel
theorem d_Ly_linksNames_43 : decode b_Ly_linksNames 43 = .ok (.iconst (-1), 1) := by decide +kernel
theorem d_Ly_linksNames_44 : decode b_Ly_linksNames 44 = .ok (.if_icmp .eq 17, 3) := by decide +kernel
theorem d_Ly_linksNames_47 : decode b_Ly_linksNames 47 = .ok (.aload_n 0, 1) := by decide +kernel
theorem d_Ly_linksNames_48 : decode b_Ly_linksNames 48 = .ok (.iconst 1, 1) := by decide +kernel
theorem d_Ly_linksNames_49 : decode b_Ly_linksNames 49 = .ok (.aload_n 0, 1) := by decide +kernel
theorem d_Ly_linksNames_50 : decode b_Ly_linksNames 50 = .ok (.getfield 49, 3) := by decide +kernel
theorem d_Ly_linksNames_53 : decode b_Ly_linksNames 53 = .ok (.getfield 338, 3) := by decide +kernel
theorem d_Ly_linksNames_56 : decode b_Ly_linksNames 56 = .ok (.iconst (-1), 1) := by decide +kernel
theorem d_Ly_linksNames_57 : decode b_Ly_linksNames 57 = .ok (.invokevirtual 341, 3) := by decide +kernel
theorem d_Ly_linksNames_60 : decode b_Ly_linksNames 60 = .ok (.ireturn, 1) := by decide +kernel
theorem d_Ly_linksNames_61 : decode b_Ly_linksNames 61 = .ok (.aload_n 0, 1) := by decide +kernel
theorem d_Ly_linksNames_62 : decode b_Ly_linksNames 62 = .ok (.getfield 98, 3) := by decide +kernel
theorem d_Ly_linksNames_65 : decode b_Ly_linksNames 65 = .ok (.iconst (-1), 1) := by decide +kernel
theorem d_Ly_linksNames_66 : decode b_Ly_linksNames 66 = .ok (.if_icmp .eq 28, 3) := by decide +kernel
theorem d_Ly_linksNames_69 : decode b_Ly_linksNames 69 = .ok (.aload_n 0, 1) := by decide +kernel
theorem d_Ly_linksNames_70 : decode b_Ly_linksNames 70 = .ok (.getfield 49, 3) := by decide +kernel
theorem d_Ly_linksNames_73 : decode b_Ly_linksNames 73 = .ok (.aload_n 0, 1) := by decide +kernel
theorem d_Ly_linksNames_74 : decode b_Ly_linksNames 74 = .ok (.getfield 98, 3) := by decide +kernel
theorem d_Ly_linksNames_77 : decode b_Ly_linksNames 77 = .ok (.invokevirtual 344, 3) := by decide +kernel
theorem d_Ly_linksNames_80 : decode b_Ly_linksNames 80 = .ok (.ifCond .ne 14, 3) := by decide +kernel
theorem d_Ly_linksNames_83 : decode b_Ly_linksNames 83 = .ok (.aload_n 0, 1) := by decide +kernel
theorem d_Ly_linksNames_84 : decode b_Ly_linksNames 84 = .ok (.iconst 2, 1) := by decide +kernel
theorem d_Ly_linksNames_85 : decode b_Ly_linksNames 85 = .ok (.aload_n 0, 1) := by decide +kernel
theorem d_Ly_linksNames_86 : decode b_Ly_linksNames 86 = .ok (.getfield 98, 3) := by decide +kernel
theorem d_Ly_linksNames_89 : decode b_Ly_linksNames 89 = .ok (.iconst (-1), 1) := by decide +kernel
theorem d_Ly_linksNames_90 : decode b_Ly_linksNames 90 = .ok (.invokevirtual 341, 3) := by decide +kernel
theorem d_Ly_linksNames_93 : decode b_Ly_linksNames 93 = .ok (.ireturn, 1) := by decide +kernel
theorem d_Ly_linksNames_94 : decode b_Ly_linksNames 94 = .ok (.aload_n 0, 1) := by decide +kernel
theorem d_Ly_linksNames_95 : decode b_Ly_linksNames 95 = .ok (.getfield 58, 3) := by decide +kernel
theorem d_Ly_linksNames_98 : decode b_Ly_linksNames 98 = .ok (.aload_n 0, 1) := by decide +kernel
theorem d_Ly_linksNames_99 : decode b_Ly_linksNames 99 = .ok (.getfield 98, 3) := by decide +kernel
theorem d_Ly_linksNames_102 : decode b_Ly_linksNames 102 = .ok (.iconst (-1), 1) := by decide +kernel
theorem d_Ly_linksNames_103 : decode b_Ly_linksNames 103 = .ok (.if_icmp .ne 7, 3) := by decide +kernel
theorem d_Ly_linksNames_106 : decode b_Ly_linksNames 106 = .ok (.iconst (-1), 1) := by decide +kernel
theorem d_Ly_linksNames_107 : decode b_Ly_linksNames 107 = .ok (.goto 14, 3) := by decide +kernel
theorem d_Ly_linksNames_110 : decode b_Ly_linksNames 110 = .ok (.aload_n 0, 1) := by decide +kernel
theorem d_Ly_linksNames_111 : decode b_Ly_linksNames 111 = .ok (.getfield 49, 3) := by decide +kernel
theorem d_Ly_linksNames_114 : decode b_Ly_linksNames 114 = .ok (.aload_n 0, 1) := by decide +kernel
theorem d_Ly_linksNames_115 : decode b_Ly_linksNames 115 = .ok (.getfield 98, 3) := by decide +kernel
theorem d_Ly_linksNames_118 : decode b_Ly_linksNames 118 = .ok (.invokevirtual 347, 3) := by decide +kernel
theorem d_Ly_linksNames_121 : decode b_Ly_linksNames 121 = .ok (.invokevirtual 350, 3) := by decide +kernel
theorem d_Ly_linksNames_124 : decode b_Ly_linksNames 124 = .ok (.aload_n 0, 1) := by decide +kernel
theorem d_Ly_linksNames_125 : decode b_Ly_linksNames 125 = .ok (.getfield 58, 3) := by decide +kernel
theorem d_Ly_linksNames_128 : decode b_Ly_linksNames 128 = .ok (.invokevirtual 353, 3) := by decide +kernel
theorem d_Ly_linksNames_131 : decode b_Ly_linksNames 131 = .ok (.istore_n 1, 1) := by decide +kernel
theorem d_Ly_linksNames_132 : decode b_Ly_linksNames 132 = .ok (.iload_n 1, 1) := by decide +kernel
theorem d_Ly_linksNames_133 : decode b_Ly_linksNames 133 = .ok (.iconst (-1), 1) := by decide +kernel
theorem d_Ly_linksNames_134 : decode b_Ly_linksNames 134 = .ok (.if_icmp .eq 27, 3) := by decide +kernel
theorem d_Ly_linksNames_137 : decode b_Ly_linksNames 137 = .ok (.aload_n 0, 1) := by decide +kernel
theorem d_Ly_linksNames_138 : decode b_Ly_linksNames 138 = .ok (.iconst 2, 1) := by decide +kernel
theorem d_Ly_linksNames_139 : decode b_Ly_linksNames 139 = .ok (.aload_n 0, 1) := by decide +kernel
theorem d_Ly_linksNames_140 : decode b_Ly_linksNames 140 = .ok (.getfield 26, 3) := by decide +kernel
theorem d_Ly_linksNames_143 : decode b_Ly_linksNames 143 = .ok (.getfield 356, 3) := by decide +kernel
theorem d_Ly_linksNames_146 : decode b_Ly_linksNames 146 = .ok (.aload_n 0, 1) := by decide +kernel
theorem d_Ly_linksNames_147 : decode b_Ly_linksNames 147 = .ok (.getfield 33, 3) := by decide +kernel
theorem d_Ly_linksNames_150 : decode b_Ly_linksNames 150 = .ok (.getfield 359, 3) := by decide +kernel
theorem d_Ly_linksNames_153 : decode b_Ly_linksNames 153 = .ok (.iload_n 1, 1) := by decide +kernel
theorem d_Ly_linksNames_154 : decode b_Ly_linksNames 154 = .ok (.iaload, 1) := by decide +kernel
theorem d_Ly_linksNames_155 : decode b_Ly_linksNames 155 = .ok (.iaload, 1) := by decide +kernel
theorem d_Ly_linksNames_156 : decode b_Ly_linksNames 156 = .ok (.iload_n 1, 1) := by decide +kernel
theorem d_Ly_linksNames_157 : decode b_Ly_linksNames 157 = .ok (.invokevirtual 341, 3) := by decide +kernel
theorem d_Ly_linksNames_160 : decode b_Ly_linksNames 160 = .ok (.ireturn, 1) := by decide +kernel
theorem d_Ly_linksNames_161 : decode b_Ly_linksNames 161 = .ok (.iconst 1, 1) := by decide +kernel
theorem d_Ly_linksNames_162 : decode b_Ly_linksNames 162 = .ok (.ireturn, 1) := by decide +kernel
theorem d_Fo_isSame_0 : decode b_Fo_isSame 0 = .ok (.aload_n 0, 1) := by decide +kernel
theorem d_Fo_isSame_1 : decode b_Fo_isSame 1 = .ok (.getfield 22, 3) := by decide +kernel
theorem d_Fo_isSame_4 : decode b_Fo_isSame 4 = .ok (.getfield 98, 3) := by decide +kernel
theorem d_Fo_isSame_7 : decode b_Fo_isSame 7 = .ok (.iload_n 1, 1) := by decide +kernel
theorem d_Fo_isSame_8 : decode b_Fo_isSame 8 = .ok (.iaload, 1) := by decide +kernel
theorem d_Fo_isSame_9 : decode b_Fo_isSame 9 = .ok (.istore_n 3, 1) := by decide +kernel
theorem d_Fo_isSame_10 : decode b_Fo_isSame 10 = .ok (.aload_n 0, 1) := by decide +kernel
theorem d_Fo_isSame_11 : decode b_Fo_isSame 11 = .ok (.getfield 22, 3) := by decide +kernel
theorem d_Fo_isSame_14 : decode b_Fo_isSame 14 = .ok (.getfield 98, 3) := by decide +kernel
theorem d_Fo_isSame_17 : decode b_Fo_isSame 17 = .ok (.iload_n 2, 1) := by decide +kernel
theorem d_Fo_isSame_18 : decode b_Fo_isSame 18 = .ok (.iaload, 1) := by decide +kernel
theorem d_Fo_isSame_19 : decode b_Fo_isSame 19 = .ok (.istore 4, 2) := by decide +kernel
theorem d_Fo_isSame_21 : decode b_Fo_isSame 21 = .ok (.aload_n 0, 1) := by decide +kernel
theorem d_Fo_isSame_22 : decode b_Fo_isSame 22 = .ok (.getfield 22, 3) := by decide +kernel
theorem d_Fo_isSame_25 : decode b_Fo_isSame 25 = .ok (.getfield 101, 3) := by decide +kernel
theorem d_Fo_isSame_28 : decode b_Fo_isSame 28 = .ok (.iload_n 1, 1) := by decide +kernel
theorem d_Fo_isSame_29 : decode b_Fo_isSame 29 = .ok (.iaload, 1) := by decide +kernel
theorem d_Fo_isSame_30 : decode b_Fo_isSame 30 = .ok (.aload_n 0, 1) := by decide +kernel
theorem d_Fo_isSame_31 : decode b_Fo_isSame 31 = .ok (.getfield 22, 3) := by decide +kernel
theorem d_Fo_isSame_34 : decode b_Fo_isSame 34 = .ok (.getfield 101, 3) := by decide +kernel
theorem d_Fo_isSame_37 : decode b_Fo_isSame 37 = .ok (.iload_n 2, 1) := by decide +kernel
theorem d_Fo_isSame_38 : decode b_Fo_isSame 38 = .ok (.iaload, 1) := by decide +kernel
theorem d_Fo_isSame_39 : decode b_Fo_isSame 39 = .ok (.if_icmp .ne 93, 3) := by decide +kernel
theorem d_Fo_isSame_42 : decode b_Fo_isSame 42 = .ok (.aload_n 0, 1) := by decide +kernel
theorem d_Fo_isSame_43 : decode b_Fo_isSame 43 = .ok (.getfield 22, 3) := by decide +kernel
theorem d_Fo_isSame_46 : decode b_Fo_isSame 46 = .ok (.getfield 104, 3) := by decide +kernel
theorem d_Fo_isSame_49 : decode b_Fo_isSame 49 = .ok (.iload_n 1, 1) := by decide +kernel
theorem d_Fo_isSame_50 : decode b_Fo_isSame 50 = .ok (.iaload, 1) := by decide +kernel
theorem d_Fo_isSame_51 : decode b_Fo_isSame 51 = .ok (.aload_n 0, 1) := by decide +kernel
theorem d_Fo_isSame_52 : decode b_Fo_isSame 52 = .ok (.getfield 22, 3) := by decide +kernel
theorem d_Fo_isSame_55 : decode b_Fo_isSame 55 = .ok (.getfield 104, 3) := by decide +kernel
theorem d_Fo_isSame_58 : decode b_Fo_isSame 58 = .ok (.iload_n 2, 1) := by decide +kernel
theorem d_Fo_isSame_59 : decode b_Fo_isSame 59 = .ok (.iaload, 1) := by decide +kernel
theorem d_Fo_isSame_60 : decode b_Fo_isSame 60 = .ok (.if_icmp .ne 72, 3) := by decide +kernel
theorem d_Fo_isSame_63 : decode b_Fo_isSame 63 = .ok (.aload_n 0, 1) := by decide +kernel
theorem d_Fo_isSame_64 : decode b_Fo_isSame 64 = .ok (.getfield 22, 3) := by decide +kernel
theorem d_Fo_isSame_67 : decode b_Fo_isSame 67 = .ok (.getfield 107, 3) := by decide +kernel
theorem d_Fo_isSame_70 : decode b_Fo_isSame 70 = .ok (.iload_n 1, 1) := by decide +kernel
theorem d_Fo_isSame_71 : decode b_Fo_isSame 71 = .ok (.iaload, 1) := by decide +kernel
theorem d_Fo_isSame_72 : decode b_Fo_isSame 72 = .ok (.aload_n 0, 1) := by decide +kernel
theorem d_Fo_isSame_73 : decode b_Fo_isSame 73 = .ok (.getfield 22, 3) := by decide +kernel
theorem d_Fo_isSame_76 : decode b_Fo_isSame 76 = .ok (.getfield 107, 3) := by decide +kernel
theorem d_Fo_isSame_79 : decode b_Fo_isSame 79 = .ok (.iload_n 2, 1) := by decide +kernel
theorem d_Fo_isSame_80 : decode b_Fo_isSame 80 = .ok (.iaload, 1) := by decide +kernel
theorem d_Fo_isSame_81 : decode b_Fo_isSame 81 = .ok (.if_icmp .ne 51, 3) := by decide +kernel
theorem d_Fo_isSame_84 : decode b_Fo_isSame 84 = .ok (.aload_n 0, 1) := by decide +kernel
theorem d_Fo_isSame_85 : decode b_Fo_isSame 85 = .ok (.getfield 26, 3) := by decide +kernel
theorem d_Fo_isSame_88 : decode b_Fo_isSame 88 = .ok (.getfield 110, 3) := by decide +kernel
theorem d_Fo_isSame_91 : decode b_Fo_isSame 91 = .ok (.iload_n 3, 1) := by decide +kernel
theorem d_Fo_isSame_92 : decode b_Fo_isSame 92 = .ok (.iaload, 1) := by decide +kernel
theorem d_Fo_isSame_93 : decode b_Fo_isSame 93 = .ok (.aload_n 0, 1) := by decide +kernel
theorem d_Fo_isSame_94 : decode b_Fo_isSame 94 = .ok (.getfield 26, 3) := by decide +kernel
theorem d_Fo_isSame_97 : decode b_Fo_isSame 97 = .ok (.getfield 110, 3) := by decide +kernel
theorem d_Fo_isSame_100 : decode b_Fo_isSame 100 = .ok (.iload 4, 2) := by decide +kernel
theorem d_Fo_isSame_102 : decode b_Fo_isSame 102 = .ok (.iaload, 1) := by decide +kernel
theorem d_Fo_isSame_103 : decode b_Fo_isSame 103 = .ok (.if_icmp .ne 29, 3) := by decide +kernel
theorem d_Fo_isSame_106 : decode b_Fo_isSame 106 = .ok (.aload_n 0, 1) := by decide +kernel
theorem d_Fo_isSame_107 : decode b_Fo_isSame 107 = .ok (.getfield 26, 3) := by decide +kernel
theorem d_Fo_isSame_110 : decode b_Fo_isSame 110 = .ok (.getfield 115, 3) := by decide +kernel
theorem d_Fo_isSame_113 : decode b_Fo_isSame 113 = .ok (.iload_n 3, 1) := by decide +kernel
theorem d_Fo_isSame_114 : decode b_Fo_isSame 114 = .ok (.iaload, 1) := by decide +kernel
theorem d_Fo_isSame_115 : decode b_Fo_isSame 115 = .ok (.aload_n 0, 1) := by decide +kernel
theorem d_Fo_isSame_116 : decode b_Fo_isSame 116 = .ok (.getfield 26, 3) := by decide +kernel
theorem d_Fo_isSame_119 : decode b_Fo_isSame 119 = .ok (.getfield 115, 3) := by decide +kernel
theorem d_Fo_isSame_122 : decode b_Fo_isSame 122 = .ok (.iload 4, 2) := by decide +kernel
theorem d_Fo_isSame_124 : decode b_Fo_isSame 124 = .ok (.iaload, 1) := by decide +kernel
theorem d_Fo_isSame_125 : decode b_Fo_isSame 125 = .ok (.if_icmp .ne 7, 3) := by decide +kernel
theorem d_Fo_isSame_128 : decode b_Fo_isSame 128 = .ok (.iconst 1, 1) := by decide +kernel
theorem d_Fo_isSame_129 : decode b_Fo_isSame 129 = .ok (.goto 4, 3) := by decide +kernel
theorem d_Fo_isSame_132 : decode b_Fo_isSame 132 = .ok (.iconst 0, 1) := by decide +kernel
theorem d_Fo_isSame_133 : decode b_Fo_isSame 133 = .ok (.ireturn, 1) := by decide +kernel
theorem d_Fo_hasSameRelocations_0 : decode b_Fo_hasSameRelocations 0 = .ok (.aload_n 0, 1) := by decide +kernel
theorem d_Fo_hasSameRelocations_1 : decode b_Fo_hasSameRelocations 1 = .ok (.getfield 22, 3) := by decide +kernel
theorem d_Fo_hasSameRelocations_4 : decode b_Fo_hasSameRelocations 4 = .ok (.iload_n 1, 1) := by decide +kernel
theorem d_Fo_hasSameRelocations_5 : decode b_Fo_hasSameRelocations 5 = .ok (.invokevirtual 87, 3) := by decide +kernel
theorem d_Fo_hasSameRelocations_8 : decode b_Fo_hasSameRelocations 8 = .ok (.aload_n 0, 1) := by decide +kernel
theorem d_Fo_hasSameRelocations_9 : decode b_Fo_hasSameRelocations 9 = .ok (.getfield 22, 3) := by decide +kernel
theorem d_Fo_hasSameRelocations_12 : decode b_Fo_hasSameRelocations 12 = .ok (.iload_n 2, 1) := by decide +kernel
theorem d_Fo_hasSameRelocations_13 : decode b_Fo_hasSameRelocations 13 = .ok (.invokevirtual 87, 3) := by decide +kernel
theorem d_Fo_hasSameRelocations_16 : decode b_Fo_hasSameRelocations 16 = .ok (.if_icmp .eq 5, 3) := by decide +kernel
theorem d_Fo_hasSameRelocations_19 : decode b_Fo_hasSameRelocations 19 = .ok (.iconst 0, 1) := by decide +kernel
theorem d_Fo_hasSameRelocations_20 : decode b_Fo_hasSameRelocations 20 = .ok (.ireturn, 1) := by decide +kernel
theorem d_Fo_hasSameRelocations_21 : decode b_Fo_hasSameRelocations 21 = .ok (.iconst 0, 1) := by decide +kernel
theorem d_Fo_hasSameRelocations_22 : decode b_Fo_hasSameRelocations 22 = .ok (.istore_n 3, 1) := by decide +kernel
theorem d_Fo_hasSameRelocations_23 : decode b_Fo_hasSameRelocations 23 = .ok (.iload_n 3, 1) := by decide +kernel
theorem d_Fo_hasSameRelocations_24 : decode b_Fo_hasSameRelocations 24 = .ok (.aload_n 0, 1) := by decide +kernel
theorem d_Fo_hasSameRelocations_25 : decode b_Fo_hasSameRelocations 25 = .ok (.getfield 22, 3) := by decide +kernel
theorem d_Fo_hasSameRelocations_28 : decode b_Fo_hasSameRelocations 28 = .ok (.iload_n 1, 1) := by decide +kernel
theorem d_Fo_hasSameRelocations_29 : decode b_Fo_hasSameRelocations 29 = .ok (.invokevirtual 87, 3) := by decide +kernel
theorem d_Fo_hasSameRelocations_32 : decode b_Fo_hasSameRelocations 32 = .ok (.if_icmp .ge 36, 3) := by decide +kernel
theorem d_Fo_hasSameRelocations_35 : decode b_Fo_hasSameRelocations 35 = .ok (.aload_n 0, 1) := by decide +kernel
theorem d_Fo_hasSameRelocations_36 : decode b_Fo_hasSameRelocations 36 = .ok (.aload_n 0, 1) := by decide +kernel
theorem d_Fo_hasSameRelocations_37 : decode b_Fo_hasSameRelocations 37 = .ok (.getfield 22, 3) := by decide +kernel
theorem d_Fo_hasSameRelocations_40 : decode b_Fo_hasSameRelocations 40 = .ok (.iload_n 1, 1) := by decide +kernel
theorem d_Fo_hasSameRelocations_41 : decode b_Fo_hasSameRelocations 41 = .ok (.iload_n 3, 1) := by decide +kernel
theorem d_Fo_hasSameRelocations_42 : decode b_Fo_hasSameRelocations 42 = .ok (.invokevirtual 92, 3) := by decide +kernel
theorem d_Fo_hasSameRelocations_45 : decode b_Fo_hasSameRelocations 45 = .ok (.aload_n 0, 1) := by decide +kernel
theorem d_Fo_hasSameRelocations_46 : decode b_Fo_hasSameRelocations 46 = .ok (.getfield 22, 3) := by decide +kernel
theorem d_Fo_hasSameRelocations_49 : decode b_Fo_hasSameRelocations 49 = .ok (.iload_n 2, 1) := by decide +kernel
theorem d_Fo_hasSameRelocations_50 : decode b_Fo_hasSameRelocations 50 = .ok (.iload_n 3, 1) := by decide +kernel
theorem d_Fo_hasSameRelocations_51 : decode b_Fo_hasSameRelocations 51 = .ok (.invokevirtual 92, 3) := by decide +kernel
theorem d_Fo_hasSameRelocations_54 : decode b_Fo_hasSameRelocations 54 = .ok (.invokevirtual 95, 3) := by decide +kernel
theorem d_Fo_hasSameRelocations_57 : decode b_Fo_hasSameRelocations 57 = .ok (.ifCond .ne 5, 3) := by decide +kernel
theorem d_Fo_hasSameRelocations_60 : decode b_Fo_hasSameRelocations 60 = .ok (.iconst 0, 1) := by decide +kernel
theorem d_Fo_hasSameRelocations_61 : decode b_Fo_hasSameRelocations 61 = .ok (.ireturn, 1) := by decide +kernel
theorem d_Fo_hasSameRelocations_62 : decode b_Fo_hasSameRelocations 62 = .ok (.iinc 3 1, 3) := by decide +kernel
theorem d_Fo_hasSameRelocations_65 : decode b_Fo_hasSameRelocations 65 = .ok (.goto (-42), 3) := by decide +kernel
theorem d_Fo_hasSameRelocations_68 : decode b_Fo_hasSameRelocations 68 = .ok (.iconst 1, 1) := by decide +kernel
theorem d_Fo_hasSameRelocations_69 : decode b_Fo_hasSameRelocations 69 = .ok (.ireturn, 1) := by decide +kernel
theorem d_Se_read_0 : decode b_Se_read 0 = .ok (.aload_n 0, 1) := by decide +kernel
theorem d_Se_read_1 : decode b_Se_read 1 = .ok (.getfield 9, 3) := by decide +kernel
theorem d_Se_read_4 : decode b_Se_read 4 = .ok (.aload_n 0, 1) := by decide +kernel
theorem d_Se_read_5 : decode b_Se_read 5 = .ok (.getfield 27, 3) := by decide +kernel
theorem d_Se_read_8 : decode b_Se_read 8 = .ok (.iload_n 1, 1) := by decide +kernel
theorem d_Se_read_9 : decode b_Se_read 9 = .ok (.iaload, 1) := by decide +kernel
theorem d_Se_read_10 : decode b_Se_read 10 = .ok (.iload_n 2, 1) := by decide +kernel
theorem d_Se_read_11 : decode b_Se_read 11 = .ok (.iconst 4, 1) := by decide +kernel
theorem d_Se_read_12 : decode b_Se_read 12 = .ok (.idiv, 1) := by decide +kernel
theorem d_Se_read_13 : decode b_Se_read 13 = .ok (.iadd, 1) := by decide +kernel
theorem d_Se_read_14 : decode b_Se_read 14 = .ok (.iaload, 1) := by decide +kernel
theorem d_Se_read_15 : decode b_Se_read 15 = .ok (.ireturn, 1) := by decide +kernel
theorem d_Fo_hasSameWords_0 : decode b_Fo_hasSameWords 0 = .ok (.iconst 0, 1) := by decide +kernel
theorem d_Fo_hasSameWords_1 : decode b_Fo_hasSameWords 1 = .ok (.istore_n 3, 1) := by decide +kernel
theorem d_Fo_hasSameWords_2 : decode b_Fo_hasSameWords 2 = .ok (.iload_n 3, 1) := by decide +kernel
theorem d_Fo_hasSameWords_3 : decode b_Fo_hasSameWords 3 = .ok (.aload_n 0, 1) := by decide +kernel
theorem d_Fo_hasSameWords_4 : decode b_Fo_hasSameWords 4 = .ok (.getfield 18, 3) := by decide +kernel
theorem d_Fo_hasSameWords_7 : decode b_Fo_hasSameWords 7 = .ok (.getfield 71, 3) := by decide +kernel
theorem d_Fo_hasSameWords_10 : decode b_Fo_hasSameWords 10 = .ok (.iload_n 1, 1) := by decide +kernel
theorem d_Fo_hasSameWords_11 : decode b_Fo_hasSameWords 11 = .ok (.iaload, 1) := by decide +kernel
theorem d_Fo_hasSameWords_12 : decode b_Fo_hasSameWords 12 = .ok (.if_icmp .ge 32, 3) := by decide +kernel
theorem d_Fo_hasSameWords_15 : decode b_Fo_hasSameWords 15 = .ok (.aload_n 0, 1) := by decide +kernel
theorem d_Fo_hasSameWords_16 : decode b_Fo_hasSameWords 16 = .ok (.getfield 18, 3) := by decide +kernel
theorem d_Fo_hasSameWords_19 : decode b_Fo_hasSameWords 19 = .ok (.iload_n 1, 1) := by decide +kernel
theorem d_Fo_hasSameWords_20 : decode b_Fo_hasSameWords 20 = .ok (.iload_n 3, 1) := by decide +kernel
theorem d_Fo_hasSameWords_21 : decode b_Fo_hasSameWords 21 = .ok (.invokevirtual 83, 3) := by decide +kernel
theorem d_Fo_hasSameWords_24 : decode b_Fo_hasSameWords 24 = .ok (.aload_n 0, 1) := by decide +kernel
theorem d_Fo_hasSameWords_25 : decode b_Fo_hasSameWords 25 = .ok (.getfield 18, 3) := by decide +kernel
theorem d_Fo_hasSameWords_28 : decode b_Fo_hasSameWords 28 = .ok (.iload_n 2, 1) := by decide +kernel
theorem d_Fo_hasSameWords_29 : decode b_Fo_hasSameWords 29 = .ok (.iload_n 3, 1) := by decide +kernel
theorem d_Fo_hasSameWords_30 : decode b_Fo_hasSameWords 30 = .ok (.invokevirtual 83, 3) := by decide +kernel
theorem d_Fo_hasSameWords_33 : decode b_Fo_hasSameWords 33 = .ok (.if_icmp .eq 5, 3) := by decide +kernel
theorem d_Fo_hasSameWords_36 : decode b_Fo_hasSameWords 36 = .ok (.iconst 0, 1) := by decide +kernel
theorem d_Fo_hasSameWords_37 : decode b_Fo_hasSameWords 37 = .ok (.ireturn, 1) := by decide +kernel
theorem d_Fo_hasSameWords_38 : decode b_Fo_hasSameWords 38 = .ok (.iinc 3 4, 3) := by decide +kernel
theorem d_Fo_hasSameWords_41 : decode b_Fo_hasSameWords 41 = .ok (.goto (-39), 3) := by decide +kernel
theorem d_Fo_hasSameWords_44 : decode b_Fo_hasSameWords 44 = .ok (.iconst 1, 1) := by decide +kernel
theorem d_Fo_hasSameWords_45 : decode b_Fo_hasSameWords 45 = .ok (.ireturn, 1) := by decide +kernel
theorem d_Fo_looksSame_0 : decode b_Fo_looksSame 0 = .ok (.aload_n 0, 1) := by decide +kernel
theorem d_Fo_looksSame_1 : decode b_Fo_looksSame 1 = .ok (.getfield 18, 3) := by decide +kernel
theorem d_Fo_looksSame_4 : decode b_Fo_looksSame 4 = .ok (.getfield 71, 3) := by decide +kernel
theorem d_Fo_looksSame_7 : decode b_Fo_looksSame 7 = .ok (.iload_n 1, 1) := by decide +kernel
theorem d_Fo_looksSame_8 : decode b_Fo_looksSame 8 = .ok (.iaload, 1) := by decide +kernel
theorem d_Fo_looksSame_9 : decode b_Fo_looksSame 9 = .ok (.aload_n 0, 1) := by decide +kernel
theorem d_Fo_looksSame_10 : decode b_Fo_looksSame 10 = .ok (.getfield 18, 3) := by decide +kernel
theorem d_Fo_looksSame_13 : decode b_Fo_looksSame 13 = .ok (.getfield 71, 3) := by decide +kernel
theorem d_Fo_looksSame_16 : decode b_Fo_looksSame 16 = .ok (.iload_n 2, 1) := by decide +kernel
theorem d_Fo_looksSame_17 : decode b_Fo_looksSame 17 = .ok (.iaload, 1) := by decide +kernel
theorem d_Fo_looksSame_18 : decode b_Fo_looksSame 18 = .ok (.if_icmp .ne 46, 3) := by decide +kernel
theorem d_Fo_looksSame_21 : decode b_Fo_looksSame 21 = .ok (.aload_n 0, 1) := by decide +kernel
theorem d_Fo_looksSame_22 : decode b_Fo_looksSame 22 = .ok (.getfield 18, 3) := by decide +kernel
theorem d_Fo_looksSame_25 : decode b_Fo_looksSame 25 = .ok (.getfield 74, 3) := by decide +kernel
theorem d_Fo_looksSame_28 : decode b_Fo_looksSame 28 = .ok (.iload_n 1, 1) := by decide +kernel
theorem d_Fo_looksSame_29 : decode b_Fo_looksSame 29 = .ok (.iaload, 1) := by decide +kernel
theorem d_Fo_looksSame_30 : decode b_Fo_looksSame 30 = .ok (.aload_n 0, 1) := by decide +kernel
theorem d_Fo_looksSame_31 : decode b_Fo_looksSame 31 = .ok (.getfield 18, 3) := by decide +kernel
theorem d_Fo_looksSame_34 : decode b_Fo_looksSame 34 = .ok (.getfield 74, 3) := by decide +kernel
theorem d_Fo_looksSame_37 : decode b_Fo_looksSame 37 = .ok (.iload_n 2, 1) := by decide +kernel
theorem d_Fo_looksSame_38 : decode b_Fo_looksSame 38 = .ok (.iaload, 1) := by decide +kernel
theorem d_Fo_looksSame_39 : decode b_Fo_looksSame 39 = .ok (.if_icmp .ne 25, 3) := by decide +kernel
theorem d_Fo_looksSame_42 : decode b_Fo_looksSame 42 = .ok (.aload_n 0, 1) := by decide +kernel
theorem d_Fo_looksSame_43 : decode b_Fo_looksSame 43 = .ok (.iload_n 1, 1) := by decide +kernel
theorem d_Fo_looksSame_44 : decode b_Fo_looksSame 44 = .ok (.iload_n 2, 1) := by decide +kernel
theorem d_Fo_looksSame_45 : decode b_Fo_looksSame 45 = .ok (.invokevirtual 77, 3) := by decide +kernel
theorem d_Fo_looksSame_48 : decode b_Fo_looksSame 48 = .ok (.ifCond .eq 16, 3) := by decide +kernel
theorem d_Fo_looksSame_51 : decode b_Fo_looksSame 51 = .ok (.aload_n 0, 1) := by decide +kernel
theorem d_Fo_looksSame_52 : decode b_Fo_looksSame 52 = .ok (.iload_n 1, 1) := by decide +kernel
theorem d_Fo_looksSame_53 : decode b_Fo_looksSame 53 = .ok (.iload_n 2, 1) := by decide +kernel
theorem d_Fo_looksSame_54 : decode b_Fo_looksSame 54 = .ok (.invokevirtual 80, 3) := by decide +kernel
theorem d_Fo_looksSame_57 : decode b_Fo_looksSame 57 = .ok (.ifCond .eq 7, 3) := by decide +kernel
theorem d_Fo_looksSame_60 : decode b_Fo_looksSame 60 = .ok (.iconst 1, 1) := by decide +kernel
theorem d_Fo_looksSame_61 : decode b_Fo_looksSame 61 = .ok (.goto 4, 3) := by decide +kernel
theorem d_Fo_looksSame_64 : decode b_Fo_looksSame 64 = .ok (.iconst 0, 1) := by decide +kernel
theorem d_Fo_looksSame_65 : decode b_Fo_looksSame 65 = .ok (.ireturn, 1) := by decide +kernel
end
section
set_option maxHeartbeats 4000000 in
set_option maxRecDepth 100000 in
theorem ylp_Rc_spread_16 {C : YC} {r : Int32} {V' : Sto} {k70 : Sto → RT} (hC : YF C R_Rc b_Rc_spread 3 rm_Rc_spread) (hE : YEv C shpC V') (hk70 : ∀ (V1 : Sto), k70 V1 = some (r, V') → Y C shpC 3 70 [(0, .ref (C.a 7))] [] V1) : ∀ (n : Nat) (x2 : Int32) (V : Sto), lp_Rc_spread_16 k70 n x2 V = some (r, V') → Y C shpC 3 16 [(0, .ref (C.a 7)), (2, .int x2)] [] V := by
  intro n
  induction n with
  | zero =>
    intro x2 V h
    rw [lp_Rc_spread_16] at h
    cases h
  | succ n ih =>
    intro x2 V h
    rw [lp_Rc_spread_16] at h
    refine Y_iload_n (pc := 16) hC d_Rc_spread_16 rfl 1 rfl ?_
    refine Y_aload_n (pc := 17) hC d_Rc_spread_17 rfl 0 rfl ?_
    refine Y_getR (pc := 18) hC sc_7 fl_Rc_26 rfl d_Rc_spread_18 ?_
    refine Y_getI (pc := 21) hC sc_2 fl_Rc_45 rfl d_Rc_spread_21 ?_
    refine Y_icmp_ge (pc := 24) hC 70 d_Rc_spread_24 rfl (fun cc_24 => ?_) (fun cc_24 => ?_)
    · have h := ifp cc_24 h
      refine Y_sub (pc := 70) [0] rfl ?_
      exact hk70 _ h
    · have h := ifn cc_24 h
      refine Y_aload_n (pc := 27) hC d_Rc_spread_27 rfl 0 rfl ?_
      refine Y_getR (pc := 28) hC sc_7 fl_Rc_26 rfl d_Rc_spread_28 ?_
      refine Y_getR (pc := 31) hC sc_2 fl_Rc_51 rfl d_Rc_spread_31 ?_
      refine Y_iload_n (pc := 34) hC d_Rc_spread_34 rfl 1 rfl ?_
      obtain ⟨hi, h⟩ := ck_some h
      refine Y_zald (pc := 35) hC sc_20 rfl hi d_Rc_spread_35 ?_
      refine Y_if_eq (pc := 36) hC 64 d_Rc_spread_36 rfl (fun cc_36 => ?_) (fun cc_36 => ?_)
      · have h := ifp cc_36 h
        refine Y_iinc (pc := 64) hC (v := x2 + 1) (L' := [(2, .int (x2 + 1)), (0, .ref (C.a 7))]) d_Rc_spread_64 1 rfl rfl (by decide) rfl ?_
        refine Y_goto (pc := 67) hC 16 d_Rc_spread_67 rfl ?_
        refine Y_sub (pc := 16) [1, 0] rfl ?_
        exact ih _ _ h
      · have h := ifn cc_36 h
        refine Y_aload_n (pc := 39) hC d_Rc_spread_39 rfl 0 rfl ?_
        refine Y_getR (pc := 40) hC sc_7 fl_Rc_22 rfl d_Rc_spread_40 ?_
        refine Y_getR (pc := 43) hC sc_1 fl_Rc_54 rfl d_Rc_spread_43 ?_
        refine Y_aload_n (pc := 46) hC d_Rc_spread_46 rfl 0 rfl ?_
        refine Y_getR (pc := 47) hC sc_7 fl_Rc_26 rfl d_Rc_spread_47 ?_
        refine Y_getR (pc := 50) hC sc_2 fl_Rc_59 rfl d_Rc_spread_50 ?_
        refine Y_iload_n (pc := 53) hC d_Rc_spread_53 rfl 1 rfl ?_
        obtain ⟨hi, h⟩ := ck_some h
        refine Y_iald (pc := 54) hC sc_15 rfl hi d_Rc_spread_54 ?_
        obtain ⟨hi, h⟩ := ck_some h
        refine Y_zald (pc := 55) hC sc_13 rfl hi d_Rc_spread_55 ?_
        refine Y_if_eq (pc := 56) hC 64 d_Rc_spread_56 rfl (fun cc_56 => ?_) (fun cc_56 => ?_)
        · have h := ifp cc_56 h
          refine Y_iinc (pc := 64) hC (v := x2 + 1) (L' := [(2, .int (x2 + 1)), (0, .ref (C.a 7))]) d_Rc_spread_64 1 rfl rfl (by decide) rfl ?_
          refine Y_goto (pc := 67) hC 16 d_Rc_spread_67 rfl ?_
          refine Y_sub (pc := 16) [1, 0] rfl ?_
          exact ih _ _ h
        · have h := ifn cc_56 h
          refine Y_aload_n (pc := 59) hC d_Rc_spread_59 rfl 0 rfl ?_
          refine Y_iload_n (pc := 60) hC d_Rc_spread_60 rfl 1 rfl ?_
          obtain ⟨r3, V4, hc_r3, h⟩ := cl_some h
          refine Y_callVv (pc := 61) hC (c_Rc_find C.l C.D C.cI C.cZ C.a hc_r3) sc_7 cls_Rc ml_Rc_41 mv_Rc_find (by decide) (Nat.le_of_ble_eq_true rfl) rfl d_Rc_spread_61 ?_
          refine Y_iinc (pc := 64) hC (v := x2 + 1) (L' := [(2, .int (x2 + 1)), (0, .ref (C.a 7))]) d_Rc_spread_64 1 rfl rfl (by decide) rfl ?_
          refine Y_goto (pc := 67) hC 16 d_Rc_spread_67 rfl ?_
          refine Y_sub (pc := 16) [1, 0] rfl ?_
          exact ih _ _ h
set_option maxHeartbeats 4000000 in
set_option maxRecDepth 100000 in
theorem ylp_Rc_spread_72 {C : YC} {r : Int32} {V' : Sto} {k102 : Sto → RT} (hC : YF C R_Rc b_Rc_spread 3 rm_Rc_spread) (hE : YEv C shpC V') (hk102 : ∀ (V1 : Sto), k102 V1 = some (r, V') → Y C shpC 3 102 [] [] V1) : ∀ (n : Nat) (x2 : Int32) (V : Sto), lp_Rc_spread_72 k102 n x2 V = some (r, V') → Y C shpC 3 72 [(0, .ref (C.a 7)), (2, .int x2)] [] V := by
  intro n
  induction n with
  | zero =>
    intro x2 V h
    rw [lp_Rc_spread_72] at h
    cases h
  | succ n ih =>
    intro x2 V h
    rw [lp_Rc_spread_72] at h
    refine Y_iload_n (pc := 72) hC d_Rc_spread_72 rfl 1 rfl ?_
    refine Y_aload_n (pc := 73) hC d_Rc_spread_73 rfl 0 rfl ?_
    refine Y_getI (pc := 74) hC sc_7 fl_Rc_62 rfl d_Rc_spread_74 ?_
    refine Y_icmp_ge (pc := 77) hC 102 d_Rc_spread_77 rfl (fun cc_77 => ?_) (fun cc_77 => ?_)
    · have h := ifp cc_77 h
      refine Y_sub (pc := 102) [] rfl ?_
      exact hk102 _ h
    · have h := ifn cc_77 h
      refine Y_iload_n (pc := 80) hC d_Rc_spread_80 rfl 1 rfl ?_
      refine Y_bipush (pc := 81) hC d_Rc_spread_81 kb_96 ?_
      refine Y_icmp_ge (pc := 83) hC 102 d_Rc_spread_83 rfl (fun cc_83 => ?_) (fun cc_83 => ?_)
      · have h := ifp cc_83 h
        refine Y_sub (pc := 102) [] rfl ?_
        exact hk102 _ h
      · have h := ifn cc_83 h
        refine Y_aload_n (pc := 86) hC d_Rc_spread_86 rfl 0 rfl ?_
        refine Y_aload_n (pc := 87) hC d_Rc_spread_87 rfl 0 rfl ?_
        refine Y_getR (pc := 88) hC sc_7 fl_Rc_18 rfl d_Rc_spread_88 ?_
        refine Y_iload_n (pc := 91) hC d_Rc_spread_91 rfl 1 rfl ?_
        obtain ⟨hi, h⟩ := ck_some h
        refine Y_iald (pc := 92) hC sc_45 rfl hi d_Rc_spread_92 ?_
        obtain ⟨r4, V6, hc_r4, h⟩ := cl_some h
        refine Y_callVv (pc := 93) hC (c_Rc_spreadFrom C.l C.D C.cI C.cZ C.a hc_r4) sc_7 cls_Rc ml_Rc_65 mv_Rc_spreadFrom (by decide) (Nat.le_of_ble_eq_true rfl) rfl d_Rc_spread_93 ?_
        refine Y_iinc (pc := 96) hC (v := x2 + 1) (L' := [(2, .int (x2 + 1)), (0, .ref (C.a 7))]) d_Rc_spread_96 1 rfl rfl (by decide) rfl ?_
        refine Y_goto (pc := 99) hC 72 d_Rc_spread_99 rfl ?_
        refine Y_sub (pc := 72) [1, 0] rfl ?_
        exact ih _ _ h
set_option maxHeartbeats 4000000 in
set_option maxRecDepth 100000 in
theorem c_Rc_spread (l : Launch) (D : va_G) (cI cZ : ClassId) (a : Nat → Nat) {V : Sto} {p1 : Int32} {r : Int32} {V' : Sto} (h : f_Rc_spread V p1 = some (r, V')) : YMv l D cI cZ a shpC y_Rc_spread b_Rc_spread 3 rm_Rc_spread [.ref (a 7), .int p1] V V' := by
  refine YMv_of (by decide) (Nat.le_of_ble_eq_true rfl) ?_
  intro C hl hDD hcI hcZ ha hC hE
  subst hl hDD hcI hcZ ha
  show Y C shpC 3 0 [(0, .ref (C.a 7)), (1, .int p1)] [] V
  rw [f_Rc_spread] at h
  refine Y_aload_n (pc := 0) hC d_Rc_spread_0 rfl 0 rfl ?_
  obtain ⟨r1, V1, hc_r1, h⟩ := cl_some h
  refine Y_callVv (pc := 1) hC (c_Rc_forget C.l C.D C.cI C.cZ C.a hc_r1) sc_7 cls_Rc ml_Rc_38 mv_Rc_forget (by decide) (Nat.le_of_ble_eq_true rfl) rfl d_Rc_spread_1 ?_
  refine Y_iload_n (pc := 4) hC d_Rc_spread_4 rfl 1 rfl ?_
  refine Y_iconst (pc := 5) hC d_Rc_spread_5 ki_m1 ?_
  obtain ⟨j1, hj1, h⟩ := jn_some h
  have kj1 : ∀ (V3 : Sto), j1 V3 = some (r, V') → Y C shpC 3 14 [(0, .ref (C.a 7))] [] V3 := by
    intro V3 h
    subst hj1
    dsimp only at h
    refine Y_iconst (pc := 14) hC d_Rc_spread_14 ki_0 ?_
    refine Y_istore_n (pc := 15) hC (L' := [(2, .int 0), (0, .ref (C.a 7))]) d_Rc_spread_15 rfl (by decide) rfl ?_
    refine Y_sub (pc := 16) [1, 0] rfl ?_
    refine ylp_Rc_spread_16 hC hE (fun V5 h => ?_) FU _ _ h
    refine Y_iconst (pc := 70) hC d_Rc_spread_70 ki_0 ?_
    refine Y_istore_n (pc := 71) hC (L' := [(2, .int 0), (0, .ref (C.a 7))]) d_Rc_spread_71 rfl (by decide) rfl ?_
    refine Y_sub (pc := 72) [1, 0] rfl ?_
    refine ylp_Rc_spread_72 hC hE (fun V7 h => ?_) FU _ _ h
    exact Y_vret (pc := 102) hC hE d_Rc_spread_102 h
  refine Y_icmp_eq (pc := 6) hC 14 d_Rc_spread_6 rfl (fun cc_6 => ?_) (fun cc_6 => ?_)
  · have h := ifp cc_6 h
    refine Y_sub (pc := 14) [0] rfl ?_
    exact kj1 _ h
  · have h := ifn cc_6 h
    refine Y_aload_n (pc := 9) hC d_Rc_spread_9 rfl 0 rfl ?_
    refine Y_iload_n (pc := 10) hC d_Rc_spread_10 rfl 1 rfl ?_
    obtain ⟨r2, V2, hc_r2, h⟩ := cl_some h
    refine Y_callVv (pc := 11) hC (c_Rc_find C.l C.D C.cI C.cZ C.a hc_r2) sc_7 cls_Rc ml_Rc_41 mv_Rc_find (by decide) (Nat.le_of_ble_eq_true rfl) rfl d_Rc_spread_11 ?_
    refine Y_sub (pc := 14) [0] rfl ?_
    exact kj1 _ h
set_option maxHeartbeats 4000000 in
set_option maxRecDepth 100000 in
theorem ylp_fill33_5 {C : YC} {r : Int32} {V' : Sto} {x1 : Int32} {x3 : Int32} {k20 : Sto → RT} (hC : YF C "java/util/Arrays" b_fill33 4 rm_fill33) (hE : YEv C shpC V') (hk20 : ∀ (V1 : Sto), k20 V1 = some (r, V') → Y C shpC 4 20 [] [] V1) : ∀ (n : Nat) (x2 : Int32) (V : Sto), lp_fill33_5 x1 x3 k20 n x2 V = some (r, V') → Y C shpC 4 5 [(0, .ref (C.a 33)), (1, .int x1), (2, .int x2), (3, .int x3)] [] V := by
  intro n
  induction n with
  | zero =>
    intro x2 V h
    rw [lp_fill33_5] at h
    cases h
  | succ n ih =>
    intro x2 V h
    rw [lp_fill33_5] at h
    refine Y_iload_n (pc := 5) hC d_fill33_5 rfl 2 rfl ?_
    refine Y_iload_n (pc := 6) hC d_fill33_6 rfl 3 rfl ?_
    refine Y_icmp_ge (pc := 7) hC 20 d_fill33_7 rfl (fun cc_7 => ?_) (fun cc_7 => ?_)
    · have h := ifp cc_7 h
      refine Y_sub (pc := 20) [] rfl ?_
      exact hk20 _ h
    · have h := ifn cc_7 h
      refine Y_aload_n (pc := 10) hC d_fill33_10 rfl 0 rfl ?_
      refine Y_iload_n (pc := 11) hC d_fill33_11 rfl 2 rfl ?_
      refine Y_iload_n (pc := 12) hC d_fill33_12 rfl 1 rfl ?_
      obtain ⟨hi, h⟩ := ck_some h
      obtain ⟨V1, hV1, h⟩ := nm_some h
      refine Y_iast (pc := 13) hC sc_33 (by decide) rfl hi rfl hV1 d_fill33_13 ?_
      refine Y_iinc (pc := 14) hC (v := x2 + 1) (L' := [(2, .int (x2 + 1)), (0, .ref (C.a 33)), (1, .int x1), (3, .int x3)]) d_fill33_14 2 rfl rfl (by decide) rfl ?_
      refine Y_goto (pc := 17) hC 5 d_fill33_17 rfl ?_
      refine Y_sub (pc := 5) [1, 2, 0, 3] rfl ?_
      exact ih _ _ h
set_option maxHeartbeats 4000000 in
set_option maxRecDepth 100000 in
theorem c_fill33 (l : Launch) (D : va_G) (cI cZ : ClassId) (a : Nat → Nat) {V : Sto} {p1 : Int32} {r : Int32} {V' : Sto} (h : f_fill33 V p1 = some (r, V')) : YMv l D cI cZ a shpC y_fill33 b_fill33 4 rm_fill33 [.ref (a 33), .int p1] V V' := by
  refine YMv_of (by decide) (Nat.le_of_ble_eq_true rfl) ?_
  intro C hl hDD hcI hcZ ha hC hE
  subst hl hDD hcI hcZ ha
  show Y C shpC 4 0 [(0, .ref (C.a 33)), (1, .int p1)] [] V
  rw [f_fill33] at h
  refine Y_iconst (pc := 0) hC d_fill33_0 ki_0 ?_
  refine Y_istore_n (pc := 1) hC (L' := [(2, .int 0), (0, .ref (C.a 33)), (1, .int p1)]) d_fill33_1 rfl (by decide) rfl ?_
  refine Y_aload_n (pc := 2) hC d_fill33_2 rfl 1 rfl ?_
  refine Y_alen (pc := 3) hC sc_33 rfl d_fill33_3 ?_
  refine Y_istore_n (pc := 4) hC (L' := [(3, .int (nI 97)), (2, .int 0), (0, .ref (C.a 33)), (1, .int p1)]) d_fill33_4 rfl (by decide) rfl ?_
  refine Y_sub (pc := 5) [2, 3, 1, 0] rfl ?_
  refine ylp_fill33_5 hC hE (fun V2 h => ?_) FU _ _ h
  exact Y_vret (pc := 20) hC hE d_fill33_20 h
set_option maxHeartbeats 4000000 in
set_option maxRecDepth 100000 in
theorem ylp_Re_putInOrder_10 {C : YC} {r : Int32} {V' : Sto} {x1 : Int32} {k41 : Sto → RT} (hC : YF C R_Re b_Re_putInOrder 4 rm_Re_putInOrder) (hE : YEv C shpC V') (hk41 : ∀ (V1 : Sto), k41 V1 = some (r, V') → Y C shpC 4 41 [(0, .ref (C.a 4)), (1, .int x1)] [] V1) : ∀ (n : Nat) (x2 : Int32) (V : Sto), lp_Re_putInOrder_10 k41 n x2 V = some (r, V') → Y C shpC 4 10 [(0, .ref (C.a 4)), (1, .int x1), (2, .int x2)] [] V := by
  intro n
  induction n with
  | zero =>
    intro x2 V h
    rw [lp_Re_putInOrder_10] at h
    cases h
  | succ n ih =>
    intro x2 V h
    rw [lp_Re_putInOrder_10] at h
    refine Y_iload_n (pc := 10) hC d_Re_putInOrder_10 rfl 2 rfl ?_
    refine Y_aload_n (pc := 11) hC d_Re_putInOrder_11 rfl 0 rfl ?_
    refine Y_getI (pc := 12) hC sc_4 fl_Re_36 rfl d_Re_putInOrder_12 ?_
    refine Y_icmp_ge (pc := 15) hC 41 d_Re_putInOrder_15 rfl (fun cc_15 => ?_) (fun cc_15 => ?_)
    · have h := ifp cc_15 h
      refine Y_sub (pc := 41) [0, 1] rfl ?_
      exact hk41 _ h
    · have h := ifn cc_15 h
      refine Y_aload_n (pc := 18) hC d_Re_putInOrder_18 rfl 0 rfl ?_
      refine Y_getR (pc := 19) hC sc_4 fl_Re_30 rfl d_Re_putInOrder_19 ?_
      refine Y_aload_n (pc := 22) hC d_Re_putInOrder_22 rfl 0 rfl ?_
      refine Y_getR (pc := 23) hC sc_4 fl_Re_9 rfl d_Re_putInOrder_23 ?_
      refine Y_iload_n (pc := 26) hC d_Re_putInOrder_26 rfl 2 rfl ?_
      obtain ⟨hi, h⟩ := ck_some h
      refine Y_iald (pc := 27) hC sc_27 rfl hi d_Re_putInOrder_27 ?_
      refine Y_iconst (pc := 28) hC d_Re_putInOrder_28 ki_1 ?_
      refine Y_iadd (pc := 29) hC d_Re_putInOrder_29 ?_
      refine Y_dup2 (pc := 30) hC d_Re_putInOrder_30 rfl rfl ?_
      obtain ⟨hi, h⟩ := ck_some h
      refine Y_iald (pc := 31) hC sc_33 rfl hi d_Re_putInOrder_31 ?_
      refine Y_iconst (pc := 32) hC d_Re_putInOrder_32 ki_1 ?_
      refine Y_iadd (pc := 33) hC d_Re_putInOrder_33 ?_
      obtain ⟨hi, h⟩ := ck_some h
      obtain ⟨V2, hV2, h⟩ := nm_some h
      refine Y_iast (pc := 34) hC sc_33 (by decide) rfl hi rfl hV2 d_Re_putInOrder_34 ?_
      refine Y_iinc (pc := 35) hC (v := x2 + 1) (L' := [(2, .int (x2 + 1)), (0, .ref (C.a 4)), (1, .int x1)]) d_Re_putInOrder_35 2 rfl rfl (by decide) rfl ?_
      refine Y_goto (pc := 38) hC 10 d_Re_putInOrder_38 rfl ?_
      refine Y_sub (pc := 10) [1, 2, 0] rfl ?_
      exact ih _ _ h
set_option maxHeartbeats 4000000 in
set_option maxRecDepth 100000 in
theorem ylp_Re_putInOrder_43 {C : YC} {r : Int32} {V' : Sto} {x1 : Int32} {k83 : Sto → RT} (hC : YF C R_Re b_Re_putInOrder 4 rm_Re_putInOrder) (hE : YEv C shpC V') (hk83 : ∀ (V1 : Sto), k83 V1 = some (r, V') → Y C shpC 4 83 [(0, .ref (C.a 4))] [] V1) : ∀ (n : Nat) (x2 : Int32) (V : Sto), lp_Re_putInOrder_43 x1 k83 n x2 V = some (r, V') → Y C shpC 4 43 [(0, .ref (C.a 4)), (1, .int x1), (2, .int x2)] [] V := by
  intro n
  induction n with
  | zero =>
    intro x2 V h
    rw [lp_Re_putInOrder_43] at h
    cases h
  | succ n ih =>
    intro x2 V h
    rw [lp_Re_putInOrder_43] at h
    refine Y_iload_n (pc := 43) hC d_Re_putInOrder_43 rfl 2 rfl ?_
    refine Y_iload_n (pc := 44) hC d_Re_putInOrder_44 rfl 1 rfl ?_
    refine Y_icmp_ge (pc := 45) hC 83 d_Re_putInOrder_45 rfl (fun cc_45 => ?_) (fun cc_45 => ?_)
    · have h := ifp cc_45 h
      refine Y_sub (pc := 83) [0] rfl ?_
      exact hk83 _ h
    · have h := ifn cc_45 h
      refine Y_aload_n (pc := 48) hC d_Re_putInOrder_48 rfl 0 rfl ?_
      refine Y_getR (pc := 49) hC sc_4 fl_Re_30 rfl d_Re_putInOrder_49 ?_
      refine Y_iload_n (pc := 52) hC d_Re_putInOrder_52 rfl 2 rfl ?_
      refine Y_iconst (pc := 53) hC d_Re_putInOrder_53 ki_1 ?_
      refine Y_iadd (pc := 54) hC d_Re_putInOrder_54 ?_
      refine Y_dup2 (pc := 55) hC d_Re_putInOrder_55 rfl rfl ?_
      obtain ⟨hi, h⟩ := ck_some h
      refine Y_iald (pc := 56) hC sc_33 rfl hi d_Re_putInOrder_56 ?_
      refine Y_aload_n (pc := 57) hC d_Re_putInOrder_57 rfl 0 rfl ?_
      refine Y_getR (pc := 58) hC sc_4 fl_Re_30 rfl d_Re_putInOrder_58 ?_
      refine Y_iload_n (pc := 61) hC d_Re_putInOrder_61 rfl 2 rfl ?_
      obtain ⟨hi, h⟩ := ck_some h
      refine Y_iald (pc := 62) hC sc_33 rfl hi d_Re_putInOrder_62 ?_
      refine Y_iadd (pc := 63) hC d_Re_putInOrder_63 ?_
      obtain ⟨hi, h⟩ := ck_some h
      obtain ⟨V4, hV4, h⟩ := nm_some h
      refine Y_iast (pc := 64) hC sc_33 (by decide) rfl hi rfl hV4 d_Re_putInOrder_64 ?_
      refine Y_aload_n (pc := 65) hC d_Re_putInOrder_65 rfl 0 rfl ?_
      refine Y_getR (pc := 66) hC sc_4 fl_Re_33 rfl d_Re_putInOrder_66 ?_
      refine Y_iload_n (pc := 69) hC d_Re_putInOrder_69 rfl 2 rfl ?_
      refine Y_aload_n (pc := 70) hC d_Re_putInOrder_70 rfl 0 rfl ?_
      refine Y_getR (pc := 71) hC sc_4 fl_Re_30 rfl d_Re_putInOrder_71 ?_
      refine Y_iload_n (pc := 74) hC d_Re_putInOrder_74 rfl 2 rfl ?_
      obtain ⟨hi, h⟩ := ck_some h
      refine Y_iald (pc := 75) hC sc_33 rfl hi d_Re_putInOrder_75 ?_
      obtain ⟨hi, h⟩ := ck_some h
      obtain ⟨V5, hV5, h⟩ := nm_some h
      refine Y_iast (pc := 76) hC sc_34 (by decide) rfl hi rfl hV5 d_Re_putInOrder_76 ?_
      refine Y_iinc (pc := 77) hC (v := x2 + 1) (L' := [(2, .int (x2 + 1)), (0, .ref (C.a 4)), (1, .int x1)]) d_Re_putInOrder_77 2 rfl rfl (by decide) rfl ?_
      refine Y_goto (pc := 80) hC 43 d_Re_putInOrder_80 rfl ?_
      refine Y_sub (pc := 43) [1, 2, 0] rfl ?_
      exact ih _ _ h
set_option maxHeartbeats 4000000 in
set_option maxRecDepth 100000 in
theorem ylp_Re_putInOrder_85 {C : YC} {r : Int32} {V' : Sto} {k128 : Sto → RT} (hC : YF C R_Re b_Re_putInOrder 4 rm_Re_putInOrder) (hE : YEv C shpC V') (hk128 : ∀ (V1 : Sto), k128 V1 = some (r, V') → Y C shpC 4 128 [] [] V1) : ∀ (n : Nat) (x2 : Int32) (V : Sto), lp_Re_putInOrder_85 k128 n x2 V = some (r, V') → Y C shpC 4 85 [(0, .ref (C.a 4)), (2, .int x2)] [] V := by
  intro n
  induction n with
  | zero =>
    intro x2 V h
    rw [lp_Re_putInOrder_85] at h
    cases h
  | succ n ih =>
    intro x2 V h
    rw [lp_Re_putInOrder_85] at h
    refine Y_iload_n (pc := 85) hC d_Re_putInOrder_85 rfl 1 rfl ?_
    refine Y_aload_n (pc := 86) hC d_Re_putInOrder_86 rfl 0 rfl ?_
    refine Y_getI (pc := 87) hC sc_4 fl_Re_36 rfl d_Re_putInOrder_87 ?_
    refine Y_icmp_ge (pc := 90) hC 128 d_Re_putInOrder_90 rfl (fun cc_90 => ?_) (fun cc_90 => ?_)
    · have h := ifp cc_90 h
      refine Y_sub (pc := 128) [] rfl ?_
      exact hk128 _ h
    · have h := ifn cc_90 h
      refine Y_aload_n (pc := 93) hC d_Re_putInOrder_93 rfl 0 rfl ?_
      refine Y_getR (pc := 94) hC sc_4 fl_Re_9 rfl d_Re_putInOrder_94 ?_
      refine Y_iload_n (pc := 97) hC d_Re_putInOrder_97 rfl 1 rfl ?_
      obtain ⟨hi, h⟩ := ck_some h
      refine Y_iald (pc := 98) hC sc_27 rfl hi d_Re_putInOrder_98 ?_
      refine Y_istore_n (pc := 99) hC (L' := [(3, .int (V 27 x2.toNatClampNeg)), (0, .ref (C.a 4)), (2, .int x2)]) d_Re_putInOrder_99 rfl (by decide) rfl ?_
      refine Y_aload_n (pc := 100) hC d_Re_putInOrder_100 rfl 1 rfl ?_
      refine Y_getR (pc := 101) hC sc_4 fl_Re_27 rfl d_Re_putInOrder_101 ?_
      refine Y_aload_n (pc := 104) hC d_Re_putInOrder_104 rfl 1 rfl ?_
      refine Y_getR (pc := 105) hC sc_4 fl_Re_33 rfl d_Re_putInOrder_105 ?_
      refine Y_iload_n (pc := 108) hC d_Re_putInOrder_108 rfl 0 rfl ?_
      obtain ⟨hi, h⟩ := ck_some h
      refine Y_iald (pc := 109) hC sc_34 rfl hi d_Re_putInOrder_109 ?_
      refine Y_iload_n (pc := 110) hC d_Re_putInOrder_110 rfl 2 rfl ?_
      obtain ⟨hi, h⟩ := ck_some h
      obtain ⟨V7, hV7, h⟩ := nm_some h
      refine Y_iast (pc := 111) hC sc_32 (by decide) rfl hi rfl hV7 d_Re_putInOrder_111 ?_
      refine Y_aload_n (pc := 112) hC d_Re_putInOrder_112 rfl 1 rfl ?_
      refine Y_getR (pc := 113) hC sc_4 fl_Re_33 rfl d_Re_putInOrder_113 ?_
      refine Y_iload_n (pc := 116) hC d_Re_putInOrder_116 rfl 0 rfl ?_
      refine Y_dup2 (pc := 117) hC d_Re_putInOrder_117 rfl rfl ?_
      obtain ⟨hi, h⟩ := ck_some h
      refine Y_iald (pc := 118) hC sc_34 rfl hi d_Re_putInOrder_118 ?_
      refine Y_iconst (pc := 119) hC d_Re_putInOrder_119 ki_1 ?_
      refine Y_iadd (pc := 120) hC d_Re_putInOrder_120 ?_
      obtain ⟨hi, h⟩ := ck_some h
      obtain ⟨V8, hV8, h⟩ := nm_some h
      refine Y_iast (pc := 121) hC sc_34 (by decide) rfl hi rfl hV8 d_Re_putInOrder_121 ?_
      refine Y_iinc (pc := 122) hC (v := x2 + 1) (L' := [(2, .int (x2 + 1)), (3, .int (V 27 x2.toNatClampNeg)), (0, .ref (C.a 4))]) d_Re_putInOrder_122 2 rfl rfl (by decide) rfl ?_
      refine Y_goto (pc := 125) hC 85 d_Re_putInOrder_125 rfl ?_
      refine Y_sub (pc := 85) [2, 0] rfl ?_
      exact ih _ _ h
set_option maxHeartbeats 4000000 in
set_option maxRecDepth 100000 in
theorem c_Re_putInOrder (l : Launch) (D : va_G) (cI cZ : ClassId) (a : Nat → Nat) {V : Sto} {p1 : Int32} {r : Int32} {V' : Sto} (h : f_Re_putInOrder V p1 = some (r, V')) : YMv l D cI cZ a shpC y_Re_putInOrder b_Re_putInOrder 4 rm_Re_putInOrder [.ref (a 4), .int p1] V V' := by
  refine YMv_of (by decide) (Nat.le_of_ble_eq_true rfl) ?_
  intro C hl hDD hcI hcZ ha hC hE
  subst hl hDD hcI hcZ ha
  show Y C shpC 4 0 [(0, .ref (C.a 4)), (1, .int p1)] [] V
  rw [f_Re_putInOrder] at h
  refine Y_aload_n (pc := 0) hC d_Re_putInOrder_0 rfl 0 rfl ?_
  refine Y_getR (pc := 1) hC sc_4 fl_Re_30 rfl d_Re_putInOrder_1 ?_
  refine Y_iconst (pc := 4) hC d_Re_putInOrder_4 ki_0 ?_
  obtain ⟨r1, V1, hc_r1, h⟩ := cl_some h
  refine Y_callSv (pc := 5) hC (c_fill33 C.l C.D C.cI C.cZ C.a hc_r1) ml_Re_40 ms_fill33 (by decide) (Nat.le_of_ble_eq_true rfl) rfl d_Re_putInOrder_5 ?_
  refine Y_iconst (pc := 8) hC d_Re_putInOrder_8 ki_0 ?_
  refine Y_istore_n (pc := 9) hC (L' := [(2, .int 0), (0, .ref (C.a 4)), (1, .int p1)]) d_Re_putInOrder_9 rfl (by decide) rfl ?_
  refine Y_sub (pc := 10) [1, 2, 0] rfl ?_
  refine ylp_Re_putInOrder_10 hC hE (fun V3 h => ?_) FU _ _ h
  refine Y_iconst (pc := 41) hC d_Re_putInOrder_41 ki_0 ?_
  refine Y_istore_n (pc := 42) hC (L' := [(2, .int 0), (0, .ref (C.a 4)), (1, .int p1)]) d_Re_putInOrder_42 rfl (by decide) rfl ?_
  refine Y_sub (pc := 43) [1, 2, 0] rfl ?_
  refine ylp_Re_putInOrder_43 hC hE (fun V6 h => ?_) FU _ _ h
  refine Y_iconst (pc := 83) hC d_Re_putInOrder_83 ki_0 ?_
  refine Y_istore_n (pc := 84) hC (L' := [(2, .int 0), (0, .ref (C.a 4))]) d_Re_putInOrder_84 rfl (by decide) rfl ?_
  refine Y_sub (pc := 85) [1, 0] rfl ?_
  refine ylp_Re_putInOrder_85 hC hE (fun V9 h => ?_) FU _ _ h
  exact Y_vret (pc := 128) hC hE d_Re_putInOrder_128 h
set_option maxHeartbeats 4000000 in
set_option maxRecDepth 100000 in
theorem c_Ly_fails (l : Launch) (D : va_G) (cI cZ : ClassId) (a : Nat → Nat) {V : Sto} {p1 p2 p3 : Int32} {r : Int32} {V' : Sto} (h : f_Ly_fails V p1 p2 p3 = some (r, V')) : YMi l D cI cZ a shpC y_Ly_fails b_Ly_fails 4 (some .boolean) rm_Ly_fails [.ref (a 0), .int p1, .int p2, .int p3] V r V' := by
  refine YMi_of (by decide) (Nat.le_of_ble_eq_true rfl) ?_
  intro C hl hDD hcI hcZ ha hC hE
  subst hl hDD hcI hcZ ha
  show Y C shpC 4 0 [(0, .ref (C.a 0)), (1, .int p1), (2, .int p2), (3, .int p3)] [] V
  rw [f_Ly_fails] at h
  refine Y_aload_n (pc := 0) hC d_Ly_fails_0 rfl 0 rfl ?_
  refine Y_iload_n (pc := 1) hC d_Ly_fails_1 rfl 1 rfl ?_
  obtain ⟨V1, hV1, h⟩ := nm_some h
  refine Y_put (pc := 2) hC sc_0 fl_Ly_249 rfl (by decide) fp_Ly ft_Ly_15 rfl rfl hV1 d_Ly_fails_2 ?_
  refine Y_aload_n (pc := 5) hC d_Ly_fails_5 rfl 0 rfl ?_
  refine Y_iload_n (pc := 6) hC d_Ly_fails_6 rfl 2 rfl ?_
  obtain ⟨V2, hV2, h⟩ := nm_some h
  refine Y_put (pc := 7) hC sc_0 fl_Ly_102 rfl (by decide) fp_Ly ft_Ly_16 rfl rfl hV2 d_Ly_fails_7 ?_
  refine Y_aload_n (pc := 10) hC d_Ly_fails_10 rfl 0 rfl ?_
  refine Y_iload_n (pc := 11) hC d_Ly_fails_11 rfl 3 rfl ?_
  obtain ⟨V3, hV3, h⟩ := nm_some h
  refine Y_put (pc := 12) hC sc_0 fl_Ly_105 rfl (by decide) fp_Ly ft_Ly_17 rfl rfl hV3 d_Ly_fails_12 ?_
  refine Y_iconst (pc := 15) hC d_Ly_fails_15 ki_0 ?_
  exact Y_zret (pc := 16) hC hE d_Ly_fails_16 rfl h
set_option maxHeartbeats 4000000 in
set_option maxRecDepth 100000 in
theorem c_Ly_linksNames (l : Launch) (D : va_G) (cI cZ : ClassId) (a : Nat → Nat) {V : Sto} {r : Int32} {V' : Sto} (h : f_Ly_linksNames V = some (r, V')) : YMi l D cI cZ a shpC y_Ly_linksNames b_Ly_linksNames 2 (some .boolean) rm_Ly_linksNames [.ref (a 0)] V r V' := by
  refine YMi_of (by decide) (Nat.le_of_ble_eq_true rfl) ?_
  intro C hl hDD hcI hcZ ha hC hE
  subst hl hDD hcI hcZ ha
  show Y C shpC 2 0 [(0, .ref (C.a 0))] [] V
  rw [f_Ly_linksNames] at h
  refine Y_aload_n (pc := 0) hC d_Ly_linksNames_0 rfl 0 rfl ?_
  refine Y_getR (pc := 1) hC sc_0 fl_Ly_33 rfl d_Ly_linksNames_1 ?_
  refine Y_aload_n (pc := 4) hC d_Ly_linksNames_4 rfl 0 rfl ?_
  refine Y_getR (pc := 5) hC sc_0 fl_Ly_19 rfl d_Ly_linksNames_5 ?_
  refine Y_getI (pc := 8) hC sc_2 fl_Ly_145 rfl d_Ly_linksNames_8 ?_
  obtain ⟨r1, V1, hc_r1, h⟩ := cl_some h
  refine Y_callVv (pc := 11) hC (c_Re_putInOrder C.l C.D C.cI C.cZ C.a hc_r1) sc_4 cls_Re ml_Ly_328 mv_Re_putInOrder (by decide) (Nat.le_of_ble_eq_true rfl) rfl d_Ly_linksNames_11 ?_
  refine Y_aload_n (pc := 14) hC d_Ly_linksNames_14 rfl 0 rfl ?_
  refine Y_getR (pc := 15) hC sc_0 fl_Ly_42 rfl d_Ly_linksNames_15 ?_
  refine Y_aload_n (pc := 18) hC d_Ly_linksNames_18 rfl 0 rfl ?_
  refine Y_getI (pc := 19) hC sc_0 fl_Ly_98 rfl d_Ly_linksNames_19 ?_
  refine Y_aload_n (pc := 22) hC d_Ly_linksNames_22 rfl 0 rfl ?_
  refine Y_getI (pc := 23) hC sc_0 fl_Ly_227 rfl d_Ly_linksNames_23 ?_
  obtain ⟨r2, V2, hc_r2, h⟩ := cl_some h
  refine Y_callVv (pc := 26) hC (c_Ar_bringIn C.l C.D C.cI C.cZ C.a hc_r2) sc_5 cls_Ar ml_Ly_331 mv_Ar_bringIn (by decide) (Nat.le_of_ble_eq_true rfl) rfl d_Ly_linksNames_26 ?_
  refine Y_aload_n (pc := 29) hC d_Ly_linksNames_29 rfl 0 rfl ?_
  refine Y_getR (pc := 30) hC sc_0 fl_Ly_49 rfl d_Ly_linksNames_30 ?_
  obtain ⟨r3, V3, hc_r3, h⟩ := cl_some h
  refine Y_callVv (pc := 33) hC (c_Na_settle C.l C.D C.cI C.cZ C.a hc_r3) sc_6 cls_Na ml_Ly_335 mv_Na_settle (by decide) (Nat.le_of_ble_eq_true rfl) rfl d_Ly_linksNames_33 ?_
  refine Y_aload_n (pc := 36) hC d_Ly_linksNames_36 rfl 0 rfl ?_
  refine Y_getR (pc := 37) hC sc_0 fl_Ly_49 rfl d_Ly_linksNames_37 ?_
  refine Y_getI (pc := 40) hC sc_6 fl_Ly_338 rfl d_Ly_linksNames_40 ?_
  refine Y_iconst (pc := 43) hC d_Ly_linksNames_43 ki_m1 ?_
  refine Y_icmp_eq (pc := 44) hC 61 d_Ly_linksNames_44 rfl (fun cc_44 => ?_) (fun cc_44 => ?_)
  · have h := ifp cc_44 h
    refine Y_aload_n (pc := 61) hC d_Ly_linksNames_61 rfl 0 rfl ?_
    refine Y_getI (pc := 62) hC sc_0 fl_Ly_98 rfl d_Ly_linksNames_62 ?_
    refine Y_iconst (pc := 65) hC d_Ly_linksNames_65 ki_m1 ?_
    refine Y_icmp_eq (pc := 66) hC 94 d_Ly_linksNames_66 rfl (fun cc_66 => ?_) (fun cc_66 => ?_)
    · have h := ifp cc_66 h
      refine Y_aload_n (pc := 94) hC d_Ly_linksNames_94 rfl 0 rfl ?_
      refine Y_getR (pc := 95) hC sc_0 fl_Ly_58 rfl d_Ly_linksNames_95 ?_
      refine Y_aload_n (pc := 98) hC d_Ly_linksNames_98 rfl 0 rfl ?_
      refine Y_getI (pc := 99) hC sc_0 fl_Ly_98 rfl d_Ly_linksNames_99 ?_
      refine Y_iconst (pc := 102) hC d_Ly_linksNames_102 ki_m1 ?_
      obtain ⟨j1, hj1, h⟩ := jn_some h
      have kj1 : ∀ (z1 : Int32) (V5 : Sto), j1 z1 V5 = some (r, V') → Y C shpC 2 121 [(0, .ref (C.a 0))] [.int z1, .ref (C.a 7)] V5 := by
        intro z1 V5 h
        subst hj1
        dsimp only at h
        obtain ⟨r5, V6, hc_r5, h⟩ := cl_some h
        refine Y_callVv (pc := 121) hC (c_Rc_spread C.l C.D C.cI C.cZ C.a hc_r5) sc_7 cls_Rc ml_Ly_350 mv_Rc_spread (by decide) (Nat.le_of_ble_eq_true rfl) rfl d_Ly_linksNames_121 ?_
        refine Y_aload_n (pc := 124) hC d_Ly_linksNames_124 rfl 0 rfl ?_
        refine Y_getR (pc := 125) hC sc_0 fl_Ly_58 rfl d_Ly_linksNames_125 ?_
        obtain ⟨r6, V7, hc_r6, h⟩ := cl_some h
        refine Y_callV (pc := 128) hC (c_Rc_firstMissing C.l C.D C.cI C.cZ C.a hc_r6) sc_7 cls_Rc ml_Ly_353 mv_Rc_firstMissing (by decide) (Nat.le_of_ble_eq_true rfl) rfl d_Ly_linksNames_128 ?_
        refine Y_istore_n (pc := 131) hC (L' := [(1, .int r6), (0, .ref (C.a 0))]) d_Ly_linksNames_131 rfl (by decide) rfl ?_
        refine Y_iload_n (pc := 132) hC d_Ly_linksNames_132 rfl 0 rfl ?_
        refine Y_iconst (pc := 133) hC d_Ly_linksNames_133 ki_m1 ?_
        refine Y_icmp_eq (pc := 134) hC 161 d_Ly_linksNames_134 rfl (fun cc_134 => ?_) (fun cc_134 => ?_)
        · have h := ifp cc_134 h
          refine Y_iconst (pc := 161) hC d_Ly_linksNames_161 ki_1 ?_
          exact Y_zret (pc := 162) hC hE d_Ly_linksNames_162 rfl h
        · have h := ifn cc_134 h
          refine Y_aload_n (pc := 137) hC d_Ly_linksNames_137 rfl 1 rfl ?_
          refine Y_iconst (pc := 138) hC d_Ly_linksNames_138 ki_2 ?_
          refine Y_aload_n (pc := 139) hC d_Ly_linksNames_139 rfl 1 rfl ?_
          refine Y_getR (pc := 140) hC sc_0 fl_Ly_26 rfl d_Ly_linksNames_140 ?_
          refine Y_getR (pc := 143) hC sc_3 fl_Ly_356 rfl d_Ly_linksNames_143 ?_
          refine Y_aload_n (pc := 146) hC d_Ly_linksNames_146 rfl 1 rfl ?_
          refine Y_getR (pc := 147) hC sc_0 fl_Ly_33 rfl d_Ly_linksNames_147 ?_
          refine Y_getR (pc := 150) hC sc_4 fl_Ly_359 rfl d_Ly_linksNames_150 ?_
          refine Y_iload_n (pc := 153) hC d_Ly_linksNames_153 rfl 0 rfl ?_
          obtain ⟨hi, h⟩ := ck_some h
          refine Y_iald (pc := 154) hC sc_30 rfl hi d_Ly_linksNames_154 ?_
          obtain ⟨hi, h⟩ := ck_some h
          refine Y_iald (pc := 155) hC sc_22 rfl hi d_Ly_linksNames_155 ?_
          refine Y_iload_n (pc := 156) hC d_Ly_linksNames_156 rfl 0 rfl ?_
          obtain ⟨r7, V8, hc_r7, h⟩ := cl_some h
          refine Y_callV (pc := 157) hC (c_Ly_fails C.l C.D C.cI C.cZ C.a hc_r7) sc_0 cls_Ly ml_Ly_341 mv_Ly_fails (by decide) (Nat.le_of_ble_eq_true rfl) rfl d_Ly_linksNames_157 ?_
          obtain ⟨hbb, h⟩ := ck_some h
          exact Y_zret (pc := 160) hC hE d_Ly_linksNames_160 hbb h
      refine Y_icmp_ne (pc := 103) hC 110 d_Ly_linksNames_103 rfl (fun cc_103 => ?_) (fun cc_103 => ?_)
      · have h := ifn cc_103 h
        refine Y_aload_n (pc := 110) hC d_Ly_linksNames_110 rfl 0 rfl ?_
        refine Y_getR (pc := 111) hC sc_0 fl_Ly_49 rfl d_Ly_linksNames_111 ?_
        refine Y_aload_n (pc := 114) hC d_Ly_linksNames_114 rfl 0 rfl ?_
        refine Y_getI (pc := 115) hC sc_0 fl_Ly_98 rfl d_Ly_linksNames_115 ?_
        obtain ⟨r4, V4, hc_r4, h⟩ := cl_some h
        refine Y_callV (pc := 118) hC (c_Na_sectionOf C.l C.D C.cI C.cZ C.a hc_r4) sc_6 cls_Na ml_Ly_347 mv_Na_sectionOf (by decide) (Nat.le_of_ble_eq_true rfl) rfl d_Ly_linksNames_118 ?_
        refine Y_sub (pc := 121) [0] rfl ?_
        exact kj1 _ _ h
      · have h := ifp cc_103 h
        refine Y_iconst (pc := 106) hC d_Ly_linksNames_106 ki_m1 ?_
        refine Y_goto (pc := 107) hC 121 d_Ly_linksNames_107 rfl ?_
        refine Y_sub (pc := 121) [0] rfl ?_
        exact kj1 _ _ h
    · have h := ifn cc_66 h
      refine Y_aload_n (pc := 69) hC d_Ly_linksNames_69 rfl 0 rfl ?_
      refine Y_getR (pc := 70) hC sc_0 fl_Ly_49 rfl d_Ly_linksNames_70 ?_
      refine Y_aload_n (pc := 73) hC d_Ly_linksNames_73 rfl 0 rfl ?_
      refine Y_getI (pc := 74) hC sc_0 fl_Ly_98 rfl d_Ly_linksNames_74 ?_
      obtain ⟨r8, V9, hc_r8, h⟩ := cl_some h
      refine Y_callV (pc := 77) hC (c_Na_isDefined C.l C.D C.cI C.cZ C.a hc_r8) sc_6 cls_Na ml_Ly_344 mv_Na_isDefined (by decide) (Nat.le_of_ble_eq_true rfl) rfl d_Ly_linksNames_77 ?_
      refine Y_if_ne (pc := 80) hC 94 d_Ly_linksNames_80 rfl (fun cc_80 => ?_) (fun cc_80 => ?_)
      · have h := ifn cc_80 h
        refine Y_aload_n (pc := 94) hC d_Ly_linksNames_94 rfl 0 rfl ?_
        refine Y_getR (pc := 95) hC sc_0 fl_Ly_58 rfl d_Ly_linksNames_95 ?_
        refine Y_aload_n (pc := 98) hC d_Ly_linksNames_98 rfl 0 rfl ?_
        refine Y_getI (pc := 99) hC sc_0 fl_Ly_98 rfl d_Ly_linksNames_99 ?_
        refine Y_iconst (pc := 102) hC d_Ly_linksNames_102 ki_m1 ?_
        obtain ⟨j2, hj2, h⟩ := jn_some h
        have kj2 : ∀ (z2 : Int32) (V11 : Sto), j2 z2 V11 = some (r, V') → Y C shpC 2 121 [(0, .ref (C.a 0))] [.int z2, .ref (C.a 7)] V11 := by
          intro z2 V11 h
          subst hj2
          dsimp only at h
          obtain ⟨r10, V12, hc_r10, h⟩ := cl_some h
          refine Y_callVv (pc := 121) hC (c_Rc_spread C.l C.D C.cI C.cZ C.a hc_r10) sc_7 cls_Rc ml_Ly_350 mv_Rc_spread (by decide) (Nat.le_of_ble_eq_true rfl) rfl d_Ly_linksNames_121 ?_
          refine Y_aload_n (pc := 124) hC d_Ly_linksNames_124 rfl 0 rfl ?_
          refine Y_getR (pc := 125) hC sc_0 fl_Ly_58 rfl d_Ly_linksNames_125 ?_
          obtain ⟨r11, V13, hc_r11, h⟩ := cl_some h
          refine Y_callV (pc := 128) hC (c_Rc_firstMissing C.l C.D C.cI C.cZ C.a hc_r11) sc_7 cls_Rc ml_Ly_353 mv_Rc_firstMissing (by decide) (Nat.le_of_ble_eq_true rfl) rfl d_Ly_linksNames_128 ?_
          refine Y_istore_n (pc := 131) hC (L' := [(1, .int r11), (0, .ref (C.a 0))]) d_Ly_linksNames_131 rfl (by decide) rfl ?_
          refine Y_iload_n (pc := 132) hC d_Ly_linksNames_132 rfl 0 rfl ?_
          refine Y_iconst (pc := 133) hC d_Ly_linksNames_133 ki_m1 ?_
          refine Y_icmp_eq (pc := 134) hC 161 d_Ly_linksNames_134 rfl (fun cc_134 => ?_) (fun cc_134 => ?_)
          · have h := ifp cc_134 h
            refine Y_iconst (pc := 161) hC d_Ly_linksNames_161 ki_1 ?_
            exact Y_zret (pc := 162) hC hE d_Ly_linksNames_162 rfl h
          · have h := ifn cc_134 h
            refine Y_aload_n (pc := 137) hC d_Ly_linksNames_137 rfl 1 rfl ?_
            refine Y_iconst (pc := 138) hC d_Ly_linksNames_138 ki_2 ?_
            refine Y_aload_n (pc := 139) hC d_Ly_linksNames_139 rfl 1 rfl ?_
            refine Y_getR (pc := 140) hC sc_0 fl_Ly_26 rfl d_Ly_linksNames_140 ?_
            refine Y_getR (pc := 143) hC sc_3 fl_Ly_356 rfl d_Ly_linksNames_143 ?_
            refine Y_aload_n (pc := 146) hC d_Ly_linksNames_146 rfl 1 rfl ?_
            refine Y_getR (pc := 147) hC sc_0 fl_Ly_33 rfl d_Ly_linksNames_147 ?_
            refine Y_getR (pc := 150) hC sc_4 fl_Ly_359 rfl d_Ly_linksNames_150 ?_
            refine Y_iload_n (pc := 153) hC d_Ly_linksNames_153 rfl 0 rfl ?_
            obtain ⟨hi, h⟩ := ck_some h
            refine Y_iald (pc := 154) hC sc_30 rfl hi d_Ly_linksNames_154 ?_
            obtain ⟨hi, h⟩ := ck_some h
            refine Y_iald (pc := 155) hC sc_22 rfl hi d_Ly_linksNames_155 ?_
            refine Y_iload_n (pc := 156) hC d_Ly_linksNames_156 rfl 0 rfl ?_
            obtain ⟨r12, V14, hc_r12, h⟩ := cl_some h
            refine Y_callV (pc := 157) hC (c_Ly_fails C.l C.D C.cI C.cZ C.a hc_r12) sc_0 cls_Ly ml_Ly_341 mv_Ly_fails (by decide) (Nat.le_of_ble_eq_true rfl) rfl d_Ly_linksNames_157 ?_
            obtain ⟨hbb, h⟩ := ck_some h
            exact Y_zret (pc := 160) hC hE d_Ly_linksNames_160 hbb h
        refine Y_icmp_ne (pc := 103) hC 110 d_Ly_linksNames_103 rfl (fun cc_103 => ?_) (fun cc_103 => ?_)
        · have h := ifn cc_103 h
          refine Y_aload_n (pc := 110) hC d_Ly_linksNames_110 rfl 0 rfl ?_
          refine Y_getR (pc := 111) hC sc_0 fl_Ly_49 rfl d_Ly_linksNames_111 ?_
          refine Y_aload_n (pc := 114) hC d_Ly_linksNames_114 rfl 0 rfl ?_
          refine Y_getI (pc := 115) hC sc_0 fl_Ly_98 rfl d_Ly_linksNames_115 ?_
          obtain ⟨r9, V10, hc_r9, h⟩ := cl_some h
          refine Y_callV (pc := 118) hC (c_Na_sectionOf C.l C.D C.cI C.cZ C.a hc_r9) sc_6 cls_Na ml_Ly_347 mv_Na_sectionOf (by decide) (Nat.le_of_ble_eq_true rfl) rfl d_Ly_linksNames_118 ?_
          refine Y_sub (pc := 121) [0] rfl ?_
          exact kj2 _ _ h
        · have h := ifp cc_103 h
          refine Y_iconst (pc := 106) hC d_Ly_linksNames_106 ki_m1 ?_
          refine Y_goto (pc := 107) hC 121 d_Ly_linksNames_107 rfl ?_
          refine Y_sub (pc := 121) [0] rfl ?_
          exact kj2 _ _ h
      · have h := ifp cc_80 h
        refine Y_aload_n (pc := 83) hC d_Ly_linksNames_83 rfl 0 rfl ?_
        refine Y_iconst (pc := 84) hC d_Ly_linksNames_84 ki_2 ?_
        refine Y_aload_n (pc := 85) hC d_Ly_linksNames_85 rfl 0 rfl ?_
        refine Y_getI (pc := 86) hC sc_0 fl_Ly_98 rfl d_Ly_linksNames_86 ?_
        refine Y_iconst (pc := 89) hC d_Ly_linksNames_89 ki_m1 ?_
        obtain ⟨r13, V15, hc_r13, h⟩ := cl_some h
        refine Y_callV (pc := 90) hC (c_Ly_fails C.l C.D C.cI C.cZ C.a hc_r13) sc_0 cls_Ly ml_Ly_341 mv_Ly_fails (by decide) (Nat.le_of_ble_eq_true rfl) rfl d_Ly_linksNames_90 ?_
        obtain ⟨hbb, h⟩ := ck_some h
        exact Y_zret (pc := 93) hC hE d_Ly_linksNames_93 hbb h
  · have h := ifn cc_44 h
    refine Y_aload_n (pc := 47) hC d_Ly_linksNames_47 rfl 0 rfl ?_
    refine Y_iconst (pc := 48) hC d_Ly_linksNames_48 ki_1 ?_
    refine Y_aload_n (pc := 49) hC d_Ly_linksNames_49 rfl 0 rfl ?_
    refine Y_getR (pc := 50) hC sc_0 fl_Ly_49 rfl d_Ly_linksNames_50 ?_
    refine Y_getI (pc := 53) hC sc_6 fl_Ly_338 rfl d_Ly_linksNames_53 ?_
    refine Y_iconst (pc := 56) hC d_Ly_linksNames_56 ki_m1 ?_
    obtain ⟨r14, V16, hc_r14, h⟩ := cl_some h
    refine Y_callV (pc := 57) hC (c_Ly_fails C.l C.D C.cI C.cZ C.a hc_r14) sc_0 cls_Ly ml_Ly_341 mv_Ly_fails (by decide) (Nat.le_of_ble_eq_true rfl) rfl d_Ly_linksNames_57 ?_
    obtain ⟨hbb, h⟩ := ck_some h
    exact Y_zret (pc := 60) hC hE d_Ly_linksNames_60 hbb h
set_option maxHeartbeats 4000000 in
set_option maxRecDepth 100000 in
theorem c_Fo_isSame (l : Launch) (D : va_G) (cI cZ : ClassId) (a : Nat → Nat) {V : Sto} {p1 p2 : Int32} {r : Int32} {V' : Sto} (h : f_Fo_isSame V p1 p2 = some (r, V')) : YMi l D cI cZ a shpC y_Fo_isSame b_Fo_isSame 5 (some .boolean) rm_Fo_isSame [.ref (a 8), .int p1, .int p2] V r V' := by
  refine YMi_of (by decide) (Nat.le_of_ble_eq_true rfl) ?_
  intro C hl hDD hcI hcZ ha hC hE
  subst hl hDD hcI hcZ ha
  show Y C shpC 5 0 [(0, .ref (C.a 8)), (1, .int p1), (2, .int p2)] [] V
  rw [f_Fo_isSame] at h
  refine Y_aload_n (pc := 0) hC d_Fo_isSame_0 rfl 0 rfl ?_
  refine Y_getR (pc := 1) hC sc_8 fl_Fo_22 rfl d_Fo_isSame_1 ?_
  refine Y_getR (pc := 4) hC sc_4 fl_Fo_98 rfl d_Fo_isSame_4 ?_
  refine Y_iload_n (pc := 7) hC d_Fo_isSame_7 rfl 1 rfl ?_
  obtain ⟨hi, h⟩ := ck_some h
  refine Y_iald (pc := 8) hC sc_30 rfl hi d_Fo_isSame_8 ?_
  refine Y_istore_n (pc := 9) hC (L' := [(3, .int (V 30 p1.toNatClampNeg)), (0, .ref (C.a 8)), (1, .int p1), (2, .int p2)]) d_Fo_isSame_9 rfl (by decide) rfl ?_
  refine Y_aload_n (pc := 10) hC d_Fo_isSame_10 rfl 1 rfl ?_
  refine Y_getR (pc := 11) hC sc_8 fl_Fo_22 rfl d_Fo_isSame_11 ?_
  refine Y_getR (pc := 14) hC sc_4 fl_Fo_98 rfl d_Fo_isSame_14 ?_
  refine Y_iload_n (pc := 17) hC d_Fo_isSame_17 rfl 3 rfl ?_
  obtain ⟨hi, h⟩ := ck_some h
  refine Y_iald (pc := 18) hC sc_30 rfl hi d_Fo_isSame_18 ?_
  refine Y_istore (pc := 19) hC (L' := [(4, .int (V 30 p2.toNatClampNeg)), (3, .int (V 30 p1.toNatClampNeg)), (0, .ref (C.a 8)), (1, .int p1), (2, .int p2)]) d_Fo_isSame_19 (by decide) rfl ?_
  refine Y_aload_n (pc := 21) hC d_Fo_isSame_21 rfl 2 rfl ?_
  refine Y_getR (pc := 22) hC sc_8 fl_Fo_22 rfl d_Fo_isSame_22 ?_
  refine Y_getR (pc := 25) hC sc_4 fl_Fo_101 rfl d_Fo_isSame_25 ?_
  refine Y_iload_n (pc := 28) hC d_Fo_isSame_28 rfl 3 rfl ?_
  obtain ⟨hi, h⟩ := ck_some h
  refine Y_iald (pc := 29) hC sc_28 rfl hi d_Fo_isSame_29 ?_
  refine Y_aload_n (pc := 30) hC d_Fo_isSame_30 rfl 2 rfl ?_
  refine Y_getR (pc := 31) hC sc_8 fl_Fo_22 rfl d_Fo_isSame_31 ?_
  refine Y_getR (pc := 34) hC sc_4 fl_Fo_101 rfl d_Fo_isSame_34 ?_
  refine Y_iload_n (pc := 37) hC d_Fo_isSame_37 rfl 4 rfl ?_
  obtain ⟨hi, h⟩ := ck_some h
  refine Y_iald (pc := 38) hC sc_28 rfl hi d_Fo_isSame_38 ?_
  refine Y_icmp_ne (pc := 39) hC 132 d_Fo_isSame_39 rfl (fun cc_39 => ?_) (fun cc_39 => ?_)
  · have h := ifn cc_39 h
    refine Y_iconst (pc := 132) hC d_Fo_isSame_132 ki_0 ?_
    exact Y_zret (pc := 133) hC hE d_Fo_isSame_133 rfl h
  · have h := ifp cc_39 h
    refine Y_aload_n (pc := 42) hC d_Fo_isSame_42 rfl 2 rfl ?_
    refine Y_getR (pc := 43) hC sc_8 fl_Fo_22 rfl d_Fo_isSame_43 ?_
    refine Y_getR (pc := 46) hC sc_4 fl_Fo_104 rfl d_Fo_isSame_46 ?_
    refine Y_iload_n (pc := 49) hC d_Fo_isSame_49 rfl 3 rfl ?_
    obtain ⟨hi, h⟩ := ck_some h
    refine Y_iald (pc := 50) hC sc_29 rfl hi d_Fo_isSame_50 ?_
    refine Y_aload_n (pc := 51) hC d_Fo_isSame_51 rfl 2 rfl ?_
    refine Y_getR (pc := 52) hC sc_8 fl_Fo_22 rfl d_Fo_isSame_52 ?_
    refine Y_getR (pc := 55) hC sc_4 fl_Fo_104 rfl d_Fo_isSame_55 ?_
    refine Y_iload_n (pc := 58) hC d_Fo_isSame_58 rfl 4 rfl ?_
    obtain ⟨hi, h⟩ := ck_some h
    refine Y_iald (pc := 59) hC sc_29 rfl hi d_Fo_isSame_59 ?_
    refine Y_icmp_ne (pc := 60) hC 132 d_Fo_isSame_60 rfl (fun cc_60 => ?_) (fun cc_60 => ?_)
    · have h := ifn cc_60 h
      refine Y_iconst (pc := 132) hC d_Fo_isSame_132 ki_0 ?_
      exact Y_zret (pc := 133) hC hE d_Fo_isSame_133 rfl h
    · have h := ifp cc_60 h
      refine Y_aload_n (pc := 63) hC d_Fo_isSame_63 rfl 2 rfl ?_
      refine Y_getR (pc := 64) hC sc_8 fl_Fo_22 rfl d_Fo_isSame_64 ?_
      refine Y_getR (pc := 67) hC sc_4 fl_Fo_107 rfl d_Fo_isSame_67 ?_
      refine Y_iload_n (pc := 70) hC d_Fo_isSame_70 rfl 3 rfl ?_
      obtain ⟨hi, h⟩ := ck_some h
      refine Y_iald (pc := 71) hC sc_31 rfl hi d_Fo_isSame_71 ?_
      refine Y_aload_n (pc := 72) hC d_Fo_isSame_72 rfl 2 rfl ?_
      refine Y_getR (pc := 73) hC sc_8 fl_Fo_22 rfl d_Fo_isSame_73 ?_
      refine Y_getR (pc := 76) hC sc_4 fl_Fo_107 rfl d_Fo_isSame_76 ?_
      refine Y_iload_n (pc := 79) hC d_Fo_isSame_79 rfl 4 rfl ?_
      obtain ⟨hi, h⟩ := ck_some h
      refine Y_iald (pc := 80) hC sc_31 rfl hi d_Fo_isSame_80 ?_
      refine Y_icmp_ne (pc := 81) hC 132 d_Fo_isSame_81 rfl (fun cc_81 => ?_) (fun cc_81 => ?_)
      · have h := ifn cc_81 h
        refine Y_iconst (pc := 132) hC d_Fo_isSame_132 ki_0 ?_
        exact Y_zret (pc := 133) hC hE d_Fo_isSame_133 rfl h
      · have h := ifp cc_81 h
        refine Y_aload_n (pc := 84) hC d_Fo_isSame_84 rfl 2 rfl ?_
        refine Y_getR (pc := 85) hC sc_8 fl_Fo_26 rfl d_Fo_isSame_85 ?_
        refine Y_getR (pc := 88) hC sc_6 fl_Fo_110 rfl d_Fo_isSame_88 ?_
        refine Y_iload_n (pc := 91) hC d_Fo_isSame_91 rfl 1 rfl ?_
        obtain ⟨hi, h⟩ := ck_some h
        refine Y_iald (pc := 92) hC sc_40 rfl hi d_Fo_isSame_92 ?_
        refine Y_aload_n (pc := 93) hC d_Fo_isSame_93 rfl 2 rfl ?_
        refine Y_getR (pc := 94) hC sc_8 fl_Fo_26 rfl d_Fo_isSame_94 ?_
        refine Y_getR (pc := 97) hC sc_6 fl_Fo_110 rfl d_Fo_isSame_97 ?_
        refine Y_iload (pc := 100) hC d_Fo_isSame_100 0 rfl ?_
        obtain ⟨hi, h⟩ := ck_some h
        refine Y_iald (pc := 102) hC sc_40 rfl hi d_Fo_isSame_102 ?_
        refine Y_icmp_ne (pc := 103) hC 132 d_Fo_isSame_103 rfl (fun cc_103 => ?_) (fun cc_103 => ?_)
        · have h := ifn cc_103 h
          refine Y_iconst (pc := 132) hC d_Fo_isSame_132 ki_0 ?_
          exact Y_zret (pc := 133) hC hE d_Fo_isSame_133 rfl h
        · have h := ifp cc_103 h
          refine Y_aload_n (pc := 106) hC d_Fo_isSame_106 rfl 2 rfl ?_
          refine Y_getR (pc := 107) hC sc_8 fl_Fo_26 rfl d_Fo_isSame_107 ?_
          refine Y_getR (pc := 110) hC sc_6 fl_Fo_115 rfl d_Fo_isSame_110 ?_
          refine Y_iload_n (pc := 113) hC d_Fo_isSame_113 rfl 1 rfl ?_
          obtain ⟨hi, h⟩ := ck_some h
          refine Y_iald (pc := 114) hC sc_42 rfl hi d_Fo_isSame_114 ?_
          refine Y_aload_n (pc := 115) hC d_Fo_isSame_115 rfl 2 rfl ?_
          refine Y_getR (pc := 116) hC sc_8 fl_Fo_26 rfl d_Fo_isSame_116 ?_
          refine Y_getR (pc := 119) hC sc_6 fl_Fo_115 rfl d_Fo_isSame_119 ?_
          refine Y_iload (pc := 122) hC d_Fo_isSame_122 0 rfl ?_
          obtain ⟨hi, h⟩ := ck_some h
          refine Y_iald (pc := 124) hC sc_42 rfl hi d_Fo_isSame_124 ?_
          refine Y_icmp_ne (pc := 125) hC 132 d_Fo_isSame_125 rfl (fun cc_125 => ?_) (fun cc_125 => ?_)
          · have h := ifn cc_125 h
            refine Y_iconst (pc := 132) hC d_Fo_isSame_132 ki_0 ?_
            exact Y_zret (pc := 133) hC hE d_Fo_isSame_133 rfl h
          · have h := ifp cc_125 h
            refine Y_iconst (pc := 128) hC d_Fo_isSame_128 ki_1 ?_
            refine Y_goto (pc := 129) hC 133 d_Fo_isSame_129 rfl ?_
            exact Y_zret (pc := 133) hC hE d_Fo_isSame_133 rfl h
set_option maxHeartbeats 4000000 in
set_option maxRecDepth 100000 in
theorem ylp_Fo_hasSameRelocations_23 {C : YC} {r : Int32} {V' : Sto} {x1 : Int32} {x2 : Int32} {k60 : Sto → RT} {k68 : Sto → RT} (hC : YF C R_Fo b_Fo_hasSameRelocations 4 rm_Fo_hasSameRelocations) (hE : YEi C .boolean shpC r V') (hk60 : ∀ (V1 : Sto), k60 V1 = some (r, V') → Y C shpC 4 60 [] [] V1) (hk68 : ∀ (V1 : Sto), k68 V1 = some (r, V') → Y C shpC 4 68 [] [] V1) : ∀ (n : Nat) (x3 : Int32) (V : Sto), lp_Fo_hasSameRelocations_23 x1 x2 k60 k68 n x3 V = some (r, V') → Y C shpC 4 23 [(0, .ref (C.a 8)), (1, .int x1), (2, .int x2), (3, .int x3)] [] V := by
  intro n
  induction n with
  | zero =>
    intro x3 V h
    rw [lp_Fo_hasSameRelocations_23] at h
    cases h
  | succ n ih =>
    intro x3 V h
    rw [lp_Fo_hasSameRelocations_23] at h
    refine Y_iload_n (pc := 23) hC d_Fo_hasSameRelocations_23 rfl 3 rfl ?_
    refine Y_aload_n (pc := 24) hC d_Fo_hasSameRelocations_24 rfl 0 rfl ?_
    refine Y_getR (pc := 25) hC sc_8 fl_Fo_22 rfl d_Fo_hasSameRelocations_25 ?_
    refine Y_iload_n (pc := 28) hC d_Fo_hasSameRelocations_28 rfl 1 rfl ?_
    obtain ⟨r3, V3, hc_r3, h⟩ := cl_some h
    refine Y_callV (pc := 29) hC (c_Re_countOf C.l C.D C.cI C.cZ C.a hc_r3) sc_4 cls_Re ml_Fo_87 mv_Re_countOf (by decide) (Nat.le_of_ble_eq_true rfl) rfl d_Fo_hasSameRelocations_29 ?_
    refine Y_icmp_ge (pc := 32) hC 68 d_Fo_hasSameRelocations_32 rfl (fun cc_32 => ?_) (fun cc_32 => ?_)
    · have h := ifp cc_32 h
      refine Y_sub (pc := 68) [] rfl ?_
      exact hk68 _ h
    · have h := ifn cc_32 h
      refine Y_aload_n (pc := 35) hC d_Fo_hasSameRelocations_35 rfl 0 rfl ?_
      refine Y_aload_n (pc := 36) hC d_Fo_hasSameRelocations_36 rfl 0 rfl ?_
      refine Y_getR (pc := 37) hC sc_8 fl_Fo_22 rfl d_Fo_hasSameRelocations_37 ?_
      refine Y_iload_n (pc := 40) hC d_Fo_hasSameRelocations_40 rfl 1 rfl ?_
      refine Y_iload_n (pc := 41) hC d_Fo_hasSameRelocations_41 rfl 3 rfl ?_
      obtain ⟨r4, V4, hc_r4, h⟩ := cl_some h
      refine Y_callV (pc := 42) hC (c_Re_pick C.l C.D C.cI C.cZ C.a hc_r4) sc_4 cls_Re ml_Fo_92 mv_Re_pick (by decide) (Nat.le_of_ble_eq_true rfl) rfl d_Fo_hasSameRelocations_42 ?_
      refine Y_aload_n (pc := 45) hC d_Fo_hasSameRelocations_45 rfl 0 rfl ?_
      refine Y_getR (pc := 46) hC sc_8 fl_Fo_22 rfl d_Fo_hasSameRelocations_46 ?_
      refine Y_iload_n (pc := 49) hC d_Fo_hasSameRelocations_49 rfl 2 rfl ?_
      refine Y_iload_n (pc := 50) hC d_Fo_hasSameRelocations_50 rfl 3 rfl ?_
      obtain ⟨r5, V5, hc_r5, h⟩ := cl_some h
      refine Y_callV (pc := 51) hC (c_Re_pick C.l C.D C.cI C.cZ C.a hc_r5) sc_4 cls_Re ml_Fo_92 mv_Re_pick (by decide) (Nat.le_of_ble_eq_true rfl) rfl d_Fo_hasSameRelocations_51 ?_
      obtain ⟨r6, V6, hc_r6, h⟩ := cl_some h
      refine Y_callV (pc := 54) hC (c_Fo_isSame C.l C.D C.cI C.cZ C.a hc_r6) sc_8 cls_Fo ml_Fo_95 mv_Fo_isSame (by decide) (Nat.le_of_ble_eq_true rfl) rfl d_Fo_hasSameRelocations_54 ?_
      refine Y_if_ne (pc := 57) hC 62 d_Fo_hasSameRelocations_57 rfl (fun cc_57 => ?_) (fun cc_57 => ?_)
      · have h := ifn cc_57 h
        refine Y_iinc (pc := 62) hC (v := x3 + 1) (L' := [(3, .int (x3 + 1)), (0, .ref (C.a 8)), (1, .int x1), (2, .int x2)]) d_Fo_hasSameRelocations_62 3 rfl rfl (by decide) rfl ?_
        refine Y_goto (pc := 65) hC 23 d_Fo_hasSameRelocations_65 rfl ?_
        refine Y_sub (pc := 23) [1, 2, 3, 0] rfl ?_
        exact ih _ _ h
      · have h := ifp cc_57 h
        refine Y_sub (pc := 60) [] rfl ?_
        exact hk60 _ h
set_option maxHeartbeats 4000000 in
set_option maxRecDepth 100000 in
theorem c_Fo_hasSameRelocations (l : Launch) (D : va_G) (cI cZ : ClassId) (a : Nat → Nat) {V : Sto} {p1 p2 : Int32} {r : Int32} {V' : Sto} (h : f_Fo_hasSameRelocations V p1 p2 = some (r, V')) : YMi l D cI cZ a shpC y_Fo_hasSameRelocations b_Fo_hasSameRelocations 4 (some .boolean) rm_Fo_hasSameRelocations [.ref (a 8), .int p1, .int p2] V r V' := by
  refine YMi_of (by decide) (Nat.le_of_ble_eq_true rfl) ?_
  intro C hl hDD hcI hcZ ha hC hE
  subst hl hDD hcI hcZ ha
  show Y C shpC 4 0 [(0, .ref (C.a 8)), (1, .int p1), (2, .int p2)] [] V
  rw [f_Fo_hasSameRelocations] at h
  refine Y_aload_n (pc := 0) hC d_Fo_hasSameRelocations_0 rfl 0 rfl ?_
  refine Y_getR (pc := 1) hC sc_8 fl_Fo_22 rfl d_Fo_hasSameRelocations_1 ?_
  refine Y_iload_n (pc := 4) hC d_Fo_hasSameRelocations_4 rfl 1 rfl ?_
  obtain ⟨r1, V1, hc_r1, h⟩ := cl_some h
  refine Y_callV (pc := 5) hC (c_Re_countOf C.l C.D C.cI C.cZ C.a hc_r1) sc_4 cls_Re ml_Fo_87 mv_Re_countOf (by decide) (Nat.le_of_ble_eq_true rfl) rfl d_Fo_hasSameRelocations_5 ?_
  refine Y_aload_n (pc := 8) hC d_Fo_hasSameRelocations_8 rfl 0 rfl ?_
  refine Y_getR (pc := 9) hC sc_8 fl_Fo_22 rfl d_Fo_hasSameRelocations_9 ?_
  refine Y_iload_n (pc := 12) hC d_Fo_hasSameRelocations_12 rfl 2 rfl ?_
  obtain ⟨r2, V2, hc_r2, h⟩ := cl_some h
  refine Y_callV (pc := 13) hC (c_Re_countOf C.l C.D C.cI C.cZ C.a hc_r2) sc_4 cls_Re ml_Fo_87 mv_Re_countOf (by decide) (Nat.le_of_ble_eq_true rfl) rfl d_Fo_hasSameRelocations_13 ?_
  refine Y_icmp_eq (pc := 16) hC 21 d_Fo_hasSameRelocations_16 rfl (fun cc_16 => ?_) (fun cc_16 => ?_)
  · have h := ifp cc_16 h
    refine Y_iconst (pc := 21) hC d_Fo_hasSameRelocations_21 ki_0 ?_
    refine Y_istore_n (pc := 22) hC (L' := [(3, .int 0), (0, .ref (C.a 8)), (1, .int p1), (2, .int p2)]) d_Fo_hasSameRelocations_22 rfl (by decide) rfl ?_
    refine Y_sub (pc := 23) [1, 2, 3, 0] rfl ?_
    refine ylp_Fo_hasSameRelocations_23 hC hE (fun V7 h => ?_) (fun V8 h => ?_) FU _ _ h
    · have h := h
      refine Y_iconst (pc := 60) hC d_Fo_hasSameRelocations_60 ki_0 ?_
      exact Y_zret (pc := 61) hC hE d_Fo_hasSameRelocations_61 rfl h
    · have h := h
      refine Y_iconst (pc := 68) hC d_Fo_hasSameRelocations_68 ki_1 ?_
      exact Y_zret (pc := 69) hC hE d_Fo_hasSameRelocations_69 rfl h
  · have h := ifn cc_16 h
    refine Y_iconst (pc := 19) hC d_Fo_hasSameRelocations_19 ki_0 ?_
    exact Y_zret (pc := 20) hC hE d_Fo_hasSameRelocations_20 rfl h
set_option maxHeartbeats 4000000 in
set_option maxRecDepth 100000 in
theorem c_Se_read (l : Launch) (D : va_G) (cI cZ : ClassId) (a : Nat → Nat) {V : Sto} {p1 p2 : Int32} {r : Int32} {V' : Sto} (h : f_Se_read V p1 p2 = some (r, V')) : YMi l D cI cZ a shpC y_Se_read b_Se_read 3 (some .int) rm_Se_read [.ref (a 2), .int p1, .int p2] V r V' := by
  refine YMi_of (by decide) (Nat.le_of_ble_eq_true rfl) ?_
  intro C hl hDD hcI hcZ ha hC hE
  subst hl hDD hcI hcZ ha
  show Y C shpC 3 0 [(0, .ref (C.a 2)), (1, .int p1), (2, .int p2)] [] V
  rw [f_Se_read] at h
  refine Y_aload_n (pc := 0) hC d_Se_read_0 rfl 0 rfl ?_
  refine Y_getR (pc := 1) hC sc_2 fl_Se_9 rfl d_Se_read_1 ?_
  refine Y_aload_n (pc := 4) hC d_Se_read_4 rfl 0 rfl ?_
  refine Y_getR (pc := 5) hC sc_2 fl_Se_27 rfl d_Se_read_5 ?_
  refine Y_iload_n (pc := 8) hC d_Se_read_8 rfl 1 rfl ?_
  obtain ⟨hi, h⟩ := ck_some h
  refine Y_iald (pc := 9) hC sc_19 rfl hi d_Se_read_9 ?_
  refine Y_iload_n (pc := 10) hC d_Se_read_10 rfl 2 rfl ?_
  refine Y_iconst (pc := 11) hC d_Se_read_11 ki_4 ?_
  refine Y_idiv (pc := 12) hC d_Se_read_12 (by decide) ?_
  refine Y_iadd (pc := 13) hC d_Se_read_13 ?_
  obtain ⟨hi, h⟩ := ck_some h
  refine Y_iald (pc := 14) hC sc_14 rfl hi d_Se_read_14 ?_
  exact Y_iret (pc := 15) hC hE d_Se_read_15 h
set_option maxHeartbeats 4000000 in
set_option maxRecDepth 100000 in
theorem ylp_Fo_hasSameWords_2 {C : YC} {r : Int32} {V' : Sto} {x1 : Int32} {x2 : Int32} {k36 : Sto → RT} {k44 : Sto → RT} (hC : YF C R_Fo b_Fo_hasSameWords 4 rm_Fo_hasSameWords) (hE : YEi C .boolean shpC r V') (hk36 : ∀ (V1 : Sto), k36 V1 = some (r, V') → Y C shpC 4 36 [] [] V1) (hk44 : ∀ (V1 : Sto), k44 V1 = some (r, V') → Y C shpC 4 44 [] [] V1) : ∀ (n : Nat) (x3 : Int32) (V : Sto), lp_Fo_hasSameWords_2 x1 x2 k36 k44 n x3 V = some (r, V') → Y C shpC 4 2 [(0, .ref (C.a 8)), (1, .int x1), (2, .int x2), (3, .int x3)] [] V := by
  intro n
  induction n with
  | zero =>
    intro x3 V h
    rw [lp_Fo_hasSameWords_2] at h
    cases h
  | succ n ih =>
    intro x3 V h
    rw [lp_Fo_hasSameWords_2] at h
    refine Y_iload_n (pc := 2) hC d_Fo_hasSameWords_2 rfl 3 rfl ?_
    refine Y_aload_n (pc := 3) hC d_Fo_hasSameWords_3 rfl 0 rfl ?_
    refine Y_getR (pc := 4) hC sc_8 fl_Fo_18 rfl d_Fo_hasSameWords_4 ?_
    refine Y_getR (pc := 7) hC sc_2 fl_Fo_71 rfl d_Fo_hasSameWords_7 ?_
    refine Y_iload_n (pc := 10) hC d_Fo_hasSameWords_10 rfl 1 rfl ?_
    obtain ⟨hi, h⟩ := ck_some h
    refine Y_iald (pc := 11) hC sc_17 rfl hi d_Fo_hasSameWords_11 ?_
    refine Y_icmp_ge (pc := 12) hC 44 d_Fo_hasSameWords_12 rfl (fun cc_12 => ?_) (fun cc_12 => ?_)
    · have h := ifp cc_12 h
      refine Y_sub (pc := 44) [] rfl ?_
      exact hk44 _ h
    · have h := ifn cc_12 h
      refine Y_aload_n (pc := 15) hC d_Fo_hasSameWords_15 rfl 0 rfl ?_
      refine Y_getR (pc := 16) hC sc_8 fl_Fo_18 rfl d_Fo_hasSameWords_16 ?_
      refine Y_iload_n (pc := 19) hC d_Fo_hasSameWords_19 rfl 1 rfl ?_
      refine Y_iload_n (pc := 20) hC d_Fo_hasSameWords_20 rfl 3 rfl ?_
      obtain ⟨r1, V1, hc_r1, h⟩ := cl_some h
      refine Y_callV (pc := 21) hC (c_Se_read C.l C.D C.cI C.cZ C.a hc_r1) sc_2 cls_Se ml_Fo_83 mv_Se_read (by decide) (Nat.le_of_ble_eq_true rfl) rfl d_Fo_hasSameWords_21 ?_
      refine Y_aload_n (pc := 24) hC d_Fo_hasSameWords_24 rfl 0 rfl ?_
      refine Y_getR (pc := 25) hC sc_8 fl_Fo_18 rfl d_Fo_hasSameWords_25 ?_
      refine Y_iload_n (pc := 28) hC d_Fo_hasSameWords_28 rfl 2 rfl ?_
      refine Y_iload_n (pc := 29) hC d_Fo_hasSameWords_29 rfl 3 rfl ?_
      obtain ⟨r2, V2, hc_r2, h⟩ := cl_some h
      refine Y_callV (pc := 30) hC (c_Se_read C.l C.D C.cI C.cZ C.a hc_r2) sc_2 cls_Se ml_Fo_83 mv_Se_read (by decide) (Nat.le_of_ble_eq_true rfl) rfl d_Fo_hasSameWords_30 ?_
      refine Y_icmp_eq (pc := 33) hC 38 d_Fo_hasSameWords_33 rfl (fun cc_33 => ?_) (fun cc_33 => ?_)
      · have h := ifp cc_33 h
        refine Y_iinc (pc := 38) hC (v := x3 + 4) (L' := [(3, .int (x3 + 4)), (0, .ref (C.a 8)), (1, .int x1), (2, .int x2)]) d_Fo_hasSameWords_38 3 rfl rfl (by decide) rfl ?_
        refine Y_goto (pc := 41) hC 2 d_Fo_hasSameWords_41 rfl ?_
        refine Y_sub (pc := 2) [1, 2, 3, 0] rfl ?_
        exact ih _ _ h
      · have h := ifn cc_33 h
        refine Y_sub (pc := 36) [] rfl ?_
        exact hk36 _ h
set_option maxHeartbeats 4000000 in
set_option maxRecDepth 100000 in
theorem c_Fo_hasSameWords (l : Launch) (D : va_G) (cI cZ : ClassId) (a : Nat → Nat) {V : Sto} {p1 p2 : Int32} {r : Int32} {V' : Sto} (h : f_Fo_hasSameWords V p1 p2 = some (r, V')) : YMi l D cI cZ a shpC y_Fo_hasSameWords b_Fo_hasSameWords 4 (some .boolean) rm_Fo_hasSameWords [.ref (a 8), .int p1, .int p2] V r V' := by
  refine YMi_of (by decide) (Nat.le_of_ble_eq_true rfl) ?_
  intro C hl hDD hcI hcZ ha hC hE
  subst hl hDD hcI hcZ ha
  show Y C shpC 4 0 [(0, .ref (C.a 8)), (1, .int p1), (2, .int p2)] [] V
  rw [f_Fo_hasSameWords] at h
  refine Y_iconst (pc := 0) hC d_Fo_hasSameWords_0 ki_0 ?_
  refine Y_istore_n (pc := 1) hC (L' := [(3, .int 0), (0, .ref (C.a 8)), (1, .int p1), (2, .int p2)]) d_Fo_hasSameWords_1 rfl (by decide) rfl ?_
  refine Y_sub (pc := 2) [1, 2, 3, 0] rfl ?_
  refine ylp_Fo_hasSameWords_2 hC hE (fun V3 h => ?_) (fun V4 h => ?_) FU _ _ h
  · have h := h
    refine Y_iconst (pc := 36) hC d_Fo_hasSameWords_36 ki_0 ?_
    exact Y_zret (pc := 37) hC hE d_Fo_hasSameWords_37 rfl h
  · have h := h
    refine Y_iconst (pc := 44) hC d_Fo_hasSameWords_44 ki_1 ?_
    exact Y_zret (pc := 45) hC hE d_Fo_hasSameWords_45 rfl h
set_option maxHeartbeats 4000000 in
set_option maxRecDepth 100000 in
theorem c_Fo_looksSame (l : Launch) (D : va_G) (cI cZ : ClassId) (a : Nat → Nat) {V : Sto} {p1 p2 : Int32} {r : Int32} {V' : Sto} (h : f_Fo_looksSame V p1 p2 = some (r, V')) : YMi l D cI cZ a shpC y_Fo_looksSame b_Fo_looksSame 3 (some .boolean) rm_Fo_looksSame [.ref (a 8), .int p1, .int p2] V r V' := by
  refine YMi_of (by decide) (Nat.le_of_ble_eq_true rfl) ?_
  intro C hl hDD hcI hcZ ha hC hE
  subst hl hDD hcI hcZ ha
  show Y C shpC 3 0 [(0, .ref (C.a 8)), (1, .int p1), (2, .int p2)] [] V
  rw [f_Fo_looksSame] at h
  refine Y_aload_n (pc := 0) hC d_Fo_looksSame_0 rfl 0 rfl ?_
  refine Y_getR (pc := 1) hC sc_8 fl_Fo_18 rfl d_Fo_looksSame_1 ?_
  refine Y_getR (pc := 4) hC sc_2 fl_Fo_71 rfl d_Fo_looksSame_4 ?_
  refine Y_iload_n (pc := 7) hC d_Fo_looksSame_7 rfl 1 rfl ?_
  obtain ⟨hi, h⟩ := ck_some h
  refine Y_iald (pc := 8) hC sc_17 rfl hi d_Fo_looksSame_8 ?_
  refine Y_aload_n (pc := 9) hC d_Fo_looksSame_9 rfl 0 rfl ?_
  refine Y_getR (pc := 10) hC sc_8 fl_Fo_18 rfl d_Fo_looksSame_10 ?_
  refine Y_getR (pc := 13) hC sc_2 fl_Fo_71 rfl d_Fo_looksSame_13 ?_
  refine Y_iload_n (pc := 16) hC d_Fo_looksSame_16 rfl 2 rfl ?_
  obtain ⟨hi, h⟩ := ck_some h
  refine Y_iald (pc := 17) hC sc_17 rfl hi d_Fo_looksSame_17 ?_
  refine Y_icmp_ne (pc := 18) hC 64 d_Fo_looksSame_18 rfl (fun cc_18 => ?_) (fun cc_18 => ?_)
  · have h := ifn cc_18 h
    refine Y_iconst (pc := 64) hC d_Fo_looksSame_64 ki_0 ?_
    exact Y_zret (pc := 65) hC hE d_Fo_looksSame_65 rfl h
  · have h := ifp cc_18 h
    refine Y_aload_n (pc := 21) hC d_Fo_looksSame_21 rfl 0 rfl ?_
    refine Y_getR (pc := 22) hC sc_8 fl_Fo_18 rfl d_Fo_looksSame_22 ?_
    refine Y_getR (pc := 25) hC sc_2 fl_Fo_74 rfl d_Fo_looksSame_25 ?_
    refine Y_iload_n (pc := 28) hC d_Fo_looksSame_28 rfl 1 rfl ?_
    obtain ⟨hi, h⟩ := ck_some h
    refine Y_iald (pc := 29) hC sc_18 rfl hi d_Fo_looksSame_29 ?_
    refine Y_aload_n (pc := 30) hC d_Fo_looksSame_30 rfl 0 rfl ?_
    refine Y_getR (pc := 31) hC sc_8 fl_Fo_18 rfl d_Fo_looksSame_31 ?_
    refine Y_getR (pc := 34) hC sc_2 fl_Fo_74 rfl d_Fo_looksSame_34 ?_
    refine Y_iload_n (pc := 37) hC d_Fo_looksSame_37 rfl 2 rfl ?_
    obtain ⟨hi, h⟩ := ck_some h
    refine Y_iald (pc := 38) hC sc_18 rfl hi d_Fo_looksSame_38 ?_
    refine Y_icmp_ne (pc := 39) hC 64 d_Fo_looksSame_39 rfl (fun cc_39 => ?_) (fun cc_39 => ?_)
    · have h := ifn cc_39 h
      refine Y_iconst (pc := 64) hC d_Fo_looksSame_64 ki_0 ?_
      exact Y_zret (pc := 65) hC hE d_Fo_looksSame_65 rfl h
    · have h := ifp cc_39 h
      refine Y_aload_n (pc := 42) hC d_Fo_looksSame_42 rfl 0 rfl ?_
      refine Y_iload_n (pc := 43) hC d_Fo_looksSame_43 rfl 1 rfl ?_
      refine Y_iload_n (pc := 44) hC d_Fo_looksSame_44 rfl 2 rfl ?_
      obtain ⟨r1, V1, hc_r1, h⟩ := cl_some h
      refine Y_callV (pc := 45) hC (c_Fo_hasSameWords C.l C.D C.cI C.cZ C.a hc_r1) sc_8 cls_Fo ml_Fo_77 mv_Fo_hasSameWords (by decide) (Nat.le_of_ble_eq_true rfl) rfl d_Fo_looksSame_45 ?_
      refine Y_if_eq (pc := 48) hC 64 d_Fo_looksSame_48 rfl (fun cc_48 => ?_) (fun cc_48 => ?_)
      · have h := ifp cc_48 h
        refine Y_iconst (pc := 64) hC d_Fo_looksSame_64 ki_0 ?_
        exact Y_zret (pc := 65) hC hE d_Fo_looksSame_65 rfl h
      · have h := ifn cc_48 h
        refine Y_aload_n (pc := 51) hC d_Fo_looksSame_51 rfl 0 rfl ?_
        refine Y_iload_n (pc := 52) hC d_Fo_looksSame_52 rfl 1 rfl ?_
        refine Y_iload_n (pc := 53) hC d_Fo_looksSame_53 rfl 2 rfl ?_
        obtain ⟨r2, V2, hc_r2, h⟩ := cl_some h
        refine Y_callV (pc := 54) hC (c_Fo_hasSameRelocations C.l C.D C.cI C.cZ C.a hc_r2) sc_8 cls_Fo ml_Fo_80 mv_Fo_hasSameRelocations (by decide) (Nat.le_of_ble_eq_true rfl) rfl d_Fo_looksSame_54 ?_
        refine Y_if_eq (pc := 57) hC 64 d_Fo_looksSame_57 rfl (fun cc_57 => ?_) (fun cc_57 => ?_)
        · have h := ifp cc_57 h
          refine Y_iconst (pc := 64) hC d_Fo_looksSame_64 ki_0 ?_
          exact Y_zret (pc := 65) hC hE d_Fo_looksSame_65 rfl h
        · have h := ifn cc_57 h
          refine Y_iconst (pc := 60) hC d_Fo_looksSame_60 ki_1 ?_
          refine Y_goto (pc := 61) hC 65 d_Fo_looksSame_61 rfl ?_
          exact Y_zret (pc := 65) hC hE d_Fo_looksSame_65 rfl h
end
section
def f_Fo_mayFold (V : Sto) (p1 : Int32) : RT :=
  ck (ib p1 96) <|
  if (V 43 p1.toNatClampNeg) = 0 then
    some (0, V)
  else
  ck (ib p1 96) <|
  if (V 16 p1.toNatClampNeg) = 0 then
    ck (ib p1 96) <|
    if (V 20 p1.toNatClampNeg) = 0 then
      some (1, V)
    else
    some (0, V)
  else
  some (0, V)
def lp_Fo_firstOfSameLook_2 (x1 : Int32) (k34 : Int32 → Sto → RT) (k42 : Sto → RT) : Nat → Int32 → Sto → RT
  | 0, _, _ => none
  | n + 1, x2, V =>
    if x1 ≤ x2 then
      k42 V
    else
    ck (ib x2 96) <|
    if (V 46 x2.toNatClampNeg) = x2 then
      cl (f_Fo_mayFold V x2) fun r1 V1 =>
      if r1 = 0 then
        lp_Fo_firstOfSameLook_2 x1 k34 k42 n (x2 + 1) V1
      else
      cl (f_Fo_looksSame V1 x2 x1) fun r2 V2 =>
      if r2 = 0 then
        lp_Fo_firstOfSameLook_2 x1 k34 k42 n (x2 + 1) V2
      else
      k34 x2 V2
    else
    lp_Fo_firstOfSameLook_2 x1 k34 k42 n (x2 + 1) V
def f_Fo_firstOfSameLook (V : Sto) (p1 : Int32) : RT :=
  lp_Fo_firstOfSameLook_2 p1
    (fun y1 V3 =>
      some (y1, V3))
    (fun V4 =>
      some (p1, V4)) FU 0 V
def f_Fo_leaderOfMeant (V : Sto) (p1 : Int32) : RT :=
  ck (ib p1 400) <|
  ck (ib p1 400) <|
  if (V 40 p1.toNatClampNeg) = 1 then
    ck (ib (V 41 p1.toNatClampNeg) 96) <|
    some (V 46 (V 41 p1.toNatClampNeg).toNatClampNeg, V)
  else
  some (V 41 p1.toNatClampNeg, V)
def lp_Fo_hasSameTargets_2 (x1 : Int32) (x2 : Int32) (k67 : Sto → RT) (k75 : Sto → RT) : Nat → Int32 → Sto → RT
  | 0, _, _ => none
  | n + 1, x3, V =>
    cl (f_Re_countOf V x1) fun r1 V1 =>
    if r1 ≤ x3 then
      k75 V1
    else
    cl (f_Re_pick V1 x1 x3) fun r2 V2 =>
    ck (ib r2 600) <|
    cl (f_Re_pick V2 x2 x3) fun r3 V3 =>
    ck (ib r3 600) <|
    cl (f_Fo_leaderOfMeant V3 (V2 30 r2.toNatClampNeg)) fun r4 V4 =>
    cl (f_Fo_leaderOfMeant V4 (V3 30 r3.toNatClampNeg)) fun r5 V5 =>
    if r4 = r5 then
      lp_Fo_hasSameTargets_2 x1 x2 k67 k75 n (x3 + 1) V5
    else
    k67 V5
def f_Fo_hasSameTargets (V : Sto) (p1 p2 : Int32) : RT :=
  lp_Fo_hasSameTargets_2 p1 p2
    (fun V6 =>
      some (0, V6))
    (fun V7 =>
      some (1, V7)) FU 0 V
def lp_Fo_firstOfSameTargets_7 (x1 : Int32) (k46 : Int32 → Sto → RT) (k54 : Sto → RT) : Nat → Int32 → Sto → RT
  | 0, _, _ => none
  | n + 1, x2, V =>
    if x1 ≤ x2 then
      k54 V
    else
    ck (ib x2 96) <|
    if (V 47 x2.toNatClampNeg) = x2 then
      ck (ib x2 96) <|
      ck (ib x1 96) <|
      if (V 46 x2.toNatClampNeg) = (V 46 x1.toNatClampNeg) then
        cl (f_Fo_hasSameTargets V x2 x1) fun r1 V1 =>
        if r1 = 0 then
          lp_Fo_firstOfSameTargets_7 x1 k46 k54 n (x2 + 1) V1
        else
        k46 x2 V1
      else
      lp_Fo_firstOfSameTargets_7 x1 k46 k54 n (x2 + 1) V
    else
    lp_Fo_firstOfSameTargets_7 x1 k46 k54 n (x2 + 1) V
def f_Fo_firstOfSameTargets (V : Sto) (p1 : Int32) : RT :=
  ck (ib p1 96) <|
  lp_Fo_firstOfSameTargets_7 p1
    (fun y1 V2 =>
      some (y1, V2))
    (fun V3 =>
      some (p1, V3)) FU (V 46 p1.toNatClampNeg) V
def lp_Fo_split_4 (k57 : Int32 → Sto → RT) : Nat → Int32 → Int32 → Sto → RT
  | 0, _, _, _ => none
  | n + 1, x1, x2, V =>
    if (V 2 0) ≤ x2 then
      k57 x1 V
    else
    cl (f_Fo_firstOfSameTargets V x2) fun r1 V1 =>
    ck (ib x2 96) <| nm (sw V1 47 x2.toNatClampNeg r1) fun V2 =>
    if x1 = 0 then
      ck (ib x2 96) <|
      ck (ib x2 96) <|
      if (V2 47 x2.toNatClampNeg) = (V2 46 x2.toNatClampNeg) then
        lp_Fo_split_4 k57 n 0 (x2 + 1) V2
      else
      lp_Fo_split_4 k57 n 1 (x2 + 1) V2
    else
    lp_Fo_split_4 k57 n 1 (x2 + 1) V2
def f_Fo_split (V : Sto) : RT :=
  lp_Fo_split_4
    (fun y1 V3 =>
      ck (cpb 0 0 (V3 2 0) 96 96) <| nm (cpw V3 47 46 0 0 (V3 2 0)) fun V4 =>
      ck (bb y1) <| some (y1, V4)) FU 0 0 V
def lp_Fo_settle_2 (x1 : Int32) (k46 : Sto → RT) : Nat → Int32 → Sto → RT
  | 0, _, _ => none
  | n + 1, x2, V =>
    if (V 2 0) ≤ x2 then
      k46 V
    else
    if x1 = 0 then
      ck (ib x2 96) <| nm (sw V 46 x2.toNatClampNeg x2) fun V1 =>
      lp_Fo_settle_2 x1 k46 n (x2 + 1) V1
    else
    cl (f_Fo_mayFold V x2) fun r1 V2 =>
    if r1 = 0 then
      ck (ib x2 96) <| nm (sw V2 46 x2.toNatClampNeg x2) fun V3 =>
      lp_Fo_settle_2 x1 k46 n (x2 + 1) V3
    else
    cl (f_Fo_firstOfSameLook V2 x2) fun r2 V4 =>
    ck (ib x2 96) <| nm (sw V4 46 x2.toNatClampNeg r2) fun V5 =>
    lp_Fo_settle_2 x1 k46 n (x2 + 1) V5
def lp_Fo_settle_48 (k70 : Sto → RT) : Nat → Int32 → Sto → RT
  | 0, _, _ => none
  | n + 1, x2, V =>
    if 96 ≤ x2 then
      k70 V
    else
    cl (f_Fo_split V) fun r3 V7 =>
    if r3 = 0 then
      k70 V7
    else
    lp_Fo_settle_48 k70 n (x2 + 1) V7
def f_Fo_settle (V : Sto) (p1 : Int32) : RT :=
  lp_Fo_settle_2 p1
    (fun V6 =>
      lp_Fo_settle_48
        (fun V8 =>
          some (0, V8)) FU 0 V6) FU 0 V
def f_Is_placeOf (V : Sto) (p1 : Int32) : RT :=
  ck (ib p1 600) <|
  ck (ib (V 27 p1.toNatClampNeg) 96) <|
  ck (ib p1 600) <|
  some ((V 48 (V 27 p1.toNatClampNeg).toNatClampNeg) + (V 28 p1.toNatClampNeg), V)
def f_Is_isNear (V : Sto) (p1 p2 : Int32) : RT :=
  cl (f_Is_placeOf V p1) fun r1 V1 =>
  if (lg_cmp (((p2.toInt64 - r1.toInt64) - 4) - ((p2.toInt64 - r1.toInt64) - 4) / 4 * 4) 0) = 0 then
    if (lg_cmp ((p2.toInt64 - r1.toInt64) - 4) (-131072)) < 0 then
      some (0, V1)
    else
    if 0 < (lg_cmp ((p2.toInt64 - r1.toInt64) - 4) 131068) then
      some (0, V1)
    else
    some (1, V1)
  else
  some (0, V1)
def f_Fo_isFolded (V : Sto) (p1 : Int32) : RT :=
  ck (ib p1 96) <|
  if (V 46 p1.toNatClampNeg) = p1 then
    some (0, V)
  else
  some (1, V)
def f_La_isStanding (V : Sto) (p1 : Int32) : RT :=
  ck (ib p1 96) <|
  if (V 43 p1.toNatClampNeg) = 0 then
    some (0, V)
  else
  cl (f_Fo_isFolded V p1) fun r1 V1 =>
  if r1 = 0 then
    some (1, V1)
  else
  some (0, V1)
def f_Is_mayGo (V : Sto) (p1 : Int32) : RT :=
  ck (ib p1 600) <|
  ck (ib p1 600) <|
  if (V 29 p1.toNatClampNeg) = 4 then
    ck (ib (V 27 p1.toNatClampNeg) 96) <|
    if (V 16 (V 27 p1.toNatClampNeg).toNatClampNeg) = 0 then
      cl (f_La_isStanding V (V 27 p1.toNatClampNeg)) fun r1 V1 =>
      if r1 = 0 then
        some (0, V1)
      else
      some (1, V1)
    else
    some (0, V)
  else
  some (0, V)
def f_La_startOf (V : Sto) (p1 p2 : Int32) : RT :=
  if p1 = 1 then
    ck (ib p2 96) <|
    some (V 48 p2.toNatClampNeg, V)
  else
  if p1 = 3 then
    ck (ib p2 200) <|
    some (V 49 p2.toNatClampNeg, V)
  else
  some (0, V)
def f_La_addressOf (V : Sto) (p1 : Int32) : RT :=
  ck (ib p1 400) <|
  ck (ib p1 400) <|
  cl (f_La_startOf V (V 40 p1.toNatClampNeg) (V 41 p1.toNatClampNeg)) fun r1 V1 =>
  ck (ib p1 400) <|
  some (r1 + (V1 42 p1.toNatClampNeg), V1)
def f_Is_targetOf (V : Sto) (p1 : Int32) : RT :=
  ck (ib p1 600) <|
  cl (f_La_addressOf V (V 30 p1.toNatClampNeg)) fun r1 V1 =>
  ck (ib p1 600) <|
  some (r1 + (V1 31 p1.toNatClampNeg), V1)
def lp_Is_firstStranded_2 (k54 : Int32 → Sto → RT) (k62 : Sto → RT) : Nat → Int32 → Sto → RT
  | 0, _, _ => none
  | n + 1, x1, V =>
    if (V 4 0) ≤ x1 then
      k62 V
    else
    ck (ib x1 600) <|
    ck (ib (V 32 x1.toNatClampNeg) 600) <|
    if (V 53 (V 32 x1.toNatClampNeg).toNatClampNeg) = (-1) then
      cl (f_Is_mayGo V (V 32 x1.toNatClampNeg)) fun r1 V1 =>
      if r1 = 0 then
        lp_Is_firstStranded_2 k54 k62 n (x1 + 1) V1
      else
      cl (f_Is_targetOf V1 (V 32 x1.toNatClampNeg)) fun r2 V2 =>
      cl (f_Is_isNear V2 (V 32 x1.toNatClampNeg) r2) fun r3 V3 =>
      if r3 = 0 then
        k54 (V 32 x1.toNatClampNeg) V3
      else
      lp_Is_firstStranded_2 k54 k62 n (x1 + 1) V3
    else
    lp_Is_firstStranded_2 k54 k62 n (x1 + 1) V
def f_Is_firstStranded (V : Sto) : RT :=
  lp_Is_firstStranded_2
    (fun y1 V4 =>
      some (y1, V4))
    (fun V5 =>
      some ((-1), V5)) FU 0 V
end
section
theorem fl_Fo_30 : FL R_Fo 30 8 3 := ⟨R_Fo, F_Fo, N_Fo, rfl, by decide, i_Fo, (mw 414 (by decide +kernel))⟩
theorem fl_Fo_55 : FL R_Fo 55 7 4 := ⟨R_Rc, F_Rc, N_Rc, rfl, by decide, i_Rc, (mw 381 (by decide +kernel))⟩
theorem fl_Fo_61 : FL R_Fo 61 2 5 := ⟨R_Se, F_Se, N_Se, rfl, by decide, i_Se, (mw 169 (by decide +kernel))⟩
theorem fl_Fo_64 : FL R_Fo 64 2 9 := ⟨R_Se, F_Se, N_Se, rfl, by decide, i_Se, (mw 181 (by decide +kernel))⟩
theorem fl_Fo_9 : FL R_Fo 9 8 4 := ⟨R_Fo, F_Fo, N_Fo, rfl, by decide, i_Fo, (mw 415 (by decide +kernel))⟩
theorem ml_Fo_40 : MLb R_Fo 40 y_Fo_mayFold b_Fo_mayFold 2 (some .boolean) 1 := ⟨(mw 1269 (by decide +kernel)), (mw 1266 (by decide +kernel)), (mw 91 (by decide +kernel)), by decide +kernel⟩
theorem mv_Fo_mayFold : MLv y_Fo_mayFold := ⟨(mw 1268 (by decide +kernel)), (mw 23 (by decide +kernel))⟩
theorem ml_Fo_67 : MLb R_Fo 67 y_Fo_looksSame b_Fo_looksSame 3 (some .boolean) 2 := ⟨(mw 1277 (by decide +kernel)), (mw 1274 (by decide +kernel)), (mw 91 (by decide +kernel)), by decide +kernel⟩
theorem mv_Fo_looksSame : MLv y_Fo_looksSame := ⟨(mw 1276 (by decide +kernel)), (mw 25 (by decide +kernel))⟩
theorem fl_Fo_133 : FL R_Fo 133 6 7 := ⟨R_Na, F_Na, N_Na, rfl, by decide, i_Na, (mw 344 (by decide +kernel))⟩
theorem ml_Fo_130 : MLb R_Fo 130 y_Fo_leaderOfMeant b_Fo_leaderOfMeant 3 (some .int) 1 := ⟨(mw 1311 (by decide +kernel)), (mw 1308 (by decide +kernel)), (mw 91 (by decide +kernel)), by decide +kernel⟩
theorem mv_Fo_leaderOfMeant : MLv y_Fo_leaderOfMeant := ⟨(mw 1309 (by decide +kernel)), (mw 1310 (by decide +kernel))⟩
theorem fl_Fo_15 : FL R_Fo 15 8 5 := ⟨R_Fo, F_Fo, N_Fo, rfl, by decide, i_Fo, (mw 418 (by decide +kernel))⟩
theorem ml_Fo_127 : MLb R_Fo 127 y_Fo_hasSameTargets b_Fo_hasSameTargets 6 (some .boolean) 2 := ⟨(mw 1307 (by decide +kernel)), (mw 1304 (by decide +kernel)), (mw 91 (by decide +kernel)), by decide +kernel⟩
theorem mv_Fo_hasSameTargets : MLv y_Fo_hasSameTargets := ⟨(mw 1306 (by decide +kernel)), (mw 31 (by decide +kernel))⟩
theorem fl_Fo_34 : FL R_Fo 34 2 0 := ⟨R_Se, F_Se, N_Se, rfl, by decide, i_Se, (mw 155 (by decide +kernel))⟩
theorem ml_Fo_118 : MLb R_Fo 118 y_Fo_firstOfSameTargets b_Fo_firstOfSameTargets 3 (some .int) 1 := ⟨(mw 1303 (by decide +kernel)), (mw 1300 (by decide +kernel)), (mw 91 (by decide +kernel)), by decide +kernel⟩
theorem mv_Fo_firstOfSameTargets : MLv y_Fo_firstOfSameTargets := ⟨(mw 1302 (by decide +kernel)), (mw 30 (by decide +kernel))⟩
theorem mc_Fo_121 : Cond.methodLink R_Fo 121 arraycopyName ∈ ALLW := (mw 1312 (by decide +kernel))
theorem ml_Fo_44 : MLb R_Fo 44 y_Fo_firstOfSameLook b_Fo_firstOfSameLook 3 (some .int) 1 := ⟨(mw 1273 (by decide +kernel)), (mw 1270 (by decide +kernel)), (mw 91 (by decide +kernel)), by decide +kernel⟩
theorem mv_Fo_firstOfSameLook : MLv y_Fo_firstOfSameLook := ⟨(mw 1272 (by decide +kernel)), (mw 24 (by decide +kernel))⟩
theorem ml_Fo_48 : MLb R_Fo 48 y_Fo_split b_Fo_split 3 (some .boolean) 0 := ⟨(mw 1299 (by decide +kernel)), (mw 1296 (by decide +kernel)), (mw 91 (by decide +kernel)), by decide +kernel⟩
theorem mv_Fo_split : MLv y_Fo_split := ⟨(mw 1298 (by decide +kernel)), (mw 29 (by decide +kernel))⟩
theorem fl_Is_40 : FL R_Is 40 10 4 := ⟨R_Is, F_Is, N_Is, rfl, by decide, i_Is, (mw 488 (by decide +kernel))⟩
theorem fl_Is_128 : FL R_Is 128 9 8 := ⟨R_La, F_La, N_La, rfl, by decide, i_La, (mw 453 (by decide +kernel))⟩
theorem fl_Is_28 : FL R_Is 28 10 1 := ⟨R_Is, F_Is, N_Is, rfl, by decide, i_Is, (mw 485 (by decide +kernel))⟩
theorem fl_Is_88 : FL R_Is 88 4 1 := ⟨R_Re, F_Re, N_Re, rfl, by decide, i_Re, (mw 258 (by decide +kernel))⟩
theorem fl_Is_131 : FL R_Is 131 4 2 := ⟨R_Re, F_Re, N_Re, rfl, by decide, i_Re, (mw 263 (by decide +kernel))⟩
theorem ml_Is_137 : MLb R_Is 137 y_Is_placeOf b_Is_placeOf 2 (some .int) 1 := ⟨(mw 1370 (by decide +kernel)), (mw 1367 (by decide +kernel)), (mw 93 (by decide +kernel)), by decide +kernel⟩
theorem mv_Is_placeOf : MLv y_Is_placeOf := ⟨(mw 1368 (by decide +kernel)), (mw 1369 (by decide +kernel))⟩
theorem kd_Is_140 : Cond.constantLong R_Is 140 4 ∈ ALLW := (mw 1371 (by decide +kernel))
theorem kd_Is_142 : Cond.constantLong R_Is 142 (-131072) ∈ ALLW := (mw 1372 (by decide +kernel))
theorem kd_Is_144 : Cond.constantLong R_Is 144 131068 ∈ ALLW := (mw 1373 (by decide +kernel))
theorem fl_La_26 : FL R_La 26 9 2 := ⟨R_La, F_La, N_La, rfl, by decide, i_La, (mw 440 (by decide +kernel))⟩
theorem fl_La_77 : FL R_La 77 7 4 := ⟨R_Rc, F_Rc, N_Rc, rfl, by decide, i_Rc, (mw 380 (by decide +kernel))⟩
theorem fl_La_30 : FL R_La 30 9 3 := ⟨R_La, F_La, N_La, rfl, by decide, i_La, (mw 441 (by decide +kernel))⟩
theorem ml_La_83 : MLb R_La 83 y_Fo_isFolded b_Fo_isFolded 2 (some .boolean) 1 := ⟨(mw 1334 (by decide +kernel)), (mw 1331 (by decide +kernel)), (mw 91 (by decide +kernel)), by decide +kernel⟩
theorem mv_Fo_isFolded : MLv y_Fo_isFolded := ⟨(mw 1332 (by decide +kernel)), (mw 1333 (by decide +kernel))⟩
theorem fl_Is_91 : FL R_Is 91 4 3 := ⟨R_Re, F_Re, N_Re, rfl, by decide, i_Re, (mw 267 (by decide +kernel))⟩
theorem fl_Is_24 : FL R_Is 24 10 0 := ⟨R_Is, F_Is, N_Is, rfl, by decide, i_Is, (mw 484 (by decide +kernel))⟩
theorem fl_Is_94 : FL R_Is 94 2 5 := ⟨R_Se, F_Se, N_Se, rfl, by decide, i_Se, (mw 167 (by decide +kernel))⟩
theorem ml_Is_99 : MLb R_Is 99 y_La_isStanding b_La_isStanding 2 (some .boolean) 1 := ⟨(mw 1350 (by decide +kernel)), (mw 1347 (by decide +kernel)), (mw 92 (by decide +kernel)), by decide +kernel⟩
theorem mv_La_isStanding : MLv y_La_isStanding := ⟨(mw 1348 (by decide +kernel)), (mw 1349 (by decide +kernel))⟩
theorem fl_La_9 : FL R_La 9 9 8 := ⟨R_La, F_La, N_La, rfl, by decide, i_La, (mw 451 (by decide +kernel))⟩
theorem fl_La_15 : FL R_La 15 9 9 := ⟨R_La, F_La, N_La, rfl, by decide, i_La, (mw 455 (by decide +kernel))⟩
theorem fl_La_22 : FL R_La 22 9 1 := ⟨R_La, F_La, N_La, rfl, by decide, i_La, (mw 439 (by decide +kernel))⟩
theorem fl_La_98 : FL R_La 98 6 6 := ⟨R_Na, F_Na, N_Na, rfl, by decide, i_Na, (mw 338 (by decide +kernel))⟩
theorem fl_La_101 : FL R_La 101 6 7 := ⟨R_Na, F_Na, N_Na, rfl, by decide, i_Na, (mw 343 (by decide +kernel))⟩
theorem ml_La_104 : MLb R_La 104 y_La_startOf b_La_startOf 3 (some .int) 2 := ⟨(mw 1362 (by decide +kernel)), (mw 1359 (by decide +kernel)), (mw 92 (by decide +kernel)), by decide +kernel⟩
theorem mv_La_startOf : MLv y_La_startOf := ⟨(mw 1360 (by decide +kernel)), (mw 1361 (by decide +kernel))⟩
theorem fl_La_107 : FL R_La 107 6 8 := ⟨R_Na, F_Na, N_Na, rfl, by decide, i_Na, (mw 348 (by decide +kernel))⟩
theorem fl_Is_108 : FL R_Is 108 4 4 := ⟨R_Re, F_Re, N_Re, rfl, by decide, i_Re, (mw 271 (by decide +kernel))⟩
theorem ml_Is_125 : MLb R_Is 125 y_La_addressOf b_La_addressOf 2 (some .int) 1 := ⟨(mw 1358 (by decide +kernel)), (mw 1355 (by decide +kernel)), (mw 92 (by decide +kernel)), by decide +kernel⟩
theorem mv_La_addressOf : MLv y_La_addressOf := ⟨(mw 1356 (by decide +kernel)), (mw 1357 (by decide +kernel))⟩
theorem fl_Is_122 : FL R_Is 122 4 5 := ⟨R_Re, F_Re, N_Re, rfl, by decide, i_Re, (mw 275 (by decide +kernel))⟩
theorem fl_Is_71 : FL R_Is 71 4 0 := ⟨R_Re, F_Re, N_Re, rfl, by decide, i_Re, (mw 254 (by decide +kernel))⟩
theorem fl_Is_74 : FL R_Is 74 4 6 := ⟨R_Re, F_Re, N_Re, rfl, by decide, i_Re, (mw 279 (by decide +kernel))⟩
theorem fl_Is_21 : FL R_Is 21 10 10 := ⟨R_Is, F_Is, N_Is, rfl, by decide, i_Is, (mw 496 (by decide +kernel))⟩
theorem ml_Is_77 : MLb R_Is 77 y_Is_mayGo b_Is_mayGo 3 (some .boolean) 1 := ⟨(mw 1346 (by decide +kernel)), (mw 1343 (by decide +kernel)), (mw 93 (by decide +kernel)), by decide +kernel⟩
theorem mv_Is_mayGo : MLv y_Is_mayGo := ⟨(mw 1345 (by decide +kernel)), (mw 35 (by decide +kernel))⟩
theorem ml_Is_80 : MLb R_Is 80 y_Is_targetOf b_Is_targetOf 2 (some .int) 1 := ⟨(mw 1354 (by decide +kernel)), (mw 1351 (by decide +kernel)), (mw 93 (by decide +kernel)), by decide +kernel⟩
theorem mv_Is_targetOf : MLv y_Is_targetOf := ⟨(mw 1352 (by decide +kernel)), (mw 1353 (by decide +kernel))⟩
theorem ml_Is_84 : MLb R_Is 84 y_Is_isNear b_Is_isNear 5 (some .boolean) 2 := ⟨(mw 1366 (by decide +kernel)), (mw 1363 (by decide +kernel)), (mw 93 (by decide +kernel)), by decide +kernel⟩
theorem mv_Is_isNear : MLv y_Is_isNear := ⟨(mw 1364 (by decide +kernel)), (mw 1365 (by decide +kernel))⟩
theorem d_Fo_mayFold_0 : decode b_Fo_mayFold 0 = .ok (.aload_n 0, 1) := by decide +kernel
theorem d_Fo_mayFold_1 : decode b_Fo_mayFold 1 = .ok (.getfield 30, 3) := by decide +kernel
theorem d_Fo_mayFold_4 : decode b_Fo_mayFold 4 = .ok (.getfield 55, 3) := by decide +kernel
theorem d_Fo_mayFold_7 : decode b_Fo_mayFold 7 = .ok (.iload_n 1, 1) := by decide +kernel
theorem d_Fo_mayFold_8 : decode b_Fo_mayFold 8 = .ok (.baload, 1) := by decide +kernel
theorem d_Fo_mayFold_9 : decode b_Fo_mayFold 9 = .ok (.ifCond .eq 31, 3) := by decide +kernel
theorem d_Fo_mayFold_12 : decode b_Fo_mayFold 12 = .ok (.aload_n 0, 1) := by decide +kernel
theorem d_Fo_mayFold_13 : decode b_Fo_mayFold 13 = .ok (.getfield 18, 3) := by decide +kernel
theorem d_Fo_mayFold_16 : decode b_Fo_mayFold 16 = .ok (.getfield 61, 3) := by decide +kernel
theorem d_Fo_mayFold_19 : decode b_Fo_mayFold 19 = .ok (.iload_n 1, 1) := by decide +kernel
theorem d_Fo_mayFold_20 : decode b_Fo_mayFold 20 = .ok (.iaload, 1) := by decide +kernel
theorem d_Fo_mayFold_21 : decode b_Fo_mayFold 21 = .ok (.ifCond .ne 19, 3) := by decide +kernel
theorem d_Fo_mayFold_24 : decode b_Fo_mayFold 24 = .ok (.aload_n 0, 1) := by decide +kernel
theorem d_Fo_mayFold_25 : decode b_Fo_mayFold 25 = .ok (.getfield 18, 3) := by decide +kernel
theorem d_Fo_mayFold_28 : decode b_Fo_mayFold 28 = .ok (.getfield 64, 3) := by decide +kernel
theorem d_Fo_mayFold_31 : decode b_Fo_mayFold 31 = .ok (.iload_n 1, 1) := by decide +kernel
theorem d_Fo_mayFold_32 : decode b_Fo_mayFold 32 = .ok (.baload, 1) := by decide +kernel
theorem d_Fo_mayFold_33 : decode b_Fo_mayFold 33 = .ok (.ifCond .ne 7, 3) := by decide +kernel
theorem d_Fo_mayFold_36 : decode b_Fo_mayFold 36 = .ok (.iconst 1, 1) := by decide +kernel
theorem d_Fo_mayFold_37 : decode b_Fo_mayFold 37 = .ok (.goto 4, 3) := by decide +kernel
theorem d_Fo_mayFold_40 : decode b_Fo_mayFold 40 = .ok (.iconst 0, 1) := by decide +kernel
theorem d_Fo_mayFold_41 : decode b_Fo_mayFold 41 = .ok (.ireturn, 1) := by decide +kernel
theorem d_Fo_firstOfSameLook_0 : decode b_Fo_firstOfSameLook 0 = .ok (.iconst 0, 1) := by decide +kernel
theorem d_Fo_firstOfSameLook_1 : decode b_Fo_firstOfSameLook 1 = .ok (.istore_n 2, 1) := by decide +kernel
theorem d_Fo_firstOfSameLook_2 : decode b_Fo_firstOfSameLook 2 = .ok (.iload_n 2, 1) := by decide +kernel
theorem d_Fo_firstOfSameLook_3 : decode b_Fo_firstOfSameLook 3 = .ok (.iload_n 1, 1) := by decide +kernel
theorem d_Fo_firstOfSameLook_4 : decode b_Fo_firstOfSameLook 4 = .ok (.if_icmp .ge 38, 3) := by decide +kernel
theorem d_Fo_firstOfSameLook_7 : decode b_Fo_firstOfSameLook 7 = .ok (.aload_n 0, 1) := by decide +kernel
theorem d_Fo_firstOfSameLook_8 : decode b_Fo_firstOfSameLook 8 = .ok (.getfield 9, 3) := by decide +kernel
theorem d_Fo_firstOfSameLook_11 : decode b_Fo_firstOfSameLook 11 = .ok (.iload_n 2, 1) := by decide +kernel
theorem d_Fo_firstOfSameLook_12 : decode b_Fo_firstOfSameLook 12 = .ok (.iaload, 1) := by decide +kernel
theorem d_Fo_firstOfSameLook_13 : decode b_Fo_firstOfSameLook 13 = .ok (.iload_n 2, 1) := by decide +kernel
theorem d_Fo_firstOfSameLook_14 : decode b_Fo_firstOfSameLook 14 = .ok (.if_icmp .ne 22, 3) := by decide +kernel
theorem d_Fo_firstOfSameLook_17 : decode b_Fo_firstOfSameLook 17 = .ok (.aload_n 0, 1) := by decide +kernel
theorem d_Fo_firstOfSameLook_18 : decode b_Fo_firstOfSameLook 18 = .ok (.iload_n 2, 1) := by decide +kernel
theorem d_Fo_firstOfSameLook_19 : decode b_Fo_firstOfSameLook 19 = .ok (.invokevirtual 40, 3) := by decide +kernel
theorem d_Fo_firstOfSameLook_22 : decode b_Fo_firstOfSameLook 22 = .ok (.ifCond .eq 14, 3) := by decide +kernel
theorem d_Fo_firstOfSameLook_25 : decode b_Fo_firstOfSameLook 25 = .ok (.aload_n 0, 1) := by decide +kernel
theorem d_Fo_firstOfSameLook_26 : decode b_Fo_firstOfSameLook 26 = .ok (.iload_n 2, 1) := by decide +kernel
theorem d_Fo_firstOfSameLook_27 : decode b_Fo_firstOfSameLook 27 = .ok (.iload_n 1, 1) := by decide +kernel
theorem d_Fo_firstOfSameLook_28 : decode b_Fo_firstOfSameLook 28 = .ok (.invokevirtual 67, 3) := by decide +kernel
theorem d_Fo_firstOfSameLook_31 : decode b_Fo_firstOfSameLook 31 = .ok (.ifCond .eq 5, 3) := by decide +kernel
theorem d_Fo_firstOfSameLook_34 : decode b_Fo_firstOfSameLook 34 = .ok (.iload_n 2, 1) := by decide +kernel
theorem d_Fo_firstOfSameLook_35 : decode b_Fo_firstOfSameLook 35 = .ok (.ireturn, 1) := by decide +kernel
theorem d_Fo_firstOfSameLook_36 : decode b_Fo_firstOfSameLook 36 = .ok (.iinc 2 1, 3) := by decide +kernel
theorem d_Fo_firstOfSameLook_39 : decode b_Fo_firstOfSameLook 39 = .ok (.goto (-37), 3) := by decide +kernel
theorem d_Fo_firstOfSameLook_42 : decode b_Fo_firstOfSameLook 42 = .ok (.iload_n 1, 1) := by decide +kernel
theorem d_Fo_firstOfSameLook_43 : decode b_Fo_firstOfSameLook 43 = .ok (.ireturn, 1) := by decide +kernel
theorem d_Fo_leaderOfMeant_0 : decode b_Fo_leaderOfMeant 0 = .ok (.aload_n 0, 1) := by decide +kernel
theorem d_Fo_leaderOfMeant_1 : decode b_Fo_leaderOfMeant 1 = .ok (.getfield 26, 3) := by decide +kernel
theorem d_Fo_leaderOfMeant_4 : decode b_Fo_leaderOfMeant 4 = .ok (.getfield 133, 3) := by decide +kernel
theorem d_Fo_leaderOfMeant_7 : decode b_Fo_leaderOfMeant 7 = .ok (.iload_n 1, 1) := by decide +kernel
theorem d_Fo_leaderOfMeant_8 : decode b_Fo_leaderOfMeant 8 = .ok (.iaload, 1) := by decide +kernel
theorem d_Fo_leaderOfMeant_9 : decode b_Fo_leaderOfMeant 9 = .ok (.istore_n 2, 1) := by decide +kernel
theorem d_Fo_leaderOfMeant_10 : decode b_Fo_leaderOfMeant 10 = .ok (.aload_n 0, 1) := by decide +kernel
theorem d_Fo_leaderOfMeant_11 : decode b_Fo_leaderOfMeant 11 = .ok (.getfield 26, 3) := by decide +kernel
theorem d_Fo_leaderOfMeant_14 : decode b_Fo_leaderOfMeant 14 = .ok (.getfield 110, 3) := by decide +kernel
theorem d_Fo_leaderOfMeant_17 : decode b_Fo_leaderOfMeant 17 = .ok (.iload_n 1, 1) := by decide +kernel
theorem d_Fo_leaderOfMeant_18 : decode b_Fo_leaderOfMeant 18 = .ok (.iaload, 1) := by decide +kernel
theorem d_Fo_leaderOfMeant_19 : decode b_Fo_leaderOfMeant 19 = .ok (.iconst 1, 1) := by decide +kernel
theorem d_Fo_leaderOfMeant_20 : decode b_Fo_leaderOfMeant 20 = .ok (.if_icmp .ne 12, 3) := by decide +kernel
theorem d_Fo_leaderOfMeant_23 : decode b_Fo_leaderOfMeant 23 = .ok (.aload_n 0, 1) := by decide +kernel
theorem d_Fo_leaderOfMeant_24 : decode b_Fo_leaderOfMeant 24 = .ok (.getfield 9, 3) := by decide +kernel
theorem d_Fo_leaderOfMeant_27 : decode b_Fo_leaderOfMeant 27 = .ok (.iload_n 2, 1) := by decide +kernel
theorem d_Fo_leaderOfMeant_28 : decode b_Fo_leaderOfMeant 28 = .ok (.iaload, 1) := by decide +kernel
theorem d_Fo_leaderOfMeant_29 : decode b_Fo_leaderOfMeant 29 = .ok (.goto 4, 3) := by decide +kernel
theorem d_Fo_leaderOfMeant_32 : decode b_Fo_leaderOfMeant 32 = .ok (.iload_n 2, 1) := by decide +kernel
theorem d_Fo_leaderOfMeant_33 : decode b_Fo_leaderOfMeant 33 = .ok (.ireturn, 1) := by decide +kernel
theorem d_Fo_hasSameTargets_0 : decode b_Fo_hasSameTargets 0 = .ok (.iconst 0, 1) := by decide +kernel
theorem d_Fo_hasSameTargets_1 : decode b_Fo_hasSameTargets 1 = .ok (.istore_n 3, 1) := by decide +kernel
theorem d_Fo_hasSameTargets_2 : decode b_Fo_hasSameTargets 2 = .ok (.iload_n 3, 1) := by decide +kernel
theorem d_Fo_hasSameTargets_3 : decode b_Fo_hasSameTargets 3 = .ok (.aload_n 0, 1) := by decide +kernel
theorem d_Fo_hasSameTargets_4 : decode b_Fo_hasSameTargets 4 = .ok (.getfield 22, 3) := by decide +kernel
theorem d_Fo_hasSameTargets_7 : decode b_Fo_hasSameTargets 7 = .ok (.iload_n 1, 1) := by decide +kernel
theorem d_Fo_hasSameTargets_8 : decode b_Fo_hasSameTargets 8 = .ok (.invokevirtual 87, 3) := by decide +kernel
theorem d_Fo_hasSameTargets_11 : decode b_Fo_hasSameTargets 11 = .ok (.if_icmp .ge 64, 3) := by decide +kernel
theorem d_Fo_hasSameTargets_14 : decode b_Fo_hasSameTargets 14 = .ok (.aload_n 0, 1) := by decide +kernel
theorem d_Fo_hasSameTargets_15 : decode b_Fo_hasSameTargets 15 = .ok (.getfield 22, 3) := by decide +kernel
theorem d_Fo_hasSameTargets_18 : decode b_Fo_hasSameTargets 18 = .ok (.getfield 98, 3) := by decide +kernel
theorem d_Fo_hasSameTargets_21 : decode b_Fo_hasSameTargets 21 = .ok (.aload_n 0, 1) := by decide +kernel
theorem d_Fo_hasSameTargets_22 : decode b_Fo_hasSameTargets 22 = .ok (.getfield 22, 3) := by decide +kernel
theorem d_Fo_hasSameTargets_25 : decode b_Fo_hasSameTargets 25 = .ok (.iload_n 1, 1) := by decide +kernel
theorem d_Fo_hasSameTargets_26 : decode b_Fo_hasSameTargets 26 = .ok (.iload_n 3, 1) := by decide +kernel
theorem d_Fo_hasSameTargets_27 : decode b_Fo_hasSameTargets 27 = .ok (.invokevirtual 92, 3) := by decide +kernel
theorem d_Fo_hasSameTargets_30 : decode b_Fo_hasSameTargets 30 = .ok (.iaload, 1) := by decide +kernel
theorem d_Fo_hasSameTargets_31 : decode b_Fo_hasSameTargets 31 = .ok (.istore 4, 2) := by decide +kernel
theorem d_Fo_hasSameTargets_33 : decode b_Fo_hasSameTargets 33 = .ok (.aload_n 0, 1) := by decide +kernel
theorem d_Fo_hasSameTargets_34 : decode b_Fo_hasSameTargets 34 = .ok (.getfield 22, 3) := by decide +kernel
theorem d_Fo_hasSameTargets_37 : decode b_Fo_hasSameTargets 37 = .ok (.getfield 98, 3) := by decide +kernel
theorem d_Fo_hasSameTargets_40 : decode b_Fo_hasSameTargets 40 = .ok (.aload_n 0, 1) := by decide +kernel
theorem d_Fo_hasSameTargets_41 : decode b_Fo_hasSameTargets 41 = .ok (.getfield 22, 3) := by decide +kernel
theorem d_Fo_hasSameTargets_44 : decode b_Fo_hasSameTargets 44 = .ok (.iload_n 2, 1) := by decide +kernel
theorem d_Fo_hasSameTargets_45 : decode b_Fo_hasSameTargets 45 = .ok (.iload_n 3, 1) := by decide +kernel
theorem d_Fo_hasSameTargets_46 : decode b_Fo_hasSameTargets 46 = .ok (.invokevirtual 92, 3) := by decide +kernel
theorem d_Fo_hasSameTargets_49 : decode b_Fo_hasSameTargets 49 = .ok (.iaload, 1) := by decide +kernel
theorem d_Fo_hasSameTargets_50 : decode b_Fo_hasSameTargets 50 = .ok (.istore 5, 2) := by decide +kernel
theorem d_Fo_hasSameTargets_52 : decode b_Fo_hasSameTargets 52 = .ok (.aload_n 0, 1) := by decide +kernel
theorem d_Fo_hasSameTargets_53 : decode b_Fo_hasSameTargets 53 = .ok (.iload 4, 2) := by decide +kernel
theorem d_Fo_hasSameTargets_55 : decode b_Fo_hasSameTargets 55 = .ok (.invokevirtual 130, 3) := by decide +kernel
theorem d_Fo_hasSameTargets_58 : decode b_Fo_hasSameTargets 58 = .ok (.aload_n 0, 1) := by decide +kernel
theorem d_Fo_hasSameTargets_59 : decode b_Fo_hasSameTargets 59 = .ok (.iload 5, 2) := by decide +kernel
theorem d_Fo_hasSameTargets_61 : decode b_Fo_hasSameTargets 61 = .ok (.invokevirtual 130, 3) := by decide +kernel
theorem d_Fo_hasSameTargets_64 : decode b_Fo_hasSameTargets 64 = .ok (.if_icmp .eq 5, 3) := by decide +kernel
theorem d_Fo_hasSameTargets_67 : decode b_Fo_hasSameTargets 67 = .ok (.iconst 0, 1) := by decide +kernel
theorem d_Fo_hasSameTargets_68 : decode b_Fo_hasSameTargets 68 = .ok (.ireturn, 1) := by decide +kernel
theorem d_Fo_hasSameTargets_69 : decode b_Fo_hasSameTargets 69 = .ok (.iinc 3 1, 3) := by decide +kernel
theorem d_Fo_hasSameTargets_72 : decode b_Fo_hasSameTargets 72 = .ok (.goto (-70), 3) := by decide +kernel
theorem d_Fo_hasSameTargets_75 : decode b_Fo_hasSameTargets 75 = .ok (.iconst 1, 1) := by decide +kernel
theorem d_Fo_hasSameTargets_76 : decode b_Fo_hasSameTargets 76 = .ok (.ireturn, 1) := by decide +kernel
theorem d_Fo_firstOfSameTargets_0 : decode b_Fo_firstOfSameTargets 0 = .ok (.aload_n 0, 1) := by decide +kernel
theorem d_Fo_firstOfSameTargets_1 : decode b_Fo_firstOfSameTargets 1 = .ok (.getfield 9, 3) := by decide +kernel
theorem d_Fo_firstOfSameTargets_4 : decode b_Fo_firstOfSameTargets 4 = .ok (.iload_n 1, 1) := by decide +kernel
theorem d_Fo_firstOfSameTargets_5 : decode b_Fo_firstOfSameTargets 5 = .ok (.iaload, 1) := by decide +kernel
theorem d_Fo_firstOfSameTargets_6 : decode b_Fo_firstOfSameTargets 6 = .ok (.istore_n 2, 1) := by decide +kernel
theorem d_Fo_firstOfSameTargets_7 : decode b_Fo_firstOfSameTargets 7 = .ok (.iload_n 2, 1) := by decide +kernel
theorem d_Fo_firstOfSameTargets_8 : decode b_Fo_firstOfSameTargets 8 = .ok (.iload_n 1, 1) := by decide +kernel
theorem d_Fo_firstOfSameTargets_9 : decode b_Fo_firstOfSameTargets 9 = .ok (.if_icmp .ge 45, 3) := by decide +kernel
theorem d_Fo_firstOfSameTargets_12 : decode b_Fo_firstOfSameTargets 12 = .ok (.aload_n 0, 1) := by decide +kernel
theorem d_Fo_firstOfSameTargets_13 : decode b_Fo_firstOfSameTargets 13 = .ok (.getfield 15, 3) := by decide +kernel
theorem d_Fo_firstOfSameTargets_16 : decode b_Fo_firstOfSameTargets 16 = .ok (.iload_n 2, 1) := by decide +kernel
theorem d_Fo_firstOfSameTargets_17 : decode b_Fo_firstOfSameTargets 17 = .ok (.iaload, 1) := by decide +kernel
theorem d_Fo_firstOfSameTargets_18 : decode b_Fo_firstOfSameTargets 18 = .ok (.iload_n 2, 1) := by decide +kernel
theorem d_Fo_firstOfSameTargets_19 : decode b_Fo_firstOfSameTargets 19 = .ok (.if_icmp .ne 29, 3) := by decide +kernel
theorem d_Fo_firstOfSameTargets_22 : decode b_Fo_firstOfSameTargets 22 = .ok (.aload_n 0, 1) := by decide +kernel
theorem d_Fo_firstOfSameTargets_23 : decode b_Fo_firstOfSameTargets 23 = .ok (.getfield 9, 3) := by decide +kernel
theorem d_Fo_firstOfSameTargets_26 : decode b_Fo_firstOfSameTargets 26 = .ok (.iload_n 2, 1) := by decide +kernel
theorem d_Fo_firstOfSameTargets_27 : decode b_Fo_firstOfSameTargets 27 = .ok (.iaload, 1) := by decide +kernel
theorem d_Fo_firstOfSameTargets_28 : decode b_Fo_firstOfSameTargets 28 = .ok (.aload_n 0, 1) := by decide +kernel
theorem d_Fo_firstOfSameTargets_29 : decode b_Fo_firstOfSameTargets 29 = .ok (.getfield 9, 3) := by decide +kernel
theorem d_Fo_firstOfSameTargets_32 : decode b_Fo_firstOfSameTargets 32 = .ok (.iload_n 1, 1) := by decide +kernel
theorem d_Fo_firstOfSameTargets_33 : decode b_Fo_firstOfSameTargets 33 = .ok (.iaload, 1) := by decide +kernel
theorem d_Fo_firstOfSameTargets_34 : decode b_Fo_firstOfSameTargets 34 = .ok (.if_icmp .ne 14, 3) := by decide +kernel
theorem d_Fo_firstOfSameTargets_37 : decode b_Fo_firstOfSameTargets 37 = .ok (.aload_n 0, 1) := by decide +kernel
theorem d_Fo_firstOfSameTargets_38 : decode b_Fo_firstOfSameTargets 38 = .ok (.iload_n 2, 1) := by decide +kernel
theorem d_Fo_firstOfSameTargets_39 : decode b_Fo_firstOfSameTargets 39 = .ok (.iload_n 1, 1) := by decide +kernel
theorem d_Fo_firstOfSameTargets_40 : decode b_Fo_firstOfSameTargets 40 = .ok (.invokevirtual 127, 3) := by decide +kernel
theorem d_Fo_firstOfSameTargets_43 : decode b_Fo_firstOfSameTargets 43 = .ok (.ifCond .eq 5, 3) := by decide +kernel
theorem d_Fo_firstOfSameTargets_46 : decode b_Fo_firstOfSameTargets 46 = .ok (.iload_n 2, 1) := by decide +kernel
theorem d_Fo_firstOfSameTargets_47 : decode b_Fo_firstOfSameTargets 47 = .ok (.ireturn, 1) := by decide +kernel
theorem d_Fo_firstOfSameTargets_48 : decode b_Fo_firstOfSameTargets 48 = .ok (.iinc 2 1, 3) := by decide +kernel
theorem d_Fo_firstOfSameTargets_51 : decode b_Fo_firstOfSameTargets 51 = .ok (.goto (-44), 3) := by decide +kernel
theorem d_Fo_firstOfSameTargets_54 : decode b_Fo_firstOfSameTargets 54 = .ok (.iload_n 1, 1) := by decide +kernel
theorem d_Fo_firstOfSameTargets_55 : decode b_Fo_firstOfSameTargets 55 = .ok (.ireturn, 1) := by decide +kernel
theorem d_Fo_split_0 : decode b_Fo_split 0 = .ok (.iconst 0, 1) := by decide +kernel
theorem d_Fo_split_1 : decode b_Fo_split 1 = .ok (.istore_n 1, 1) := by decide +kernel
theorem d_Fo_split_2 : decode b_Fo_split 2 = .ok (.iconst 0, 1) := by decide +kernel
theorem d_Fo_split_3 : decode b_Fo_split 3 = .ok (.istore_n 2, 1) := by decide +kernel
theorem d_Fo_split_4 : decode b_Fo_split 4 = .ok (.iload_n 2, 1) := by decide +kernel
theorem d_Fo_split_5 : decode b_Fo_split 5 = .ok (.aload_n 0, 1) := by decide +kernel
theorem d_Fo_split_6 : decode b_Fo_split 6 = .ok (.getfield 18, 3) := by decide +kernel
theorem d_Fo_split_9 : decode b_Fo_split 9 = .ok (.getfield 34, 3) := by decide +kernel
theorem d_Fo_split_12 : decode b_Fo_split 12 = .ok (.if_icmp .ge 45, 3) := by decide +kernel
theorem d_Fo_split_15 : decode b_Fo_split 15 = .ok (.aload_n 0, 1) := by decide +kernel
theorem d_Fo_split_16 : decode b_Fo_split 16 = .ok (.getfield 15, 3) := by decide +kernel
theorem d_Fo_split_19 : decode b_Fo_split 19 = .ok (.iload_n 2, 1) := by decide +kernel
theorem d_Fo_split_20 : decode b_Fo_split 20 = .ok (.aload_n 0, 1) := by decide +kernel
theorem d_Fo_split_21 : decode b_Fo_split 21 = .ok (.iload_n 2, 1) := by decide +kernel
theorem d_Fo_split_22 : decode b_Fo_split 22 = .ok (.invokevirtual 118, 3) := by decide +kernel
theorem d_Fo_split_25 : decode b_Fo_split 25 = .ok (.iastore, 1) := by decide +kernel
theorem d_Fo_split_26 : decode b_Fo_split 26 = .ok (.iload_n 1, 1) := by decide +kernel
theorem d_Fo_split_27 : decode b_Fo_split 27 = .ok (.ifCond .ne 18, 3) := by decide +kernel
theorem d_Fo_split_30 : decode b_Fo_split 30 = .ok (.aload_n 0, 1) := by decide +kernel
theorem d_Fo_split_31 : decode b_Fo_split 31 = .ok (.getfield 15, 3) := by decide +kernel
theorem d_Fo_split_34 : decode b_Fo_split 34 = .ok (.iload_n 2, 1) := by decide +kernel
theorem d_Fo_split_35 : decode b_Fo_split 35 = .ok (.iaload, 1) := by decide +kernel
theorem d_Fo_split_36 : decode b_Fo_split 36 = .ok (.aload_n 0, 1) := by decide +kernel
theorem d_Fo_split_37 : decode b_Fo_split 37 = .ok (.getfield 9, 3) := by decide +kernel
theorem d_Fo_split_40 : decode b_Fo_split 40 = .ok (.iload_n 2, 1) := by decide +kernel
theorem d_Fo_split_41 : decode b_Fo_split 41 = .ok (.iaload, 1) := by decide +kernel
theorem d_Fo_split_42 : decode b_Fo_split 42 = .ok (.if_icmp .eq 7, 3) := by decide +kernel
theorem d_Fo_split_45 : decode b_Fo_split 45 = .ok (.iconst 1, 1) := by decide +kernel
theorem d_Fo_split_46 : decode b_Fo_split 46 = .ok (.goto 4, 3) := by decide +kernel
theorem d_Fo_split_49 : decode b_Fo_split 49 = .ok (.iconst 0, 1) := by decide +kernel
theorem d_Fo_split_50 : decode b_Fo_split 50 = .ok (.istore_n 1, 1) := by decide +kernel
theorem d_Fo_split_51 : decode b_Fo_split 51 = .ok (.iinc 2 1, 3) := by decide +kernel
theorem d_Fo_split_54 : decode b_Fo_split 54 = .ok (.goto (-50), 3) := by decide +kernel
theorem d_Fo_split_57 : decode b_Fo_split 57 = .ok (.aload_n 0, 1) := by decide +kernel
theorem d_Fo_split_58 : decode b_Fo_split 58 = .ok (.getfield 15, 3) := by decide +kernel
theorem d_Fo_split_61 : decode b_Fo_split 61 = .ok (.iconst 0, 1) := by decide +kernel
theorem d_Fo_split_62 : decode b_Fo_split 62 = .ok (.aload_n 0, 1) := by decide +kernel
theorem d_Fo_split_63 : decode b_Fo_split 63 = .ok (.getfield 9, 3) := by decide +kernel
theorem d_Fo_split_66 : decode b_Fo_split 66 = .ok (.iconst 0, 1) := by decide +kernel
theorem d_Fo_split_67 : decode b_Fo_split 67 = .ok (.aload_n 0, 1) := by decide +kernel
theorem d_Fo_split_68 : decode b_Fo_split 68 = .ok (.getfield 18, 3) := by decide +kernel
theorem d_Fo_split_71 : decode b_Fo_split 71 = .ok (.getfield 34, 3) := by decide +kernel
theorem d_Fo_split_74 : decode b_Fo_split 74 = .ok (.invokestatic 121, 3) := by decide +kernel
theorem d_Fo_split_77 : decode b_Fo_split 77 = .ok (.iload_n 1, 1) := by decide +kernel
theorem d_Fo_split_78 : decode b_Fo_split 78 = .ok (.ireturn, 1) := by decide +kernel
theorem d_Fo_settle_0 : decode b_Fo_settle 0 = .ok (.iconst 0, 1) := by decide +kernel
theorem d_Fo_settle_1 : decode b_Fo_settle 1 = .ok (.istore_n 2, 1) := by decide +kernel
theorem d_Fo_settle_2 : decode b_Fo_settle 2 = .ok (.iload_n 2, 1) := by decide +kernel
theorem d_Fo_settle_3 : decode b_Fo_settle 3 = .ok (.aload_n 0, 1) := by decide +kernel
theorem d_Fo_settle_4 : decode b_Fo_settle 4 = .ok (.getfield 18, 3) := by decide +kernel
theorem d_Fo_settle_7 : decode b_Fo_settle 7 = .ok (.getfield 34, 3) := by decide +kernel
theorem d_Fo_settle_10 : decode b_Fo_settle 10 = .ok (.if_icmp .ge 36, 3) := by decide +kernel
theorem d_Fo_settle_13 : decode b_Fo_settle 13 = .ok (.aload_n 0, 1) := by decide +kernel
theorem d_Fo_settle_14 : decode b_Fo_settle 14 = .ok (.getfield 9, 3) := by decide +kernel
theorem d_Fo_settle_17 : decode b_Fo_settle 17 = .ok (.iload_n 2, 1) := by decide +kernel
theorem d_Fo_settle_18 : decode b_Fo_settle 18 = .ok (.iload_n 1, 1) := by decide +kernel
theorem d_Fo_settle_19 : decode b_Fo_settle 19 = .ok (.ifCond .eq 19, 3) := by decide +kernel
theorem d_Fo_settle_22 : decode b_Fo_settle 22 = .ok (.aload_n 0, 1) := by decide +kernel
theorem d_Fo_settle_23 : decode b_Fo_settle 23 = .ok (.iload_n 2, 1) := by decide +kernel
theorem d_Fo_settle_24 : decode b_Fo_settle 24 = .ok (.invokevirtual 40, 3) := by decide +kernel
theorem d_Fo_settle_27 : decode b_Fo_settle 27 = .ok (.ifCond .eq 11, 3) := by decide +kernel
theorem d_Fo_settle_30 : decode b_Fo_settle 30 = .ok (.aload_n 0, 1) := by decide +kernel
theorem d_Fo_settle_31 : decode b_Fo_settle 31 = .ok (.iload_n 2, 1) := by decide +kernel
theorem d_Fo_settle_32 : decode b_Fo_settle 32 = .ok (.invokevirtual 44, 3) := by decide +kernel
theorem d_Fo_settle_35 : decode b_Fo_settle 35 = .ok (.goto 4, 3) := by decide +kernel
theorem d_Fo_settle_38 : decode b_Fo_settle 38 = .ok (.iload_n 2, 1) := by decide +kernel
theorem d_Fo_settle_39 : decode b_Fo_settle 39 = .ok (.iastore, 1) := by decide +kernel
theorem d_Fo_settle_40 : decode b_Fo_settle 40 = .ok (.iinc 2 1, 3) := by decide +kernel
theorem d_Fo_settle_43 : decode b_Fo_settle 43 = .ok (.goto (-41), 3) := by decide +kernel
theorem d_Fo_settle_46 : decode b_Fo_settle 46 = .ok (.iconst 0, 1) := by decide +kernel
theorem d_Fo_settle_47 : decode b_Fo_settle 47 = .ok (.istore_n 2, 1) := by decide +kernel
theorem d_Fo_settle_48 : decode b_Fo_settle 48 = .ok (.iload_n 2, 1) := by decide +kernel
theorem d_Fo_settle_49 : decode b_Fo_settle 49 = .ok (.bipush 96, 2) := by decide +kernel
theorem d_Fo_settle_51 : decode b_Fo_settle 51 = .ok (.if_icmp .ge 19, 3) := by decide +kernel
theorem d_Fo_settle_54 : decode b_Fo_settle 54 = .ok (.aload_n 0, 1) := by decide +kernel
theorem d_Fo_settle_55 : decode b_Fo_settle 55 = .ok (.invokevirtual 48, 3) := by decide +kernel
theorem d_Fo_settle_58 : decode b_Fo_settle 58 = .ok (.ifCond .ne 6, 3) := by decide +kernel
theorem d_Fo_settle_61 : decode b_Fo_settle 61 = .ok (.goto 9, 3) := by decide +kernel
theorem d_Fo_settle_64 : decode b_Fo_settle 64 = .ok (.iinc 2 1, 3) := by decide +kernel
theorem d_Fo_settle_67 : decode b_Fo_settle 67 = .ok (.goto (-19), 3) := by decide +kernel
theorem d_Fo_settle_70 : decode b_Fo_settle 70 = .ok (.return_, 1) := by decide +kernel
theorem d_Is_placeOf_0 : decode b_Is_placeOf 0 = .ok (.aload_n 0, 1) := by decide +kernel
theorem d_Is_placeOf_1 : decode b_Is_placeOf 1 = .ok (.getfield 40, 3) := by decide +kernel
theorem d_Is_placeOf_4 : decode b_Is_placeOf 4 = .ok (.getfield 128, 3) := by decide +kernel
theorem d_Is_placeOf_7 : decode b_Is_placeOf 7 = .ok (.aload_n 0, 1) := by decide +kernel
theorem d_Is_placeOf_8 : decode b_Is_placeOf 8 = .ok (.getfield 28, 3) := by decide +kernel
theorem d_Is_placeOf_11 : decode b_Is_placeOf 11 = .ok (.getfield 88, 3) := by decide +kernel
theorem d_Is_placeOf_14 : decode b_Is_placeOf 14 = .ok (.iload_n 1, 1) := by decide +kernel
theorem d_Is_placeOf_15 : decode b_Is_placeOf 15 = .ok (.iaload, 1) := by decide +kernel
theorem d_Is_placeOf_16 : decode b_Is_placeOf 16 = .ok (.iaload, 1) := by decide +kernel
theorem d_Is_placeOf_17 : decode b_Is_placeOf 17 = .ok (.aload_n 0, 1) := by decide +kernel
theorem d_Is_placeOf_18 : decode b_Is_placeOf 18 = .ok (.getfield 28, 3) := by decide +kernel
theorem d_Is_placeOf_21 : decode b_Is_placeOf 21 = .ok (.getfield 131, 3) := by decide +kernel
theorem d_Is_placeOf_24 : decode b_Is_placeOf 24 = .ok (.iload_n 1, 1) := by decide +kernel
theorem d_Is_placeOf_25 : decode b_Is_placeOf 25 = .ok (.iaload, 1) := by decide +kernel
theorem d_Is_placeOf_26 : decode b_Is_placeOf 26 = .ok (.iadd, 1) := by decide +kernel
theorem d_Is_placeOf_27 : decode b_Is_placeOf 27 = .ok (.ireturn, 1) := by decide +kernel
theorem d_Is_isNear_0 : decode b_Is_isNear 0 = .ok (.iload_n 2, 1) := by decide +kernel
theorem d_Is_isNear_1 : decode b_Is_isNear 1 = .ok (.i2l, 1) := by decide +kernel
theorem d_Is_isNear_2 : decode b_Is_isNear 2 = .ok (.aload_n 0, 1) := by decide +kernel
theorem d_Is_isNear_3 : decode b_Is_isNear 3 = .ok (.iload_n 1, 1) := by decide +kernel
theorem d_Is_isNear_4 : decode b_Is_isNear 4 = .ok (.invokevirtual 137, 3) := by decide +kernel
theorem d_Is_isNear_7 : decode b_Is_isNear 7 = .ok (.i2l, 1) := by decide +kernel
theorem d_Is_isNear_8 : decode b_Is_isNear 8 = .ok (.lsub, 1) := by decide +kernel
theorem d_Is_isNear_9 : decode b_Is_isNear 9 = .ok (.ldc2_w 140, 3) := by decide +kernel
theorem d_Is_isNear_12 : decode b_Is_isNear 12 = .ok (.lsub, 1) := by decide +kernel
theorem d_Is_isNear_13 : decode b_Is_isNear 13 = .ok (.lstore_n 3, 1) := by decide +kernel
theorem d_Is_isNear_14 : decode b_Is_isNear 14 = .ok (.lload_n 3, 1) := by decide +kernel
theorem d_Is_isNear_15 : decode b_Is_isNear 15 = .ok (.ldc2_w 140, 3) := by decide +kernel
theorem d_Is_isNear_18 : decode b_Is_isNear 18 = .ok (.lrem, 1) := by decide +kernel
theorem d_Is_isNear_19 : decode b_Is_isNear 19 = .ok (.lconst 0, 1) := by decide +kernel
theorem d_Is_isNear_20 : decode b_Is_isNear 20 = .ok (.lcmp, 1) := by decide +kernel
theorem d_Is_isNear_21 : decode b_Is_isNear 21 = .ok (.ifCond .ne 23, 3) := by decide +kernel
theorem d_Is_isNear_24 : decode b_Is_isNear 24 = .ok (.lload_n 3, 1) := by decide +kernel
theorem d_Is_isNear_25 : decode b_Is_isNear 25 = .ok (.ldc2_w 142, 3) := by decide +kernel
theorem d_Is_isNear_28 : decode b_Is_isNear 28 = .ok (.lcmp, 1) := by decide +kernel
theorem d_Is_isNear_29 : decode b_Is_isNear 29 = .ok (.ifCond .lt 15, 3) := by decide +kernel
theorem d_Is_isNear_32 : decode b_Is_isNear 32 = .ok (.lload_n 3, 1) := by decide +kernel
theorem d_Is_isNear_33 : decode b_Is_isNear 33 = .ok (.ldc2_w 144, 3) := by decide +kernel
theorem d_Is_isNear_36 : decode b_Is_isNear 36 = .ok (.lcmp, 1) := by decide +kernel
theorem d_Is_isNear_37 : decode b_Is_isNear 37 = .ok (.ifCond .gt 7, 3) := by decide +kernel
theorem d_Is_isNear_40 : decode b_Is_isNear 40 = .ok (.iconst 1, 1) := by decide +kernel
theorem d_Is_isNear_41 : decode b_Is_isNear 41 = .ok (.goto 4, 3) := by decide +kernel
theorem d_Is_isNear_44 : decode b_Is_isNear 44 = .ok (.iconst 0, 1) := by decide +kernel
theorem d_Is_isNear_45 : decode b_Is_isNear 45 = .ok (.ireturn, 1) := by decide +kernel
theorem d_Fo_isFolded_0 : decode b_Fo_isFolded 0 = .ok (.aload_n 0, 1) := by decide +kernel
theorem d_Fo_isFolded_1 : decode b_Fo_isFolded 1 = .ok (.getfield 9, 3) := by decide +kernel
theorem d_Fo_isFolded_4 : decode b_Fo_isFolded 4 = .ok (.iload_n 1, 1) := by decide +kernel
theorem d_Fo_isFolded_5 : decode b_Fo_isFolded 5 = .ok (.iaload, 1) := by decide +kernel
theorem d_Fo_isFolded_6 : decode b_Fo_isFolded 6 = .ok (.iload_n 1, 1) := by decide +kernel
theorem d_Fo_isFolded_7 : decode b_Fo_isFolded 7 = .ok (.if_icmp .eq 7, 3) := by decide +kernel
theorem d_Fo_isFolded_10 : decode b_Fo_isFolded 10 = .ok (.iconst 1, 1) := by decide +kernel
theorem d_Fo_isFolded_11 : decode b_Fo_isFolded 11 = .ok (.goto 4, 3) := by decide +kernel
theorem d_Fo_isFolded_14 : decode b_Fo_isFolded 14 = .ok (.iconst 0, 1) := by decide +kernel
theorem d_Fo_isFolded_15 : decode b_Fo_isFolded 15 = .ok (.ireturn, 1) := by decide +kernel
theorem d_La_isStanding_0 : decode b_La_isStanding 0 = .ok (.aload_n 0, 1) := by decide +kernel
theorem d_La_isStanding_1 : decode b_La_isStanding 1 = .ok (.getfield 26, 3) := by decide +kernel
theorem d_La_isStanding_4 : decode b_La_isStanding 4 = .ok (.getfield 77, 3) := by decide +kernel
theorem d_La_isStanding_7 : decode b_La_isStanding 7 = .ok (.iload_n 1, 1) := by decide +kernel
theorem d_La_isStanding_8 : decode b_La_isStanding 8 = .ok (.baload, 1) := by decide +kernel
theorem d_La_isStanding_9 : decode b_La_isStanding 9 = .ok (.ifCond .eq 18, 3) := by decide +kernel
theorem d_La_isStanding_12 : decode b_La_isStanding 12 = .ok (.aload_n 0, 1) := by decide +kernel
theorem d_La_isStanding_13 : decode b_La_isStanding 13 = .ok (.getfield 30, 3) := by decide +kernel
theorem d_La_isStanding_16 : decode b_La_isStanding 16 = .ok (.iload_n 1, 1) := by decide +kernel
theorem d_La_isStanding_17 : decode b_La_isStanding 17 = .ok (.invokevirtual 83, 3) := by decide +kernel
theorem d_La_isStanding_20 : decode b_La_isStanding 20 = .ok (.ifCond .ne 7, 3) := by decide +kernel
theorem d_La_isStanding_23 : decode b_La_isStanding 23 = .ok (.iconst 1, 1) := by decide +kernel
theorem d_La_isStanding_24 : decode b_La_isStanding 24 = .ok (.goto 4, 3) := by decide +kernel
theorem d_La_isStanding_27 : decode b_La_isStanding 27 = .ok (.iconst 0, 1) := by decide +kernel
theorem d_La_isStanding_28 : decode b_La_isStanding 28 = .ok (.ireturn, 1) := by decide +kernel
theorem d_Is_mayGo_0 : decode b_Is_mayGo 0 = .ok (.aload_n 0, 1) := by decide +kernel
theorem d_Is_mayGo_1 : decode b_Is_mayGo 1 = .ok (.getfield 28, 3) := by decide +kernel
theorem d_Is_mayGo_4 : decode b_Is_mayGo 4 = .ok (.getfield 88, 3) := by decide +kernel
theorem d_Is_mayGo_7 : decode b_Is_mayGo 7 = .ok (.iload_n 1, 1) := by decide +kernel
theorem d_Is_mayGo_8 : decode b_Is_mayGo 8 = .ok (.iaload, 1) := by decide +kernel
theorem d_Is_mayGo_9 : decode b_Is_mayGo 9 = .ok (.istore_n 2, 1) := by decide +kernel
theorem d_Is_mayGo_10 : decode b_Is_mayGo 10 = .ok (.aload_n 0, 1) := by decide +kernel
theorem d_Is_mayGo_11 : decode b_Is_mayGo 11 = .ok (.getfield 28, 3) := by decide +kernel
theorem d_Is_mayGo_14 : decode b_Is_mayGo 14 = .ok (.getfield 91, 3) := by decide +kernel
theorem d_Is_mayGo_17 : decode b_Is_mayGo 17 = .ok (.iload_n 1, 1) := by decide +kernel
theorem d_Is_mayGo_18 : decode b_Is_mayGo 18 = .ok (.iaload, 1) := by decide +kernel
theorem d_Is_mayGo_19 : decode b_Is_mayGo 19 = .ok (.iconst 4, 1) := by decide +kernel
theorem d_Is_mayGo_20 : decode b_Is_mayGo 20 = .ok (.if_icmp .ne 30, 3) := by decide +kernel
theorem d_Is_mayGo_23 : decode b_Is_mayGo 23 = .ok (.aload_n 0, 1) := by decide +kernel
theorem d_Is_mayGo_24 : decode b_Is_mayGo 24 = .ok (.getfield 24, 3) := by decide +kernel
theorem d_Is_mayGo_27 : decode b_Is_mayGo 27 = .ok (.getfield 94, 3) := by decide +kernel
theorem d_Is_mayGo_30 : decode b_Is_mayGo 30 = .ok (.iload_n 2, 1) := by decide +kernel
theorem d_Is_mayGo_31 : decode b_Is_mayGo 31 = .ok (.iaload, 1) := by decide +kernel
theorem d_Is_mayGo_32 : decode b_Is_mayGo 32 = .ok (.ifCond .ne 18, 3) := by decide +kernel
theorem d_Is_mayGo_35 : decode b_Is_mayGo 35 = .ok (.aload_n 0, 1) := by decide +kernel
theorem d_Is_mayGo_36 : decode b_Is_mayGo 36 = .ok (.getfield 40, 3) := by decide +kernel
theorem d_Is_mayGo_39 : decode b_Is_mayGo 39 = .ok (.iload_n 2, 1) := by decide +kernel
theorem d_Is_mayGo_40 : decode b_Is_mayGo 40 = .ok (.invokevirtual 99, 3) := by decide +kernel
theorem d_Is_mayGo_43 : decode b_Is_mayGo 43 = .ok (.ifCond .eq 7, 3) := by decide +kernel
theorem d_Is_mayGo_46 : decode b_Is_mayGo 46 = .ok (.iconst 1, 1) := by decide +kernel
theorem d_Is_mayGo_47 : decode b_Is_mayGo 47 = .ok (.goto 4, 3) := by decide +kernel
theorem d_Is_mayGo_50 : decode b_Is_mayGo 50 = .ok (.iconst 0, 1) := by decide +kernel
theorem d_Is_mayGo_51 : decode b_Is_mayGo 51 = .ok (.ireturn, 1) := by decide +kernel
theorem d_La_startOf_0 : decode b_La_startOf 0 = .ok (.iload_n 1, 1) := by decide +kernel
theorem d_La_startOf_1 : decode b_La_startOf 1 = .ok (.lookupswitch 41 #[(1, 27), (3, 34)], 27) := by decide +kernel
theorem d_La_startOf_28 : decode b_La_startOf 28 = .ok (.aload_n 0, 1) := by decide +kernel
theorem d_La_startOf_29 : decode b_La_startOf 29 = .ok (.getfield 9, 3) := by decide +kernel
theorem d_La_startOf_32 : decode b_La_startOf 32 = .ok (.iload_n 2, 1) := by decide +kernel
theorem d_La_startOf_33 : decode b_La_startOf 33 = .ok (.iaload, 1) := by decide +kernel
theorem d_La_startOf_34 : decode b_La_startOf 34 = .ok (.ireturn, 1) := by decide +kernel
theorem d_La_startOf_35 : decode b_La_startOf 35 = .ok (.aload_n 0, 1) := by decide +kernel
theorem d_La_startOf_36 : decode b_La_startOf 36 = .ok (.getfield 15, 3) := by decide +kernel
theorem d_La_startOf_39 : decode b_La_startOf 39 = .ok (.iload_n 2, 1) := by decide +kernel
theorem d_La_startOf_40 : decode b_La_startOf 40 = .ok (.iaload, 1) := by decide +kernel
theorem d_La_startOf_41 : decode b_La_startOf 41 = .ok (.ireturn, 1) := by decide +kernel
theorem d_La_startOf_42 : decode b_La_startOf 42 = .ok (.iconst 0, 1) := by decide +kernel
theorem d_La_startOf_43 : decode b_La_startOf 43 = .ok (.ireturn, 1) := by decide +kernel
theorem d_La_addressOf_0 : decode b_La_addressOf 0 = .ok (.aload_n 0, 1) := by decide +kernel
theorem d_La_addressOf_1 : decode b_La_addressOf 1 = .ok (.aload_n 0, 1) := by decide +kernel
theorem d_La_addressOf_2 : decode b_La_addressOf 2 = .ok (.getfield 22, 3) := by decide +kernel
theorem d_La_addressOf_5 : decode b_La_addressOf 5 = .ok (.getfield 98, 3) := by decide +kernel
theorem d_La_addressOf_8 : decode b_La_addressOf 8 = .ok (.iload_n 1, 1) := by decide +kernel
theorem d_La_addressOf_9 : decode b_La_addressOf 9 = .ok (.iaload, 1) := by decide +kernel
theorem d_La_addressOf_10 : decode b_La_addressOf 10 = .ok (.aload_n 0, 1) := by decide +kernel
theorem d_La_addressOf_11 : decode b_La_addressOf 11 = .ok (.getfield 22, 3) := by decide +kernel
theorem d_La_addressOf_14 : decode b_La_addressOf 14 = .ok (.getfield 101, 3) := by decide +kernel
theorem d_La_addressOf_17 : decode b_La_addressOf 17 = .ok (.iload_n 1, 1) := by decide +kernel
theorem d_La_addressOf_18 : decode b_La_addressOf 18 = .ok (.iaload, 1) := by decide +kernel
theorem d_La_addressOf_19 : decode b_La_addressOf 19 = .ok (.invokevirtual 104, 3) := by decide +kernel
theorem d_La_addressOf_22 : decode b_La_addressOf 22 = .ok (.aload_n 0, 1) := by decide +kernel
theorem d_La_addressOf_23 : decode b_La_addressOf 23 = .ok (.getfield 22, 3) := by decide +kernel
theorem d_La_addressOf_26 : decode b_La_addressOf 26 = .ok (.getfield 107, 3) := by decide +kernel
theorem d_La_addressOf_29 : decode b_La_addressOf 29 = .ok (.iload_n 1, 1) := by decide +kernel
theorem d_La_addressOf_30 : decode b_La_addressOf 30 = .ok (.iaload, 1) := by decide +kernel
theorem d_La_addressOf_31 : decode b_La_addressOf 31 = .ok (.iadd, 1) := by decide +kernel
theorem d_La_addressOf_32 : decode b_La_addressOf 32 = .ok (.ireturn, 1) := by decide +kernel
theorem d_Is_targetOf_0 : decode b_Is_targetOf 0 = .ok (.aload_n 0, 1) := by decide +kernel
theorem d_Is_targetOf_1 : decode b_Is_targetOf 1 = .ok (.getfield 40, 3) := by decide +kernel
theorem d_Is_targetOf_4 : decode b_Is_targetOf 4 = .ok (.aload_n 0, 1) := by decide +kernel
theorem d_Is_targetOf_5 : decode b_Is_targetOf 5 = .ok (.getfield 28, 3) := by decide +kernel
theorem d_Is_targetOf_8 : decode b_Is_targetOf 8 = .ok (.getfield 108, 3) := by decide +kernel
theorem d_Is_targetOf_11 : decode b_Is_targetOf 11 = .ok (.iload_n 1, 1) := by decide +kernel
theorem d_Is_targetOf_12 : decode b_Is_targetOf 12 = .ok (.iaload, 1) := by decide +kernel
theorem d_Is_targetOf_13 : decode b_Is_targetOf 13 = .ok (.invokevirtual 125, 3) := by decide +kernel
theorem d_Is_targetOf_16 : decode b_Is_targetOf 16 = .ok (.aload_n 0, 1) := by decide +kernel
theorem d_Is_targetOf_17 : decode b_Is_targetOf 17 = .ok (.getfield 28, 3) := by decide +kernel
theorem d_Is_targetOf_20 : decode b_Is_targetOf 20 = .ok (.getfield 122, 3) := by decide +kernel
theorem d_Is_targetOf_23 : decode b_Is_targetOf 23 = .ok (.iload_n 1, 1) := by decide +kernel
theorem d_Is_targetOf_24 : decode b_Is_targetOf 24 = .ok (.iaload, 1) := by decide +kernel
theorem d_Is_targetOf_25 : decode b_Is_targetOf 25 = .ok (.iadd, 1) := by decide +kernel
theorem d_Is_targetOf_26 : decode b_Is_targetOf 26 = .ok (.ireturn, 1) := by decide +kernel
theorem d_Is_firstStranded_0 : decode b_Is_firstStranded 0 = .ok (.iconst 0, 1) := by decide +kernel
theorem d_Is_firstStranded_1 : decode b_Is_firstStranded 1 = .ok (.istore_n 1, 1) := by decide +kernel
theorem d_Is_firstStranded_2 : decode b_Is_firstStranded 2 = .ok (.iload_n 1, 1) := by decide +kernel
theorem d_Is_firstStranded_3 : decode b_Is_firstStranded 3 = .ok (.aload_n 0, 1) := by decide +kernel
theorem d_Is_firstStranded_4 : decode b_Is_firstStranded 4 = .ok (.getfield 28, 3) := by decide +kernel
theorem d_Is_firstStranded_7 : decode b_Is_firstStranded 7 = .ok (.getfield 71, 3) := by decide +kernel
theorem d_Is_firstStranded_10 : decode b_Is_firstStranded 10 = .ok (.if_icmp .ge 52, 3) := by decide +kernel
theorem d_Is_firstStranded_13 : decode b_Is_firstStranded 13 = .ok (.aload_n 0, 1) := by decide +kernel
theorem d_Is_firstStranded_14 : decode b_Is_firstStranded 14 = .ok (.getfield 28, 3) := by decide +kernel
theorem d_Is_firstStranded_17 : decode b_Is_firstStranded 17 = .ok (.getfield 74, 3) := by decide +kernel
theorem d_Is_firstStranded_20 : decode b_Is_firstStranded 20 = .ok (.iload_n 1, 1) := by decide +kernel
theorem d_Is_firstStranded_21 : decode b_Is_firstStranded 21 = .ok (.iaload, 1) := by decide +kernel
theorem d_Is_firstStranded_22 : decode b_Is_firstStranded 22 = .ok (.istore_n 2, 1) := by decide +kernel
theorem d_Is_firstStranded_23 : decode b_Is_firstStranded 23 = .ok (.aload_n 0, 1) := by decide +kernel
theorem d_Is_firstStranded_24 : decode b_Is_firstStranded 24 = .ok (.getfield 21, 3) := by decide +kernel
theorem d_Is_firstStranded_27 : decode b_Is_firstStranded 27 = .ok (.iload_n 2, 1) := by decide +kernel
theorem d_Is_firstStranded_28 : decode b_Is_firstStranded 28 = .ok (.iaload, 1) := by decide +kernel
theorem d_Is_firstStranded_29 : decode b_Is_firstStranded 29 = .ok (.iconst (-1), 1) := by decide +kernel
theorem d_Is_firstStranded_30 : decode b_Is_firstStranded 30 = .ok (.if_icmp .ne 26, 3) := by decide +kernel
theorem d_Is_firstStranded_33 : decode b_Is_firstStranded 33 = .ok (.aload_n 0, 1) := by decide +kernel
theorem d_Is_firstStranded_34 : decode b_Is_firstStranded 34 = .ok (.iload_n 2, 1) := by decide +kernel
theorem d_Is_firstStranded_35 : decode b_Is_firstStranded 35 = .ok (.invokevirtual 77, 3) := by decide +kernel
theorem d_Is_firstStranded_38 : decode b_Is_firstStranded 38 = .ok (.ifCond .eq 18, 3) := by decide +kernel
theorem d_Is_firstStranded_41 : decode b_Is_firstStranded 41 = .ok (.aload_n 0, 1) := by decide +kernel
theorem d_Is_firstStranded_42 : decode b_Is_firstStranded 42 = .ok (.iload_n 2, 1) := by decide +kernel
theorem d_Is_firstStranded_43 : decode b_Is_firstStranded 43 = .ok (.aload_n 0, 1) := by decide +kernel
theorem d_Is_firstStranded_44 : decode b_Is_firstStranded 44 = .ok (.iload_n 2, 1) := by decide +kernel
theorem d_Is_firstStranded_45 : decode b_Is_firstStranded 45 = .ok (.invokevirtual 80, 3) := by decide +kernel
theorem d_Is_firstStranded_48 : decode b_Is_firstStranded 48 = .ok (.invokevirtual 84, 3) := by decide +kernel
theorem d_Is_firstStranded_51 : decode b_Is_firstStranded 51 = .ok (.ifCond .ne 5, 3) := by decide +kernel
theorem d_Is_firstStranded_54 : decode b_Is_firstStranded 54 = .ok (.iload_n 2, 1) := by decide +kernel
theorem d_Is_firstStranded_55 : decode b_Is_firstStranded 55 = .ok (.ireturn, 1) := by decide +kernel
theorem d_Is_firstStranded_56 : decode b_Is_firstStranded 56 = .ok (.iinc 1 1, 3) := by decide +kernel
theorem d_Is_firstStranded_59 : decode b_Is_firstStranded 59 = .ok (.goto (-57), 3) := by decide +kernel
theorem d_Is_firstStranded_62 : decode b_Is_firstStranded 62 = .ok (.iconst (-1), 1) := by decide +kernel
theorem d_Is_firstStranded_63 : decode b_Is_firstStranded 63 = .ok (.ireturn, 1) := by decide +kernel
end
section
set_option maxHeartbeats 4000000 in
set_option maxRecDepth 100000 in
theorem c_Fo_mayFold (l : Launch) (D : va_G) (cI cZ : ClassId) (a : Nat → Nat) {V : Sto} {p1 : Int32} {r : Int32} {V' : Sto} (h : f_Fo_mayFold V p1 = some (r, V')) : YMi l D cI cZ a shpC y_Fo_mayFold b_Fo_mayFold 2 (some .boolean) rm_Fo_mayFold [.ref (a 8), .int p1] V r V' := by
  refine YMi_of (by decide) (Nat.le_of_ble_eq_true rfl) ?_
  intro C hl hDD hcI hcZ ha hC hE
  subst hl hDD hcI hcZ ha
  show Y C shpC 2 0 [(0, .ref (C.a 8)), (1, .int p1)] [] V
  rw [f_Fo_mayFold] at h
  refine Y_aload_n (pc := 0) hC d_Fo_mayFold_0 rfl 0 rfl ?_
  refine Y_getR (pc := 1) hC sc_8 fl_Fo_30 rfl d_Fo_mayFold_1 ?_
  refine Y_getR (pc := 4) hC sc_7 fl_Fo_55 rfl d_Fo_mayFold_4 ?_
  refine Y_iload_n (pc := 7) hC d_Fo_mayFold_7 rfl 1 rfl ?_
  obtain ⟨hi, h⟩ := ck_some h
  refine Y_zald (pc := 8) hC sc_43 rfl hi d_Fo_mayFold_8 ?_
  refine Y_if_eq (pc := 9) hC 40 d_Fo_mayFold_9 rfl (fun cc_9 => ?_) (fun cc_9 => ?_)
  · have h := ifp cc_9 h
    refine Y_iconst (pc := 40) hC d_Fo_mayFold_40 ki_0 ?_
    exact Y_zret (pc := 41) hC hE d_Fo_mayFold_41 rfl h
  · have h := ifn cc_9 h
    refine Y_aload_n (pc := 12) hC d_Fo_mayFold_12 rfl 0 rfl ?_
    refine Y_getR (pc := 13) hC sc_8 fl_Fo_18 rfl d_Fo_mayFold_13 ?_
    refine Y_getR (pc := 16) hC sc_2 fl_Fo_61 rfl d_Fo_mayFold_16 ?_
    refine Y_iload_n (pc := 19) hC d_Fo_mayFold_19 rfl 1 rfl ?_
    obtain ⟨hi, h⟩ := ck_some h
    refine Y_iald (pc := 20) hC sc_16 rfl hi d_Fo_mayFold_20 ?_
    refine Y_if_ne (pc := 21) hC 40 d_Fo_mayFold_21 rfl (fun cc_21 => ?_) (fun cc_21 => ?_)
    · have h := ifn cc_21 h
      refine Y_iconst (pc := 40) hC d_Fo_mayFold_40 ki_0 ?_
      exact Y_zret (pc := 41) hC hE d_Fo_mayFold_41 rfl h
    · have h := ifp cc_21 h
      refine Y_aload_n (pc := 24) hC d_Fo_mayFold_24 rfl 0 rfl ?_
      refine Y_getR (pc := 25) hC sc_8 fl_Fo_18 rfl d_Fo_mayFold_25 ?_
      refine Y_getR (pc := 28) hC sc_2 fl_Fo_64 rfl d_Fo_mayFold_28 ?_
      refine Y_iload_n (pc := 31) hC d_Fo_mayFold_31 rfl 1 rfl ?_
      obtain ⟨hi, h⟩ := ck_some h
      refine Y_zald (pc := 32) hC sc_20 rfl hi d_Fo_mayFold_32 ?_
      refine Y_if_ne (pc := 33) hC 40 d_Fo_mayFold_33 rfl (fun cc_33 => ?_) (fun cc_33 => ?_)
      · have h := ifn cc_33 h
        refine Y_iconst (pc := 40) hC d_Fo_mayFold_40 ki_0 ?_
        exact Y_zret (pc := 41) hC hE d_Fo_mayFold_41 rfl h
      · have h := ifp cc_33 h
        refine Y_iconst (pc := 36) hC d_Fo_mayFold_36 ki_1 ?_
        refine Y_goto (pc := 37) hC 41 d_Fo_mayFold_37 rfl ?_
        exact Y_zret (pc := 41) hC hE d_Fo_mayFold_41 rfl h
set_option maxHeartbeats 4000000 in
set_option maxRecDepth 100000 in
theorem ylp_Fo_firstOfSameLook_2 {C : YC} {r : Int32} {V' : Sto} {x1 : Int32} {k34 : Int32 → Sto → RT} {k42 : Sto → RT} (hC : YF C R_Fo b_Fo_firstOfSameLook 3 rm_Fo_firstOfSameLook) (hE : YEi C .int shpC r V') (hk34 : ∀ (y2 : Int32) (V1 : Sto), k34 y2 V1 = some (r, V') → Y C shpC 3 34 [(2, .int y2)] [] V1) (hk42 : ∀ (V1 : Sto), k42 V1 = some (r, V') → Y C shpC 3 42 [(1, .int x1)] [] V1) : ∀ (n : Nat) (x2 : Int32) (V : Sto), lp_Fo_firstOfSameLook_2 x1 k34 k42 n x2 V = some (r, V') → Y C shpC 3 2 [(0, .ref (C.a 8)), (1, .int x1), (2, .int x2)] [] V := by
  intro n
  induction n with
  | zero =>
    intro x2 V h
    rw [lp_Fo_firstOfSameLook_2] at h
    cases h
  | succ n ih =>
    intro x2 V h
    rw [lp_Fo_firstOfSameLook_2] at h
    refine Y_iload_n (pc := 2) hC d_Fo_firstOfSameLook_2 rfl 2 rfl ?_
    refine Y_iload_n (pc := 3) hC d_Fo_firstOfSameLook_3 rfl 1 rfl ?_
    refine Y_icmp_ge (pc := 4) hC 42 d_Fo_firstOfSameLook_4 rfl (fun cc_4 => ?_) (fun cc_4 => ?_)
    · have h := ifp cc_4 h
      refine Y_sub (pc := 42) [1] rfl ?_
      exact hk42 _ h
    · have h := ifn cc_4 h
      refine Y_aload_n (pc := 7) hC d_Fo_firstOfSameLook_7 rfl 0 rfl ?_
      refine Y_getR (pc := 8) hC sc_8 fl_Fo_9 rfl d_Fo_firstOfSameLook_8 ?_
      refine Y_iload_n (pc := 11) hC d_Fo_firstOfSameLook_11 rfl 2 rfl ?_
      obtain ⟨hi, h⟩ := ck_some h
      refine Y_iald (pc := 12) hC sc_46 rfl hi d_Fo_firstOfSameLook_12 ?_
      refine Y_iload_n (pc := 13) hC d_Fo_firstOfSameLook_13 rfl 2 rfl ?_
      refine Y_icmp_ne (pc := 14) hC 36 d_Fo_firstOfSameLook_14 rfl (fun cc_14 => ?_) (fun cc_14 => ?_)
      · have h := ifn cc_14 h
        refine Y_iinc (pc := 36) hC (v := x2 + 1) (L' := [(2, .int (x2 + 1)), (0, .ref (C.a 8)), (1, .int x1)]) d_Fo_firstOfSameLook_36 2 rfl rfl (by decide) rfl ?_
        refine Y_goto (pc := 39) hC 2 d_Fo_firstOfSameLook_39 rfl ?_
        refine Y_sub (pc := 2) [1, 2, 0] rfl ?_
        exact ih _ _ h
      · have h := ifp cc_14 h
        refine Y_aload_n (pc := 17) hC d_Fo_firstOfSameLook_17 rfl 0 rfl ?_
        refine Y_iload_n (pc := 18) hC d_Fo_firstOfSameLook_18 rfl 2 rfl ?_
        obtain ⟨r1, V1, hc_r1, h⟩ := cl_some h
        refine Y_callV (pc := 19) hC (c_Fo_mayFold C.l C.D C.cI C.cZ C.a hc_r1) sc_8 cls_Fo ml_Fo_40 mv_Fo_mayFold (by decide) (Nat.le_of_ble_eq_true rfl) rfl d_Fo_firstOfSameLook_19 ?_
        refine Y_if_eq (pc := 22) hC 36 d_Fo_firstOfSameLook_22 rfl (fun cc_22 => ?_) (fun cc_22 => ?_)
        · have h := ifp cc_22 h
          refine Y_iinc (pc := 36) hC (v := x2 + 1) (L' := [(2, .int (x2 + 1)), (0, .ref (C.a 8)), (1, .int x1)]) d_Fo_firstOfSameLook_36 2 rfl rfl (by decide) rfl ?_
          refine Y_goto (pc := 39) hC 2 d_Fo_firstOfSameLook_39 rfl ?_
          refine Y_sub (pc := 2) [1, 2, 0] rfl ?_
          exact ih _ _ h
        · have h := ifn cc_22 h
          refine Y_aload_n (pc := 25) hC d_Fo_firstOfSameLook_25 rfl 0 rfl ?_
          refine Y_iload_n (pc := 26) hC d_Fo_firstOfSameLook_26 rfl 2 rfl ?_
          refine Y_iload_n (pc := 27) hC d_Fo_firstOfSameLook_27 rfl 1 rfl ?_
          obtain ⟨r2, V2, hc_r2, h⟩ := cl_some h
          refine Y_callV (pc := 28) hC (c_Fo_looksSame C.l C.D C.cI C.cZ C.a hc_r2) sc_8 cls_Fo ml_Fo_67 mv_Fo_looksSame (by decide) (Nat.le_of_ble_eq_true rfl) rfl d_Fo_firstOfSameLook_28 ?_
          refine Y_if_eq (pc := 31) hC 36 d_Fo_firstOfSameLook_31 rfl (fun cc_31 => ?_) (fun cc_31 => ?_)
          · have h := ifp cc_31 h
            refine Y_iinc (pc := 36) hC (v := x2 + 1) (L' := [(2, .int (x2 + 1)), (0, .ref (C.a 8)), (1, .int x1)]) d_Fo_firstOfSameLook_36 2 rfl rfl (by decide) rfl ?_
            refine Y_goto (pc := 39) hC 2 d_Fo_firstOfSameLook_39 rfl ?_
            refine Y_sub (pc := 2) [1, 2, 0] rfl ?_
            exact ih _ _ h
          · have h := ifn cc_31 h
            refine Y_sub (pc := 34) [2] rfl ?_
            exact hk34 _ _ h
set_option maxHeartbeats 4000000 in
set_option maxRecDepth 100000 in
theorem c_Fo_firstOfSameLook (l : Launch) (D : va_G) (cI cZ : ClassId) (a : Nat → Nat) {V : Sto} {p1 : Int32} {r : Int32} {V' : Sto} (h : f_Fo_firstOfSameLook V p1 = some (r, V')) : YMi l D cI cZ a shpC y_Fo_firstOfSameLook b_Fo_firstOfSameLook 3 (some .int) rm_Fo_firstOfSameLook [.ref (a 8), .int p1] V r V' := by
  refine YMi_of (by decide) (Nat.le_of_ble_eq_true rfl) ?_
  intro C hl hDD hcI hcZ ha hC hE
  subst hl hDD hcI hcZ ha
  show Y C shpC 3 0 [(0, .ref (C.a 8)), (1, .int p1)] [] V
  rw [f_Fo_firstOfSameLook] at h
  refine Y_iconst (pc := 0) hC d_Fo_firstOfSameLook_0 ki_0 ?_
  refine Y_istore_n (pc := 1) hC (L' := [(2, .int 0), (0, .ref (C.a 8)), (1, .int p1)]) d_Fo_firstOfSameLook_1 rfl (by decide) rfl ?_
  refine Y_sub (pc := 2) [1, 2, 0] rfl ?_
  refine ylp_Fo_firstOfSameLook_2 hC hE (fun y1 V3 h => ?_) (fun V4 h => ?_) FU _ _ h
  · have h := h
    refine Y_iload_n (pc := 34) hC d_Fo_firstOfSameLook_34 rfl 0 rfl ?_
    exact Y_iret (pc := 35) hC hE d_Fo_firstOfSameLook_35 h
  · have h := h
    refine Y_iload_n (pc := 42) hC d_Fo_firstOfSameLook_42 rfl 0 rfl ?_
    exact Y_iret (pc := 43) hC hE d_Fo_firstOfSameLook_43 h
set_option maxHeartbeats 4000000 in
set_option maxRecDepth 100000 in
theorem c_Fo_leaderOfMeant (l : Launch) (D : va_G) (cI cZ : ClassId) (a : Nat → Nat) {V : Sto} {p1 : Int32} {r : Int32} {V' : Sto} (h : f_Fo_leaderOfMeant V p1 = some (r, V')) : YMi l D cI cZ a shpC y_Fo_leaderOfMeant b_Fo_leaderOfMeant 3 (some .int) rm_Fo_leaderOfMeant [.ref (a 8), .int p1] V r V' := by
  refine YMi_of (by decide) (Nat.le_of_ble_eq_true rfl) ?_
  intro C hl hDD hcI hcZ ha hC hE
  subst hl hDD hcI hcZ ha
  show Y C shpC 3 0 [(0, .ref (C.a 8)), (1, .int p1)] [] V
  rw [f_Fo_leaderOfMeant] at h
  refine Y_aload_n (pc := 0) hC d_Fo_leaderOfMeant_0 rfl 0 rfl ?_
  refine Y_getR (pc := 1) hC sc_8 fl_Fo_26 rfl d_Fo_leaderOfMeant_1 ?_
  refine Y_getR (pc := 4) hC sc_6 fl_Fo_133 rfl d_Fo_leaderOfMeant_4 ?_
  refine Y_iload_n (pc := 7) hC d_Fo_leaderOfMeant_7 rfl 1 rfl ?_
  obtain ⟨hi, h⟩ := ck_some h
  refine Y_iald (pc := 8) hC sc_41 rfl hi d_Fo_leaderOfMeant_8 ?_
  refine Y_istore_n (pc := 9) hC (L' := [(2, .int (V 41 p1.toNatClampNeg)), (0, .ref (C.a 8)), (1, .int p1)]) d_Fo_leaderOfMeant_9 rfl (by decide) rfl ?_
  refine Y_aload_n (pc := 10) hC d_Fo_leaderOfMeant_10 rfl 1 rfl ?_
  refine Y_getR (pc := 11) hC sc_8 fl_Fo_26 rfl d_Fo_leaderOfMeant_11 ?_
  refine Y_getR (pc := 14) hC sc_6 fl_Fo_110 rfl d_Fo_leaderOfMeant_14 ?_
  refine Y_iload_n (pc := 17) hC d_Fo_leaderOfMeant_17 rfl 2 rfl ?_
  obtain ⟨hi, h⟩ := ck_some h
  refine Y_iald (pc := 18) hC sc_40 rfl hi d_Fo_leaderOfMeant_18 ?_
  refine Y_iconst (pc := 19) hC d_Fo_leaderOfMeant_19 ki_1 ?_
  refine Y_icmp_ne (pc := 20) hC 32 d_Fo_leaderOfMeant_20 rfl (fun cc_20 => ?_) (fun cc_20 => ?_)
  · have h := ifn cc_20 h
    refine Y_iload_n (pc := 32) hC d_Fo_leaderOfMeant_32 rfl 0 rfl ?_
    exact Y_iret (pc := 33) hC hE d_Fo_leaderOfMeant_33 h
  · have h := ifp cc_20 h
    refine Y_aload_n (pc := 23) hC d_Fo_leaderOfMeant_23 rfl 1 rfl ?_
    refine Y_getR (pc := 24) hC sc_8 fl_Fo_9 rfl d_Fo_leaderOfMeant_24 ?_
    refine Y_iload_n (pc := 27) hC d_Fo_leaderOfMeant_27 rfl 0 rfl ?_
    obtain ⟨hi, h⟩ := ck_some h
    refine Y_iald (pc := 28) hC sc_46 rfl hi d_Fo_leaderOfMeant_28 ?_
    refine Y_goto (pc := 29) hC 33 d_Fo_leaderOfMeant_29 rfl ?_
    exact Y_iret (pc := 33) hC hE d_Fo_leaderOfMeant_33 h
set_option maxHeartbeats 4000000 in
set_option maxRecDepth 100000 in
theorem ylp_Fo_hasSameTargets_2 {C : YC} {r : Int32} {V' : Sto} {x1 : Int32} {x2 : Int32} {k67 : Sto → RT} {k75 : Sto → RT} (hC : YF C R_Fo b_Fo_hasSameTargets 6 rm_Fo_hasSameTargets) (hE : YEi C .boolean shpC r V') (hk67 : ∀ (V1 : Sto), k67 V1 = some (r, V') → Y C shpC 6 67 [] [] V1) (hk75 : ∀ (V1 : Sto), k75 V1 = some (r, V') → Y C shpC 6 75 [] [] V1) : ∀ (n : Nat) (x3 : Int32) (V : Sto), lp_Fo_hasSameTargets_2 x1 x2 k67 k75 n x3 V = some (r, V') → Y C shpC 6 2 [(0, .ref (C.a 8)), (1, .int x1), (2, .int x2), (3, .int x3)] [] V := by
  intro n
  induction n with
  | zero =>
    intro x3 V h
    rw [lp_Fo_hasSameTargets_2] at h
    cases h
  | succ n ih =>
    intro x3 V h
    rw [lp_Fo_hasSameTargets_2] at h
    refine Y_iload_n (pc := 2) hC d_Fo_hasSameTargets_2 rfl 3 rfl ?_
    refine Y_aload_n (pc := 3) hC d_Fo_hasSameTargets_3 rfl 0 rfl ?_
    refine Y_getR (pc := 4) hC sc_8 fl_Fo_22 rfl d_Fo_hasSameTargets_4 ?_
    refine Y_iload_n (pc := 7) hC d_Fo_hasSameTargets_7 rfl 1 rfl ?_
    obtain ⟨r1, V1, hc_r1, h⟩ := cl_some h
    refine Y_callV (pc := 8) hC (c_Re_countOf C.l C.D C.cI C.cZ C.a hc_r1) sc_4 cls_Re ml_Fo_87 mv_Re_countOf (by decide) (Nat.le_of_ble_eq_true rfl) rfl d_Fo_hasSameTargets_8 ?_
    refine Y_icmp_ge (pc := 11) hC 75 d_Fo_hasSameTargets_11 rfl (fun cc_11 => ?_) (fun cc_11 => ?_)
    · have h := ifp cc_11 h
      refine Y_sub (pc := 75) [] rfl ?_
      exact hk75 _ h
    · have h := ifn cc_11 h
      refine Y_aload_n (pc := 14) hC d_Fo_hasSameTargets_14 rfl 0 rfl ?_
      refine Y_getR (pc := 15) hC sc_8 fl_Fo_22 rfl d_Fo_hasSameTargets_15 ?_
      refine Y_getR (pc := 18) hC sc_4 fl_Fo_98 rfl d_Fo_hasSameTargets_18 ?_
      refine Y_aload_n (pc := 21) hC d_Fo_hasSameTargets_21 rfl 0 rfl ?_
      refine Y_getR (pc := 22) hC sc_8 fl_Fo_22 rfl d_Fo_hasSameTargets_22 ?_
      refine Y_iload_n (pc := 25) hC d_Fo_hasSameTargets_25 rfl 1 rfl ?_
      refine Y_iload_n (pc := 26) hC d_Fo_hasSameTargets_26 rfl 3 rfl ?_
      obtain ⟨r2, V2, hc_r2, h⟩ := cl_some h
      refine Y_callV (pc := 27) hC (c_Re_pick C.l C.D C.cI C.cZ C.a hc_r2) sc_4 cls_Re ml_Fo_92 mv_Re_pick (by decide) (Nat.le_of_ble_eq_true rfl) rfl d_Fo_hasSameTargets_27 ?_
      obtain ⟨hi, h⟩ := ck_some h
      refine Y_iald (pc := 30) hC sc_30 rfl hi d_Fo_hasSameTargets_30 ?_
      refine Y_istore (pc := 31) hC (L' := [(4, .int (V2 30 r2.toNatClampNeg)), (0, .ref (C.a 8)), (1, .int x1), (2, .int x2), (3, .int x3)]) d_Fo_hasSameTargets_31 (by decide) rfl ?_
      refine Y_aload_n (pc := 33) hC d_Fo_hasSameTargets_33 rfl 1 rfl ?_
      refine Y_getR (pc := 34) hC sc_8 fl_Fo_22 rfl d_Fo_hasSameTargets_34 ?_
      refine Y_getR (pc := 37) hC sc_4 fl_Fo_98 rfl d_Fo_hasSameTargets_37 ?_
      refine Y_aload_n (pc := 40) hC d_Fo_hasSameTargets_40 rfl 1 rfl ?_
      refine Y_getR (pc := 41) hC sc_8 fl_Fo_22 rfl d_Fo_hasSameTargets_41 ?_
      refine Y_iload_n (pc := 44) hC d_Fo_hasSameTargets_44 rfl 3 rfl ?_
      refine Y_iload_n (pc := 45) hC d_Fo_hasSameTargets_45 rfl 4 rfl ?_
      obtain ⟨r3, V3, hc_r3, h⟩ := cl_some h
      refine Y_callV (pc := 46) hC (c_Re_pick C.l C.D C.cI C.cZ C.a hc_r3) sc_4 cls_Re ml_Fo_92 mv_Re_pick (by decide) (Nat.le_of_ble_eq_true rfl) rfl d_Fo_hasSameTargets_46 ?_
      obtain ⟨hi, h⟩ := ck_some h
      refine Y_iald (pc := 49) hC sc_30 rfl hi d_Fo_hasSameTargets_49 ?_
      refine Y_istore (pc := 50) hC (L' := [(5, .int (V3 30 r3.toNatClampNeg)), (4, .int (V2 30 r2.toNatClampNeg)), (0, .ref (C.a 8)), (1, .int x1), (2, .int x2), (3, .int x3)]) d_Fo_hasSameTargets_50 (by decide) rfl ?_
      refine Y_aload_n (pc := 52) hC d_Fo_hasSameTargets_52 rfl 2 rfl ?_
      refine Y_iload (pc := 53) hC d_Fo_hasSameTargets_53 1 rfl ?_
      obtain ⟨r4, V4, hc_r4, h⟩ := cl_some h
      refine Y_callV (pc := 55) hC (c_Fo_leaderOfMeant C.l C.D C.cI C.cZ C.a hc_r4) sc_8 cls_Fo ml_Fo_130 mv_Fo_leaderOfMeant (by decide) (Nat.le_of_ble_eq_true rfl) rfl d_Fo_hasSameTargets_55 ?_
      refine Y_aload_n (pc := 58) hC d_Fo_hasSameTargets_58 rfl 2 rfl ?_
      refine Y_iload (pc := 59) hC d_Fo_hasSameTargets_59 0 rfl ?_
      obtain ⟨r5, V5, hc_r5, h⟩ := cl_some h
      refine Y_callV (pc := 61) hC (c_Fo_leaderOfMeant C.l C.D C.cI C.cZ C.a hc_r5) sc_8 cls_Fo ml_Fo_130 mv_Fo_leaderOfMeant (by decide) (Nat.le_of_ble_eq_true rfl) rfl d_Fo_hasSameTargets_61 ?_
      refine Y_icmp_eq (pc := 64) hC 69 d_Fo_hasSameTargets_64 rfl (fun cc_64 => ?_) (fun cc_64 => ?_)
      · have h := ifp cc_64 h
        refine Y_iinc (pc := 69) hC (v := x3 + 1) (L' := [(3, .int (x3 + 1)), (5, .int (V3 30 r3.toNatClampNeg)), (4, .int (V2 30 r2.toNatClampNeg)), (0, .ref (C.a 8)), (1, .int x1), (2, .int x2)]) d_Fo_hasSameTargets_69 5 rfl rfl (by decide) rfl ?_
        refine Y_goto (pc := 72) hC 2 d_Fo_hasSameTargets_72 rfl ?_
        refine Y_sub (pc := 2) [3, 4, 5, 0] rfl ?_
        exact ih _ _ h
      · have h := ifn cc_64 h
        refine Y_sub (pc := 67) [] rfl ?_
        exact hk67 _ h
set_option maxHeartbeats 4000000 in
set_option maxRecDepth 100000 in
theorem c_Fo_hasSameTargets (l : Launch) (D : va_G) (cI cZ : ClassId) (a : Nat → Nat) {V : Sto} {p1 p2 : Int32} {r : Int32} {V' : Sto} (h : f_Fo_hasSameTargets V p1 p2 = some (r, V')) : YMi l D cI cZ a shpC y_Fo_hasSameTargets b_Fo_hasSameTargets 6 (some .boolean) rm_Fo_hasSameTargets [.ref (a 8), .int p1, .int p2] V r V' := by
  refine YMi_of (by decide) (Nat.le_of_ble_eq_true rfl) ?_
  intro C hl hDD hcI hcZ ha hC hE
  subst hl hDD hcI hcZ ha
  show Y C shpC 6 0 [(0, .ref (C.a 8)), (1, .int p1), (2, .int p2)] [] V
  rw [f_Fo_hasSameTargets] at h
  refine Y_iconst (pc := 0) hC d_Fo_hasSameTargets_0 ki_0 ?_
  refine Y_istore_n (pc := 1) hC (L' := [(3, .int 0), (0, .ref (C.a 8)), (1, .int p1), (2, .int p2)]) d_Fo_hasSameTargets_1 rfl (by decide) rfl ?_
  refine Y_sub (pc := 2) [1, 2, 3, 0] rfl ?_
  refine ylp_Fo_hasSameTargets_2 hC hE (fun V6 h => ?_) (fun V7 h => ?_) FU _ _ h
  · have h := h
    refine Y_iconst (pc := 67) hC d_Fo_hasSameTargets_67 ki_0 ?_
    exact Y_zret (pc := 68) hC hE d_Fo_hasSameTargets_68 rfl h
  · have h := h
    refine Y_iconst (pc := 75) hC d_Fo_hasSameTargets_75 ki_1 ?_
    exact Y_zret (pc := 76) hC hE d_Fo_hasSameTargets_76 rfl h
set_option maxHeartbeats 4000000 in
set_option maxRecDepth 100000 in
theorem ylp_Fo_firstOfSameTargets_7 {C : YC} {r : Int32} {V' : Sto} {x1 : Int32} {k46 : Int32 → Sto → RT} {k54 : Sto → RT} (hC : YF C R_Fo b_Fo_firstOfSameTargets 3 rm_Fo_firstOfSameTargets) (hE : YEi C .int shpC r V') (hk46 : ∀ (y2 : Int32) (V1 : Sto), k46 y2 V1 = some (r, V') → Y C shpC 3 46 [(2, .int y2)] [] V1) (hk54 : ∀ (V1 : Sto), k54 V1 = some (r, V') → Y C shpC 3 54 [(1, .int x1)] [] V1) : ∀ (n : Nat) (x2 : Int32) (V : Sto), lp_Fo_firstOfSameTargets_7 x1 k46 k54 n x2 V = some (r, V') → Y C shpC 3 7 [(0, .ref (C.a 8)), (1, .int x1), (2, .int x2)] [] V := by
  intro n
  induction n with
  | zero =>
    intro x2 V h
    rw [lp_Fo_firstOfSameTargets_7] at h
    cases h
  | succ n ih =>
    intro x2 V h
    rw [lp_Fo_firstOfSameTargets_7] at h
    refine Y_iload_n (pc := 7) hC d_Fo_firstOfSameTargets_7 rfl 2 rfl ?_
    refine Y_iload_n (pc := 8) hC d_Fo_firstOfSameTargets_8 rfl 1 rfl ?_
    refine Y_icmp_ge (pc := 9) hC 54 d_Fo_firstOfSameTargets_9 rfl (fun cc_9 => ?_) (fun cc_9 => ?_)
    · have h := ifp cc_9 h
      refine Y_sub (pc := 54) [1] rfl ?_
      exact hk54 _ h
    · have h := ifn cc_9 h
      refine Y_aload_n (pc := 12) hC d_Fo_firstOfSameTargets_12 rfl 0 rfl ?_
      refine Y_getR (pc := 13) hC sc_8 fl_Fo_15 rfl d_Fo_firstOfSameTargets_13 ?_
      refine Y_iload_n (pc := 16) hC d_Fo_firstOfSameTargets_16 rfl 2 rfl ?_
      obtain ⟨hi, h⟩ := ck_some h
      refine Y_iald (pc := 17) hC sc_47 rfl hi d_Fo_firstOfSameTargets_17 ?_
      refine Y_iload_n (pc := 18) hC d_Fo_firstOfSameTargets_18 rfl 2 rfl ?_
      refine Y_icmp_ne (pc := 19) hC 48 d_Fo_firstOfSameTargets_19 rfl (fun cc_19 => ?_) (fun cc_19 => ?_)
      · have h := ifn cc_19 h
        refine Y_iinc (pc := 48) hC (v := x2 + 1) (L' := [(2, .int (x2 + 1)), (0, .ref (C.a 8)), (1, .int x1)]) d_Fo_firstOfSameTargets_48 2 rfl rfl (by decide) rfl ?_
        refine Y_goto (pc := 51) hC 7 d_Fo_firstOfSameTargets_51 rfl ?_
        refine Y_sub (pc := 7) [1, 2, 0] rfl ?_
        exact ih _ _ h
      · have h := ifp cc_19 h
        refine Y_aload_n (pc := 22) hC d_Fo_firstOfSameTargets_22 rfl 0 rfl ?_
        refine Y_getR (pc := 23) hC sc_8 fl_Fo_9 rfl d_Fo_firstOfSameTargets_23 ?_
        refine Y_iload_n (pc := 26) hC d_Fo_firstOfSameTargets_26 rfl 2 rfl ?_
        obtain ⟨hi, h⟩ := ck_some h
        refine Y_iald (pc := 27) hC sc_46 rfl hi d_Fo_firstOfSameTargets_27 ?_
        refine Y_aload_n (pc := 28) hC d_Fo_firstOfSameTargets_28 rfl 0 rfl ?_
        refine Y_getR (pc := 29) hC sc_8 fl_Fo_9 rfl d_Fo_firstOfSameTargets_29 ?_
        refine Y_iload_n (pc := 32) hC d_Fo_firstOfSameTargets_32 rfl 1 rfl ?_
        obtain ⟨hi, h⟩ := ck_some h
        refine Y_iald (pc := 33) hC sc_46 rfl hi d_Fo_firstOfSameTargets_33 ?_
        refine Y_icmp_ne (pc := 34) hC 48 d_Fo_firstOfSameTargets_34 rfl (fun cc_34 => ?_) (fun cc_34 => ?_)
        · have h := ifn cc_34 h
          refine Y_iinc (pc := 48) hC (v := x2 + 1) (L' := [(2, .int (x2 + 1)), (0, .ref (C.a 8)), (1, .int x1)]) d_Fo_firstOfSameTargets_48 2 rfl rfl (by decide) rfl ?_
          refine Y_goto (pc := 51) hC 7 d_Fo_firstOfSameTargets_51 rfl ?_
          refine Y_sub (pc := 7) [1, 2, 0] rfl ?_
          exact ih _ _ h
        · have h := ifp cc_34 h
          refine Y_aload_n (pc := 37) hC d_Fo_firstOfSameTargets_37 rfl 0 rfl ?_
          refine Y_iload_n (pc := 38) hC d_Fo_firstOfSameTargets_38 rfl 2 rfl ?_
          refine Y_iload_n (pc := 39) hC d_Fo_firstOfSameTargets_39 rfl 1 rfl ?_
          obtain ⟨r1, V1, hc_r1, h⟩ := cl_some h
          refine Y_callV (pc := 40) hC (c_Fo_hasSameTargets C.l C.D C.cI C.cZ C.a hc_r1) sc_8 cls_Fo ml_Fo_127 mv_Fo_hasSameTargets (by decide) (Nat.le_of_ble_eq_true rfl) rfl d_Fo_firstOfSameTargets_40 ?_
          refine Y_if_eq (pc := 43) hC 48 d_Fo_firstOfSameTargets_43 rfl (fun cc_43 => ?_) (fun cc_43 => ?_)
          · have h := ifp cc_43 h
            refine Y_iinc (pc := 48) hC (v := x2 + 1) (L' := [(2, .int (x2 + 1)), (0, .ref (C.a 8)), (1, .int x1)]) d_Fo_firstOfSameTargets_48 2 rfl rfl (by decide) rfl ?_
            refine Y_goto (pc := 51) hC 7 d_Fo_firstOfSameTargets_51 rfl ?_
            refine Y_sub (pc := 7) [1, 2, 0] rfl ?_
            exact ih _ _ h
          · have h := ifn cc_43 h
            refine Y_sub (pc := 46) [2] rfl ?_
            exact hk46 _ _ h
set_option maxHeartbeats 4000000 in
set_option maxRecDepth 100000 in
theorem c_Fo_firstOfSameTargets (l : Launch) (D : va_G) (cI cZ : ClassId) (a : Nat → Nat) {V : Sto} {p1 : Int32} {r : Int32} {V' : Sto} (h : f_Fo_firstOfSameTargets V p1 = some (r, V')) : YMi l D cI cZ a shpC y_Fo_firstOfSameTargets b_Fo_firstOfSameTargets 3 (some .int) rm_Fo_firstOfSameTargets [.ref (a 8), .int p1] V r V' := by
  refine YMi_of (by decide) (Nat.le_of_ble_eq_true rfl) ?_
  intro C hl hDD hcI hcZ ha hC hE
  subst hl hDD hcI hcZ ha
  show Y C shpC 3 0 [(0, .ref (C.a 8)), (1, .int p1)] [] V
  rw [f_Fo_firstOfSameTargets] at h
  refine Y_aload_n (pc := 0) hC d_Fo_firstOfSameTargets_0 rfl 0 rfl ?_
  refine Y_getR (pc := 1) hC sc_8 fl_Fo_9 rfl d_Fo_firstOfSameTargets_1 ?_
  refine Y_iload_n (pc := 4) hC d_Fo_firstOfSameTargets_4 rfl 1 rfl ?_
  obtain ⟨hi, h⟩ := ck_some h
  refine Y_iald (pc := 5) hC sc_46 rfl hi d_Fo_firstOfSameTargets_5 ?_
  refine Y_istore_n (pc := 6) hC (L' := [(2, .int (V 46 p1.toNatClampNeg)), (0, .ref (C.a 8)), (1, .int p1)]) d_Fo_firstOfSameTargets_6 rfl (by decide) rfl ?_
  refine Y_sub (pc := 7) [1, 2, 0] rfl ?_
  refine ylp_Fo_firstOfSameTargets_7 hC hE (fun y1 V2 h => ?_) (fun V3 h => ?_) FU _ _ h
  · have h := h
    refine Y_iload_n (pc := 46) hC d_Fo_firstOfSameTargets_46 rfl 0 rfl ?_
    exact Y_iret (pc := 47) hC hE d_Fo_firstOfSameTargets_47 h
  · have h := h
    refine Y_iload_n (pc := 54) hC d_Fo_firstOfSameTargets_54 rfl 0 rfl ?_
    exact Y_iret (pc := 55) hC hE d_Fo_firstOfSameTargets_55 h
set_option maxHeartbeats 4000000 in
set_option maxRecDepth 100000 in
theorem ylp_Fo_split_4 {C : YC} {r : Int32} {V' : Sto} {k57 : Int32 → Sto → RT} (hC : YF C R_Fo b_Fo_split 3 rm_Fo_split) (hE : YEi C .boolean shpC r V') (hk57 : ∀ (y1 : Int32) (V1 : Sto), k57 y1 V1 = some (r, V') → Y C shpC 3 57 [(0, .ref (C.a 8)), (1, .int y1)] [] V1) : ∀ (n : Nat) (x1 x2 : Int32) (V : Sto), lp_Fo_split_4 k57 n x1 x2 V = some (r, V') → Y C shpC 3 4 [(0, .ref (C.a 8)), (1, .int x1), (2, .int x2)] [] V := by
  intro n
  induction n with
  | zero =>
    intro x1 x2 V h
    rw [lp_Fo_split_4] at h
    cases h
  | succ n ih =>
    intro x1 x2 V h
    rw [lp_Fo_split_4] at h
    refine Y_iload_n (pc := 4) hC d_Fo_split_4 rfl 2 rfl ?_
    refine Y_aload_n (pc := 5) hC d_Fo_split_5 rfl 0 rfl ?_
    refine Y_getR (pc := 6) hC sc_8 fl_Fo_18 rfl d_Fo_split_6 ?_
    refine Y_getI (pc := 9) hC sc_2 fl_Fo_34 rfl d_Fo_split_9 ?_
    refine Y_icmp_ge (pc := 12) hC 57 d_Fo_split_12 rfl (fun cc_12 => ?_) (fun cc_12 => ?_)
    · have h := ifp cc_12 h
      refine Y_sub (pc := 57) [0, 1] rfl ?_
      exact hk57 _ _ h
    · have h := ifn cc_12 h
      refine Y_aload_n (pc := 15) hC d_Fo_split_15 rfl 0 rfl ?_
      refine Y_getR (pc := 16) hC sc_8 fl_Fo_15 rfl d_Fo_split_16 ?_
      refine Y_iload_n (pc := 19) hC d_Fo_split_19 rfl 2 rfl ?_
      refine Y_aload_n (pc := 20) hC d_Fo_split_20 rfl 0 rfl ?_
      refine Y_iload_n (pc := 21) hC d_Fo_split_21 rfl 2 rfl ?_
      obtain ⟨r1, V1, hc_r1, h⟩ := cl_some h
      refine Y_callV (pc := 22) hC (c_Fo_firstOfSameTargets C.l C.D C.cI C.cZ C.a hc_r1) sc_8 cls_Fo ml_Fo_118 mv_Fo_firstOfSameTargets (by decide) (Nat.le_of_ble_eq_true rfl) rfl d_Fo_split_22 ?_
      obtain ⟨hi, h⟩ := ck_some h
      obtain ⟨V2, hV2, h⟩ := nm_some h
      refine Y_iast (pc := 25) hC sc_47 (by decide) rfl hi rfl hV2 d_Fo_split_25 ?_
      refine Y_iload_n (pc := 26) hC d_Fo_split_26 rfl 1 rfl ?_
      refine Y_if_ne (pc := 27) hC 45 d_Fo_split_27 rfl (fun cc_27 => ?_) (fun cc_27 => ?_)
      · have h := ifn cc_27 h
        refine Y_iconst (pc := 45) hC d_Fo_split_45 ki_1 ?_
        refine Y_goto (pc := 46) hC 50 d_Fo_split_46 rfl ?_
        refine Y_istore_n (pc := 50) hC (L' := [(1, .int 1), (0, .ref (C.a 8)), (2, .int x2)]) d_Fo_split_50 rfl (by decide) rfl ?_
        refine Y_iinc (pc := 51) hC (v := x2 + 1) (L' := [(2, .int (x2 + 1)), (1, .int 1), (0, .ref (C.a 8))]) d_Fo_split_51 2 rfl rfl (by decide) rfl ?_
        refine Y_goto (pc := 54) hC 4 d_Fo_split_54 rfl ?_
        refine Y_sub (pc := 4) [2, 1, 0] rfl ?_
        exact ih _ _ _ h
      · have h := ifp cc_27 h
        refine Y_aload_n (pc := 30) hC d_Fo_split_30 rfl 0 rfl ?_
        refine Y_getR (pc := 31) hC sc_8 fl_Fo_15 rfl d_Fo_split_31 ?_
        refine Y_iload_n (pc := 34) hC d_Fo_split_34 rfl 2 rfl ?_
        obtain ⟨hi, h⟩ := ck_some h
        refine Y_iald (pc := 35) hC sc_47 rfl hi d_Fo_split_35 ?_
        refine Y_aload_n (pc := 36) hC d_Fo_split_36 rfl 0 rfl ?_
        refine Y_getR (pc := 37) hC sc_8 fl_Fo_9 rfl d_Fo_split_37 ?_
        refine Y_iload_n (pc := 40) hC d_Fo_split_40 rfl 2 rfl ?_
        obtain ⟨hi, h⟩ := ck_some h
        refine Y_iald (pc := 41) hC sc_46 rfl hi d_Fo_split_41 ?_
        refine Y_icmp_eq (pc := 42) hC 49 d_Fo_split_42 rfl (fun cc_42 => ?_) (fun cc_42 => ?_)
        · have h := ifp cc_42 h
          refine Y_iconst (pc := 49) hC d_Fo_split_49 ki_0 ?_
          refine Y_istore_n (pc := 50) hC (L' := [(1, .int 0), (0, .ref (C.a 8)), (2, .int x2)]) d_Fo_split_50 rfl (by decide) rfl ?_
          refine Y_iinc (pc := 51) hC (v := x2 + 1) (L' := [(2, .int (x2 + 1)), (1, .int 0), (0, .ref (C.a 8))]) d_Fo_split_51 2 rfl rfl (by decide) rfl ?_
          refine Y_goto (pc := 54) hC 4 d_Fo_split_54 rfl ?_
          refine Y_sub (pc := 4) [2, 1, 0] rfl ?_
          exact ih _ _ _ h
        · have h := ifn cc_42 h
          refine Y_iconst (pc := 45) hC d_Fo_split_45 ki_1 ?_
          refine Y_goto (pc := 46) hC 50 d_Fo_split_46 rfl ?_
          refine Y_istore_n (pc := 50) hC (L' := [(1, .int 1), (0, .ref (C.a 8)), (2, .int x2)]) d_Fo_split_50 rfl (by decide) rfl ?_
          refine Y_iinc (pc := 51) hC (v := x2 + 1) (L' := [(2, .int (x2 + 1)), (1, .int 1), (0, .ref (C.a 8))]) d_Fo_split_51 2 rfl rfl (by decide) rfl ?_
          refine Y_goto (pc := 54) hC 4 d_Fo_split_54 rfl ?_
          refine Y_sub (pc := 4) [2, 1, 0] rfl ?_
          exact ih _ _ _ h
set_option maxHeartbeats 4000000 in
set_option maxRecDepth 100000 in
theorem c_Fo_split (l : Launch) (D : va_G) (cI cZ : ClassId) (a : Nat → Nat) {V : Sto} {r : Int32} {V' : Sto} (h : f_Fo_split V = some (r, V')) : YMi l D cI cZ a shpC y_Fo_split b_Fo_split 3 (some .boolean) rm_Fo_split [.ref (a 8)] V r V' := by
  refine YMi_of (by decide) (Nat.le_of_ble_eq_true rfl) ?_
  intro C hl hDD hcI hcZ ha hC hE
  subst hl hDD hcI hcZ ha
  show Y C shpC 3 0 [(0, .ref (C.a 8))] [] V
  rw [f_Fo_split] at h
  refine Y_iconst (pc := 0) hC d_Fo_split_0 ki_0 ?_
  refine Y_istore_n (pc := 1) hC (L' := [(1, .int 0), (0, .ref (C.a 8))]) d_Fo_split_1 rfl (by decide) rfl ?_
  refine Y_iconst (pc := 2) hC d_Fo_split_2 ki_0 ?_
  refine Y_istore_n (pc := 3) hC (L' := [(2, .int 0), (1, .int 0), (0, .ref (C.a 8))]) d_Fo_split_3 rfl (by decide) rfl ?_
  refine Y_sub (pc := 4) [2, 1, 0] rfl ?_
  refine ylp_Fo_split_4 hC hE (fun y1 V3 h => ?_) FU _ _ _ h
  refine Y_aload_n (pc := 57) hC d_Fo_split_57 rfl 0 rfl ?_
  refine Y_getR (pc := 58) hC sc_8 fl_Fo_15 rfl d_Fo_split_58 ?_
  refine Y_iconst (pc := 61) hC d_Fo_split_61 ki_0 ?_
  refine Y_aload_n (pc := 62) hC d_Fo_split_62 rfl 0 rfl ?_
  refine Y_getR (pc := 63) hC sc_8 fl_Fo_9 rfl d_Fo_split_63 ?_
  refine Y_iconst (pc := 66) hC d_Fo_split_66 ki_0 ?_
  refine Y_aload_n (pc := 67) hC d_Fo_split_67 rfl 0 rfl ?_
  refine Y_getR (pc := 68) hC sc_8 fl_Fo_18 rfl d_Fo_split_68 ?_
  refine Y_getI (pc := 71) hC sc_2 fl_Fo_34 rfl d_Fo_split_71 ?_
  obtain ⟨hcp, h⟩ := ck_some h
  obtain ⟨V4, hV4, h⟩ := nm_some h
  refine Y_copy (pc := 74) hC sc_47 sc_46 (by decide) rfl rfl hcp hV4 mc_Fo_121 (by decide) (Nat.le_of_ble_eq_true rfl) d_Fo_split_74 ?_
  refine Y_iload_n (pc := 77) hC d_Fo_split_77 rfl 1 rfl ?_
  obtain ⟨hbb, h⟩ := ck_some h
  exact Y_zret (pc := 78) hC hE d_Fo_split_78 hbb h
set_option maxHeartbeats 4000000 in
set_option maxRecDepth 100000 in
theorem ylp_Fo_settle_2 {C : YC} {r : Int32} {V' : Sto} {x1 : Int32} {k46 : Sto → RT} (hC : YF C R_Fo b_Fo_settle 3 rm_Fo_settle) (hE : YEv C shpC V') (hk46 : ∀ (V1 : Sto), k46 V1 = some (r, V') → Y C shpC 3 46 [(0, .ref (C.a 8))] [] V1) : ∀ (n : Nat) (x2 : Int32) (V : Sto), lp_Fo_settle_2 x1 k46 n x2 V = some (r, V') → Y C shpC 3 2 [(0, .ref (C.a 8)), (1, .int x1), (2, .int x2)] [] V := by
  intro n
  induction n with
  | zero =>
    intro x2 V h
    rw [lp_Fo_settle_2] at h
    cases h
  | succ n ih =>
    intro x2 V h
    rw [lp_Fo_settle_2] at h
    refine Y_iload_n (pc := 2) hC d_Fo_settle_2 rfl 2 rfl ?_
    refine Y_aload_n (pc := 3) hC d_Fo_settle_3 rfl 0 rfl ?_
    refine Y_getR (pc := 4) hC sc_8 fl_Fo_18 rfl d_Fo_settle_4 ?_
    refine Y_getI (pc := 7) hC sc_2 fl_Fo_34 rfl d_Fo_settle_7 ?_
    refine Y_icmp_ge (pc := 10) hC 46 d_Fo_settle_10 rfl (fun cc_10 => ?_) (fun cc_10 => ?_)
    · have h := ifp cc_10 h
      refine Y_sub (pc := 46) [0] rfl ?_
      exact hk46 _ h
    · have h := ifn cc_10 h
      refine Y_aload_n (pc := 13) hC d_Fo_settle_13 rfl 0 rfl ?_
      refine Y_getR (pc := 14) hC sc_8 fl_Fo_9 rfl d_Fo_settle_14 ?_
      refine Y_iload_n (pc := 17) hC d_Fo_settle_17 rfl 2 rfl ?_
      refine Y_iload_n (pc := 18) hC d_Fo_settle_18 rfl 1 rfl ?_
      refine Y_if_eq (pc := 19) hC 38 d_Fo_settle_19 rfl (fun cc_19 => ?_) (fun cc_19 => ?_)
      · have h := ifp cc_19 h
        refine Y_iload_n (pc := 38) hC d_Fo_settle_38 rfl 2 rfl ?_
        obtain ⟨hi, h⟩ := ck_some h
        obtain ⟨V1, hV1, h⟩ := nm_some h
        refine Y_iast (pc := 39) hC sc_46 (by decide) rfl hi rfl hV1 d_Fo_settle_39 ?_
        refine Y_iinc (pc := 40) hC (v := x2 + 1) (L' := [(2, .int (x2 + 1)), (0, .ref (C.a 8)), (1, .int x1)]) d_Fo_settle_40 2 rfl rfl (by decide) rfl ?_
        refine Y_goto (pc := 43) hC 2 d_Fo_settle_43 rfl ?_
        refine Y_sub (pc := 2) [1, 2, 0] rfl ?_
        exact ih _ _ h
      · have h := ifn cc_19 h
        refine Y_aload_n (pc := 22) hC d_Fo_settle_22 rfl 0 rfl ?_
        refine Y_iload_n (pc := 23) hC d_Fo_settle_23 rfl 2 rfl ?_
        obtain ⟨r1, V2, hc_r1, h⟩ := cl_some h
        refine Y_callV (pc := 24) hC (c_Fo_mayFold C.l C.D C.cI C.cZ C.a hc_r1) sc_8 cls_Fo ml_Fo_40 mv_Fo_mayFold (by decide) (Nat.le_of_ble_eq_true rfl) rfl d_Fo_settle_24 ?_
        refine Y_if_eq (pc := 27) hC 38 d_Fo_settle_27 rfl (fun cc_27 => ?_) (fun cc_27 => ?_)
        · have h := ifp cc_27 h
          refine Y_iload_n (pc := 38) hC d_Fo_settle_38 rfl 2 rfl ?_
          obtain ⟨hi, h⟩ := ck_some h
          obtain ⟨V3, hV3, h⟩ := nm_some h
          refine Y_iast (pc := 39) hC sc_46 (by decide) rfl hi rfl hV3 d_Fo_settle_39 ?_
          refine Y_iinc (pc := 40) hC (v := x2 + 1) (L' := [(2, .int (x2 + 1)), (0, .ref (C.a 8)), (1, .int x1)]) d_Fo_settle_40 2 rfl rfl (by decide) rfl ?_
          refine Y_goto (pc := 43) hC 2 d_Fo_settle_43 rfl ?_
          refine Y_sub (pc := 2) [1, 2, 0] rfl ?_
          exact ih _ _ h
        · have h := ifn cc_27 h
          refine Y_aload_n (pc := 30) hC d_Fo_settle_30 rfl 0 rfl ?_
          refine Y_iload_n (pc := 31) hC d_Fo_settle_31 rfl 2 rfl ?_
          obtain ⟨r2, V4, hc_r2, h⟩ := cl_some h
          refine Y_callV (pc := 32) hC (c_Fo_firstOfSameLook C.l C.D C.cI C.cZ C.a hc_r2) sc_8 cls_Fo ml_Fo_44 mv_Fo_firstOfSameLook (by decide) (Nat.le_of_ble_eq_true rfl) rfl d_Fo_settle_32 ?_
          refine Y_goto (pc := 35) hC 39 d_Fo_settle_35 rfl ?_
          obtain ⟨hi, h⟩ := ck_some h
          obtain ⟨V5, hV5, h⟩ := nm_some h
          refine Y_iast (pc := 39) hC sc_46 (by decide) rfl hi rfl hV5 d_Fo_settle_39 ?_
          refine Y_iinc (pc := 40) hC (v := x2 + 1) (L' := [(2, .int (x2 + 1)), (0, .ref (C.a 8)), (1, .int x1)]) d_Fo_settle_40 2 rfl rfl (by decide) rfl ?_
          refine Y_goto (pc := 43) hC 2 d_Fo_settle_43 rfl ?_
          refine Y_sub (pc := 2) [1, 2, 0] rfl ?_
          exact ih _ _ h
set_option maxHeartbeats 4000000 in
set_option maxRecDepth 100000 in
theorem ylp_Fo_settle_48 {C : YC} {r : Int32} {V' : Sto} {k70 : Sto → RT} (hC : YF C R_Fo b_Fo_settle 3 rm_Fo_settle) (hE : YEv C shpC V') (hk70 : ∀ (V1 : Sto), k70 V1 = some (r, V') → Y C shpC 3 70 [] [] V1) : ∀ (n : Nat) (x2 : Int32) (V : Sto), lp_Fo_settle_48 k70 n x2 V = some (r, V') → Y C shpC 3 48 [(0, .ref (C.a 8)), (2, .int x2)] [] V := by
  intro n
  induction n with
  | zero =>
    intro x2 V h
    rw [lp_Fo_settle_48] at h
    cases h
  | succ n ih =>
    intro x2 V h
    rw [lp_Fo_settle_48] at h
    refine Y_iload_n (pc := 48) hC d_Fo_settle_48 rfl 1 rfl ?_
    refine Y_bipush (pc := 49) hC d_Fo_settle_49 kb_96 ?_
    refine Y_icmp_ge (pc := 51) hC 70 d_Fo_settle_51 rfl (fun cc_51 => ?_) (fun cc_51 => ?_)
    · have h := ifp cc_51 h
      refine Y_sub (pc := 70) [] rfl ?_
      exact hk70 _ h
    · have h := ifn cc_51 h
      refine Y_aload_n (pc := 54) hC d_Fo_settle_54 rfl 0 rfl ?_
      obtain ⟨r3, V7, hc_r3, h⟩ := cl_some h
      refine Y_callV (pc := 55) hC (c_Fo_split C.l C.D C.cI C.cZ C.a hc_r3) sc_8 cls_Fo ml_Fo_48 mv_Fo_split (by decide) (Nat.le_of_ble_eq_true rfl) rfl d_Fo_settle_55 ?_
      refine Y_if_ne (pc := 58) hC 64 d_Fo_settle_58 rfl (fun cc_58 => ?_) (fun cc_58 => ?_)
      · have h := ifn cc_58 h
        refine Y_iinc (pc := 64) hC (v := x2 + 1) (L' := [(2, .int (x2 + 1)), (0, .ref (C.a 8))]) d_Fo_settle_64 1 rfl rfl (by decide) rfl ?_
        refine Y_goto (pc := 67) hC 48 d_Fo_settle_67 rfl ?_
        refine Y_sub (pc := 48) [1, 0] rfl ?_
        exact ih _ _ h
      · have h := ifp cc_58 h
        refine Y_goto (pc := 61) hC 70 d_Fo_settle_61 rfl ?_
        refine Y_sub (pc := 70) [] rfl ?_
        exact hk70 _ h
set_option maxHeartbeats 4000000 in
set_option maxRecDepth 100000 in
theorem c_Fo_settle (l : Launch) (D : va_G) (cI cZ : ClassId) (a : Nat → Nat) {V : Sto} {p1 : Int32} {r : Int32} {V' : Sto} (h : f_Fo_settle V p1 = some (r, V')) : YMv l D cI cZ a shpC y_Fo_settle b_Fo_settle 3 rm_Fo_settle [.ref (a 8), .int p1] V V' := by
  refine YMv_of (by decide) (Nat.le_of_ble_eq_true rfl) ?_
  intro C hl hDD hcI hcZ ha hC hE
  subst hl hDD hcI hcZ ha
  show Y C shpC 3 0 [(0, .ref (C.a 8)), (1, .int p1)] [] V
  rw [f_Fo_settle] at h
  refine Y_iconst (pc := 0) hC d_Fo_settle_0 ki_0 ?_
  refine Y_istore_n (pc := 1) hC (L' := [(2, .int 0), (0, .ref (C.a 8)), (1, .int p1)]) d_Fo_settle_1 rfl (by decide) rfl ?_
  refine Y_sub (pc := 2) [1, 2, 0] rfl ?_
  refine ylp_Fo_settle_2 hC hE (fun V6 h => ?_) FU _ _ h
  refine Y_iconst (pc := 46) hC d_Fo_settle_46 ki_0 ?_
  refine Y_istore_n (pc := 47) hC (L' := [(2, .int 0), (0, .ref (C.a 8))]) d_Fo_settle_47 rfl (by decide) rfl ?_
  refine Y_sub (pc := 48) [1, 0] rfl ?_
  refine ylp_Fo_settle_48 hC hE (fun V8 h => ?_) FU _ _ h
  exact Y_vret (pc := 70) hC hE d_Fo_settle_70 h
set_option maxHeartbeats 4000000 in
set_option maxRecDepth 100000 in
theorem c_Is_placeOf (l : Launch) (D : va_G) (cI cZ : ClassId) (a : Nat → Nat) {V : Sto} {p1 : Int32} {r : Int32} {V' : Sto} (h : f_Is_placeOf V p1 = some (r, V')) : YMi l D cI cZ a shpC y_Is_placeOf b_Is_placeOf 2 (some .int) rm_Is_placeOf [.ref (a 10), .int p1] V r V' := by
  refine YMi_of (by decide) (Nat.le_of_ble_eq_true rfl) ?_
  intro C hl hDD hcI hcZ ha hC hE
  subst hl hDD hcI hcZ ha
  show Y C shpC 2 0 [(0, .ref (C.a 10)), (1, .int p1)] [] V
  rw [f_Is_placeOf] at h
  refine Y_aload_n (pc := 0) hC d_Is_placeOf_0 rfl 0 rfl ?_
  refine Y_getR (pc := 1) hC sc_10 fl_Is_40 rfl d_Is_placeOf_1 ?_
  refine Y_getR (pc := 4) hC sc_9 fl_Is_128 rfl d_Is_placeOf_4 ?_
  refine Y_aload_n (pc := 7) hC d_Is_placeOf_7 rfl 0 rfl ?_
  refine Y_getR (pc := 8) hC sc_10 fl_Is_28 rfl d_Is_placeOf_8 ?_
  refine Y_getR (pc := 11) hC sc_4 fl_Is_88 rfl d_Is_placeOf_11 ?_
  refine Y_iload_n (pc := 14) hC d_Is_placeOf_14 rfl 1 rfl ?_
  obtain ⟨hi, h⟩ := ck_some h
  refine Y_iald (pc := 15) hC sc_27 rfl hi d_Is_placeOf_15 ?_
  obtain ⟨hi, h⟩ := ck_some h
  refine Y_iald (pc := 16) hC sc_48 rfl hi d_Is_placeOf_16 ?_
  refine Y_aload_n (pc := 17) hC d_Is_placeOf_17 rfl 0 rfl ?_
  refine Y_getR (pc := 18) hC sc_10 fl_Is_28 rfl d_Is_placeOf_18 ?_
  refine Y_getR (pc := 21) hC sc_4 fl_Is_131 rfl d_Is_placeOf_21 ?_
  refine Y_iload_n (pc := 24) hC d_Is_placeOf_24 rfl 1 rfl ?_
  obtain ⟨hi, h⟩ := ck_some h
  refine Y_iald (pc := 25) hC sc_28 rfl hi d_Is_placeOf_25 ?_
  refine Y_iadd (pc := 26) hC d_Is_placeOf_26 ?_
  exact Y_iret (pc := 27) hC hE d_Is_placeOf_27 h
set_option maxHeartbeats 4000000 in
set_option maxRecDepth 100000 in
theorem c_Is_isNear (l : Launch) (D : va_G) (cI cZ : ClassId) (a : Nat → Nat) {V : Sto} {p1 p2 : Int32} {r : Int32} {V' : Sto} (h : f_Is_isNear V p1 p2 = some (r, V')) : YMi l D cI cZ a shpC y_Is_isNear b_Is_isNear 5 (some .boolean) rm_Is_isNear [.ref (a 10), .int p1, .int p2] V r V' := by
  refine YMi_of (by decide) (Nat.le_of_ble_eq_true rfl) ?_
  intro C hl hDD hcI hcZ ha hC hE
  subst hl hDD hcI hcZ ha
  show Y C shpC 5 0 [(0, .ref (C.a 10)), (1, .int p1), (2, .int p2)] [] V
  rw [f_Is_isNear] at h
  refine Y_iload_n (pc := 0) hC d_Is_isNear_0 rfl 2 rfl ?_
  refine Y_i2l (pc := 1) hC d_Is_isNear_1 ?_
  refine Y_aload_n (pc := 2) hC d_Is_isNear_2 rfl 0 rfl ?_
  refine Y_iload_n (pc := 3) hC d_Is_isNear_3 rfl 1 rfl ?_
  obtain ⟨r1, V1, hc_r1, h⟩ := cl_some h
  refine Y_callV (pc := 4) hC (c_Is_placeOf C.l C.D C.cI C.cZ C.a hc_r1) sc_10 cls_Is ml_Is_137 mv_Is_placeOf (by decide) (Nat.le_of_ble_eq_true rfl) rfl d_Is_isNear_4 ?_
  refine Y_i2l (pc := 7) hC d_Is_isNear_7 ?_
  refine Y_lsub (pc := 8) hC d_Is_isNear_8 ?_
  refine Y_ldc2 (pc := 9) hC kd_Is_140 d_Is_isNear_9 ?_
  refine Y_lsub (pc := 12) hC d_Is_isNear_12 ?_
  refine Y_lstore_n (pc := 13) hC (L' := [(3, .long ((p2.toInt64 - r1.toInt64) - 4)), (0, .ref (C.a 10)), (1, .int p1), (2, .int p2)]) d_Is_isNear_13 rfl (by decide) rfl ?_
  refine Y_lload_n (pc := 14) hC d_Is_isNear_14 rfl 0 rfl ?_
  refine Y_ldc2 (pc := 15) hC kd_Is_140 d_Is_isNear_15 ?_
  refine Y_lrem (pc := 18) hC d_Is_isNear_18 (by decide) ?_
  refine Y_lconst (pc := 19) hC d_Is_isNear_19 (v := 0) rfl ?_
  refine Y_lcmp (pc := 20) hC d_Is_isNear_20 ?_
  refine Y_if_ne (pc := 21) hC 44 d_Is_isNear_21 rfl (fun cc_21 => ?_) (fun cc_21 => ?_)
  · have h := ifn cc_21 h
    refine Y_iconst (pc := 44) hC d_Is_isNear_44 ki_0 ?_
    exact Y_zret (pc := 45) hC hE d_Is_isNear_45 rfl h
  · have h := ifp cc_21 h
    refine Y_lload_n (pc := 24) hC d_Is_isNear_24 rfl 0 rfl ?_
    refine Y_ldc2 (pc := 25) hC kd_Is_142 d_Is_isNear_25 ?_
    refine Y_lcmp (pc := 28) hC d_Is_isNear_28 ?_
    refine Y_if_lt (pc := 29) hC 44 d_Is_isNear_29 rfl (fun cc_29 => ?_) (fun cc_29 => ?_)
    · have h := ifp cc_29 h
      refine Y_iconst (pc := 44) hC d_Is_isNear_44 ki_0 ?_
      exact Y_zret (pc := 45) hC hE d_Is_isNear_45 rfl h
    · have h := ifn cc_29 h
      refine Y_lload_n (pc := 32) hC d_Is_isNear_32 rfl 0 rfl ?_
      refine Y_ldc2 (pc := 33) hC kd_Is_144 d_Is_isNear_33 ?_
      refine Y_lcmp (pc := 36) hC d_Is_isNear_36 ?_
      refine Y_if_gt (pc := 37) hC 44 d_Is_isNear_37 rfl (fun cc_37 => ?_) (fun cc_37 => ?_)
      · have h := ifp cc_37 h
        refine Y_iconst (pc := 44) hC d_Is_isNear_44 ki_0 ?_
        exact Y_zret (pc := 45) hC hE d_Is_isNear_45 rfl h
      · have h := ifn cc_37 h
        refine Y_iconst (pc := 40) hC d_Is_isNear_40 ki_1 ?_
        refine Y_goto (pc := 41) hC 45 d_Is_isNear_41 rfl ?_
        exact Y_zret (pc := 45) hC hE d_Is_isNear_45 rfl h
set_option maxHeartbeats 4000000 in
set_option maxRecDepth 100000 in
theorem c_Fo_isFolded (l : Launch) (D : va_G) (cI cZ : ClassId) (a : Nat → Nat) {V : Sto} {p1 : Int32} {r : Int32} {V' : Sto} (h : f_Fo_isFolded V p1 = some (r, V')) : YMi l D cI cZ a shpC y_Fo_isFolded b_Fo_isFolded 2 (some .boolean) rm_Fo_isFolded [.ref (a 8), .int p1] V r V' := by
  refine YMi_of (by decide) (Nat.le_of_ble_eq_true rfl) ?_
  intro C hl hDD hcI hcZ ha hC hE
  subst hl hDD hcI hcZ ha
  show Y C shpC 2 0 [(0, .ref (C.a 8)), (1, .int p1)] [] V
  rw [f_Fo_isFolded] at h
  refine Y_aload_n (pc := 0) hC d_Fo_isFolded_0 rfl 0 rfl ?_
  refine Y_getR (pc := 1) hC sc_8 fl_Fo_9 rfl d_Fo_isFolded_1 ?_
  refine Y_iload_n (pc := 4) hC d_Fo_isFolded_4 rfl 1 rfl ?_
  obtain ⟨hi, h⟩ := ck_some h
  refine Y_iald (pc := 5) hC sc_46 rfl hi d_Fo_isFolded_5 ?_
  refine Y_iload_n (pc := 6) hC d_Fo_isFolded_6 rfl 1 rfl ?_
  refine Y_icmp_eq (pc := 7) hC 14 d_Fo_isFolded_7 rfl (fun cc_7 => ?_) (fun cc_7 => ?_)
  · have h := ifp cc_7 h
    refine Y_iconst (pc := 14) hC d_Fo_isFolded_14 ki_0 ?_
    exact Y_zret (pc := 15) hC hE d_Fo_isFolded_15 rfl h
  · have h := ifn cc_7 h
    refine Y_iconst (pc := 10) hC d_Fo_isFolded_10 ki_1 ?_
    refine Y_goto (pc := 11) hC 15 d_Fo_isFolded_11 rfl ?_
    exact Y_zret (pc := 15) hC hE d_Fo_isFolded_15 rfl h
set_option maxHeartbeats 4000000 in
set_option maxRecDepth 100000 in
theorem c_La_isStanding (l : Launch) (D : va_G) (cI cZ : ClassId) (a : Nat → Nat) {V : Sto} {p1 : Int32} {r : Int32} {V' : Sto} (h : f_La_isStanding V p1 = some (r, V')) : YMi l D cI cZ a shpC y_La_isStanding b_La_isStanding 2 (some .boolean) rm_La_isStanding [.ref (a 9), .int p1] V r V' := by
  refine YMi_of (by decide) (Nat.le_of_ble_eq_true rfl) ?_
  intro C hl hDD hcI hcZ ha hC hE
  subst hl hDD hcI hcZ ha
  show Y C shpC 2 0 [(0, .ref (C.a 9)), (1, .int p1)] [] V
  rw [f_La_isStanding] at h
  refine Y_aload_n (pc := 0) hC d_La_isStanding_0 rfl 0 rfl ?_
  refine Y_getR (pc := 1) hC sc_9 fl_La_26 rfl d_La_isStanding_1 ?_
  refine Y_getR (pc := 4) hC sc_7 fl_La_77 rfl d_La_isStanding_4 ?_
  refine Y_iload_n (pc := 7) hC d_La_isStanding_7 rfl 1 rfl ?_
  obtain ⟨hi, h⟩ := ck_some h
  refine Y_zald (pc := 8) hC sc_43 rfl hi d_La_isStanding_8 ?_
  refine Y_if_eq (pc := 9) hC 27 d_La_isStanding_9 rfl (fun cc_9 => ?_) (fun cc_9 => ?_)
  · have h := ifp cc_9 h
    refine Y_iconst (pc := 27) hC d_La_isStanding_27 ki_0 ?_
    exact Y_zret (pc := 28) hC hE d_La_isStanding_28 rfl h
  · have h := ifn cc_9 h
    refine Y_aload_n (pc := 12) hC d_La_isStanding_12 rfl 0 rfl ?_
    refine Y_getR (pc := 13) hC sc_9 fl_La_30 rfl d_La_isStanding_13 ?_
    refine Y_iload_n (pc := 16) hC d_La_isStanding_16 rfl 1 rfl ?_
    obtain ⟨r1, V1, hc_r1, h⟩ := cl_some h
    refine Y_callV (pc := 17) hC (c_Fo_isFolded C.l C.D C.cI C.cZ C.a hc_r1) sc_8 cls_Fo ml_La_83 mv_Fo_isFolded (by decide) (Nat.le_of_ble_eq_true rfl) rfl d_La_isStanding_17 ?_
    refine Y_if_ne (pc := 20) hC 27 d_La_isStanding_20 rfl (fun cc_20 => ?_) (fun cc_20 => ?_)
    · have h := ifn cc_20 h
      refine Y_iconst (pc := 27) hC d_La_isStanding_27 ki_0 ?_
      exact Y_zret (pc := 28) hC hE d_La_isStanding_28 rfl h
    · have h := ifp cc_20 h
      refine Y_iconst (pc := 23) hC d_La_isStanding_23 ki_1 ?_
      refine Y_goto (pc := 24) hC 28 d_La_isStanding_24 rfl ?_
      exact Y_zret (pc := 28) hC hE d_La_isStanding_28 rfl h
set_option maxHeartbeats 4000000 in
set_option maxRecDepth 100000 in
theorem c_Is_mayGo (l : Launch) (D : va_G) (cI cZ : ClassId) (a : Nat → Nat) {V : Sto} {p1 : Int32} {r : Int32} {V' : Sto} (h : f_Is_mayGo V p1 = some (r, V')) : YMi l D cI cZ a shpC y_Is_mayGo b_Is_mayGo 3 (some .boolean) rm_Is_mayGo [.ref (a 10), .int p1] V r V' := by
  refine YMi_of (by decide) (Nat.le_of_ble_eq_true rfl) ?_
  intro C hl hDD hcI hcZ ha hC hE
  subst hl hDD hcI hcZ ha
  show Y C shpC 3 0 [(0, .ref (C.a 10)), (1, .int p1)] [] V
  rw [f_Is_mayGo] at h
  refine Y_aload_n (pc := 0) hC d_Is_mayGo_0 rfl 0 rfl ?_
  refine Y_getR (pc := 1) hC sc_10 fl_Is_28 rfl d_Is_mayGo_1 ?_
  refine Y_getR (pc := 4) hC sc_4 fl_Is_88 rfl d_Is_mayGo_4 ?_
  refine Y_iload_n (pc := 7) hC d_Is_mayGo_7 rfl 1 rfl ?_
  obtain ⟨hi, h⟩ := ck_some h
  refine Y_iald (pc := 8) hC sc_27 rfl hi d_Is_mayGo_8 ?_
  refine Y_istore_n (pc := 9) hC (L' := [(2, .int (V 27 p1.toNatClampNeg)), (0, .ref (C.a 10)), (1, .int p1)]) d_Is_mayGo_9 rfl (by decide) rfl ?_
  refine Y_aload_n (pc := 10) hC d_Is_mayGo_10 rfl 1 rfl ?_
  refine Y_getR (pc := 11) hC sc_10 fl_Is_28 rfl d_Is_mayGo_11 ?_
  refine Y_getR (pc := 14) hC sc_4 fl_Is_91 rfl d_Is_mayGo_14 ?_
  refine Y_iload_n (pc := 17) hC d_Is_mayGo_17 rfl 2 rfl ?_
  obtain ⟨hi, h⟩ := ck_some h
  refine Y_iald (pc := 18) hC sc_29 rfl hi d_Is_mayGo_18 ?_
  refine Y_iconst (pc := 19) hC d_Is_mayGo_19 ki_4 ?_
  refine Y_icmp_ne (pc := 20) hC 50 d_Is_mayGo_20 rfl (fun cc_20 => ?_) (fun cc_20 => ?_)
  · have h := ifn cc_20 h
    refine Y_iconst (pc := 50) hC d_Is_mayGo_50 ki_0 ?_
    exact Y_zret (pc := 51) hC hE d_Is_mayGo_51 rfl h
  · have h := ifp cc_20 h
    refine Y_aload_n (pc := 23) hC d_Is_mayGo_23 rfl 1 rfl ?_
    refine Y_getR (pc := 24) hC sc_10 fl_Is_24 rfl d_Is_mayGo_24 ?_
    refine Y_getR (pc := 27) hC sc_2 fl_Is_94 rfl d_Is_mayGo_27 ?_
    refine Y_iload_n (pc := 30) hC d_Is_mayGo_30 rfl 0 rfl ?_
    obtain ⟨hi, h⟩ := ck_some h
    refine Y_iald (pc := 31) hC sc_16 rfl hi d_Is_mayGo_31 ?_
    refine Y_if_ne (pc := 32) hC 50 d_Is_mayGo_32 rfl (fun cc_32 => ?_) (fun cc_32 => ?_)
    · have h := ifn cc_32 h
      refine Y_iconst (pc := 50) hC d_Is_mayGo_50 ki_0 ?_
      exact Y_zret (pc := 51) hC hE d_Is_mayGo_51 rfl h
    · have h := ifp cc_32 h
      refine Y_aload_n (pc := 35) hC d_Is_mayGo_35 rfl 1 rfl ?_
      refine Y_getR (pc := 36) hC sc_10 fl_Is_40 rfl d_Is_mayGo_36 ?_
      refine Y_iload_n (pc := 39) hC d_Is_mayGo_39 rfl 0 rfl ?_
      obtain ⟨r1, V1, hc_r1, h⟩ := cl_some h
      refine Y_callV (pc := 40) hC (c_La_isStanding C.l C.D C.cI C.cZ C.a hc_r1) sc_9 cls_La ml_Is_99 mv_La_isStanding (by decide) (Nat.le_of_ble_eq_true rfl) rfl d_Is_mayGo_40 ?_
      refine Y_if_eq (pc := 43) hC 50 d_Is_mayGo_43 rfl (fun cc_43 => ?_) (fun cc_43 => ?_)
      · have h := ifp cc_43 h
        refine Y_iconst (pc := 50) hC d_Is_mayGo_50 ki_0 ?_
        exact Y_zret (pc := 51) hC hE d_Is_mayGo_51 rfl h
      · have h := ifn cc_43 h
        refine Y_iconst (pc := 46) hC d_Is_mayGo_46 ki_1 ?_
        refine Y_goto (pc := 47) hC 51 d_Is_mayGo_47 rfl ?_
        exact Y_zret (pc := 51) hC hE d_Is_mayGo_51 rfl h
set_option maxHeartbeats 4000000 in
set_option maxRecDepth 100000 in
theorem c_La_startOf (l : Launch) (D : va_G) (cI cZ : ClassId) (a : Nat → Nat) {V : Sto} {p1 p2 : Int32} {r : Int32} {V' : Sto} (h : f_La_startOf V p1 p2 = some (r, V')) : YMi l D cI cZ a shpC y_La_startOf b_La_startOf 3 (some .int) rm_La_startOf [.ref (a 9), .int p1, .int p2] V r V' := by
  refine YMi_of (by decide) (Nat.le_of_ble_eq_true rfl) ?_
  intro C hl hDD hcI hcZ ha hC hE
  subst hl hDD hcI hcZ ha
  show Y C shpC 3 0 [(0, .ref (C.a 9)), (1, .int p1), (2, .int p2)] [] V
  rw [f_La_startOf] at h
  refine Y_iload_n (pc := 0) hC d_La_startOf_0 rfl 1 rfl ?_
  by_cases cs_1_0 : p1 = 1
  · have h := ifp cs_1_0 h
    refine Y_lookup (pc := 1) hC (off := 27) 28 d_La_startOf_1 (by decide) (by rw [cs_1_0]; try rfl) rfl ?_
    refine Y_aload_n (pc := 28) hC d_La_startOf_28 rfl 0 rfl ?_
    refine Y_getR (pc := 29) hC sc_9 fl_La_9 rfl d_La_startOf_29 ?_
    refine Y_iload_n (pc := 32) hC d_La_startOf_32 rfl 2 rfl ?_
    obtain ⟨hi, h⟩ := ck_some h
    refine Y_iald (pc := 33) hC sc_48 rfl hi d_La_startOf_33 ?_
    exact Y_iret (pc := 34) hC hE d_La_startOf_34 h
  · have h := ifn cs_1_0 h
    by_cases cs_1_1 : p1 = 3
    · have h := ifp cs_1_1 h
      refine Y_lookup (pc := 1) hC (off := 34) 35 d_La_startOf_1 (by decide) (by rw [cs_1_1]; try rfl) rfl ?_
      refine Y_aload_n (pc := 35) hC d_La_startOf_35 rfl 0 rfl ?_
      refine Y_getR (pc := 36) hC sc_9 fl_La_15 rfl d_La_startOf_36 ?_
      refine Y_iload_n (pc := 39) hC d_La_startOf_39 rfl 2 rfl ?_
      obtain ⟨hi, h⟩ := ck_some h
      refine Y_iald (pc := 40) hC sc_49 rfl hi d_La_startOf_40 ?_
      exact Y_iret (pc := 41) hC hE d_La_startOf_41 h
    · have h := ifn cs_1_1 h
      have cn_0 := i32_ne cs_1_0
      have cn_1 := i32_ne cs_1_1
      simp only [i32lit_1, i32lit_3] at cn_0 cn_1
      refine Y_lookup (pc := 1) hC (off := 41) 42 d_La_startOf_1 (by decide) (by simp [Op.lookupswitch.offset, Ne.symm cn_0, cn_0, Ne.symm cn_1, cn_1]) rfl ?_
      refine Y_iconst (pc := 42) hC d_La_startOf_42 ki_0 ?_
      exact Y_iret (pc := 43) hC hE d_La_startOf_43 h
set_option maxHeartbeats 4000000 in
set_option maxRecDepth 100000 in
theorem c_La_addressOf (l : Launch) (D : va_G) (cI cZ : ClassId) (a : Nat → Nat) {V : Sto} {p1 : Int32} {r : Int32} {V' : Sto} (h : f_La_addressOf V p1 = some (r, V')) : YMi l D cI cZ a shpC y_La_addressOf b_La_addressOf 2 (some .int) rm_La_addressOf [.ref (a 9), .int p1] V r V' := by
  refine YMi_of (by decide) (Nat.le_of_ble_eq_true rfl) ?_
  intro C hl hDD hcI hcZ ha hC hE
  subst hl hDD hcI hcZ ha
  show Y C shpC 2 0 [(0, .ref (C.a 9)), (1, .int p1)] [] V
  rw [f_La_addressOf] at h
  refine Y_aload_n (pc := 0) hC d_La_addressOf_0 rfl 0 rfl ?_
  refine Y_aload_n (pc := 1) hC d_La_addressOf_1 rfl 0 rfl ?_
  refine Y_getR (pc := 2) hC sc_9 fl_La_22 rfl d_La_addressOf_2 ?_
  refine Y_getR (pc := 5) hC sc_6 fl_La_98 rfl d_La_addressOf_5 ?_
  refine Y_iload_n (pc := 8) hC d_La_addressOf_8 rfl 1 rfl ?_
  obtain ⟨hi, h⟩ := ck_some h
  refine Y_iald (pc := 9) hC sc_40 rfl hi d_La_addressOf_9 ?_
  refine Y_aload_n (pc := 10) hC d_La_addressOf_10 rfl 0 rfl ?_
  refine Y_getR (pc := 11) hC sc_9 fl_La_22 rfl d_La_addressOf_11 ?_
  refine Y_getR (pc := 14) hC sc_6 fl_La_101 rfl d_La_addressOf_14 ?_
  refine Y_iload_n (pc := 17) hC d_La_addressOf_17 rfl 1 rfl ?_
  obtain ⟨hi, h⟩ := ck_some h
  refine Y_iald (pc := 18) hC sc_41 rfl hi d_La_addressOf_18 ?_
  obtain ⟨r1, V1, hc_r1, h⟩ := cl_some h
  refine Y_callV (pc := 19) hC (c_La_startOf C.l C.D C.cI C.cZ C.a hc_r1) sc_9 cls_La ml_La_104 mv_La_startOf (by decide) (Nat.le_of_ble_eq_true rfl) rfl d_La_addressOf_19 ?_
  refine Y_aload_n (pc := 22) hC d_La_addressOf_22 rfl 0 rfl ?_
  refine Y_getR (pc := 23) hC sc_9 fl_La_22 rfl d_La_addressOf_23 ?_
  refine Y_getR (pc := 26) hC sc_6 fl_La_107 rfl d_La_addressOf_26 ?_
  refine Y_iload_n (pc := 29) hC d_La_addressOf_29 rfl 1 rfl ?_
  obtain ⟨hi, h⟩ := ck_some h
  refine Y_iald (pc := 30) hC sc_42 rfl hi d_La_addressOf_30 ?_
  refine Y_iadd (pc := 31) hC d_La_addressOf_31 ?_
  exact Y_iret (pc := 32) hC hE d_La_addressOf_32 h
set_option maxHeartbeats 4000000 in
set_option maxRecDepth 100000 in
theorem c_Is_targetOf (l : Launch) (D : va_G) (cI cZ : ClassId) (a : Nat → Nat) {V : Sto} {p1 : Int32} {r : Int32} {V' : Sto} (h : f_Is_targetOf V p1 = some (r, V')) : YMi l D cI cZ a shpC y_Is_targetOf b_Is_targetOf 2 (some .int) rm_Is_targetOf [.ref (a 10), .int p1] V r V' := by
  refine YMi_of (by decide) (Nat.le_of_ble_eq_true rfl) ?_
  intro C hl hDD hcI hcZ ha hC hE
  subst hl hDD hcI hcZ ha
  show Y C shpC 2 0 [(0, .ref (C.a 10)), (1, .int p1)] [] V
  rw [f_Is_targetOf] at h
  refine Y_aload_n (pc := 0) hC d_Is_targetOf_0 rfl 0 rfl ?_
  refine Y_getR (pc := 1) hC sc_10 fl_Is_40 rfl d_Is_targetOf_1 ?_
  refine Y_aload_n (pc := 4) hC d_Is_targetOf_4 rfl 0 rfl ?_
  refine Y_getR (pc := 5) hC sc_10 fl_Is_28 rfl d_Is_targetOf_5 ?_
  refine Y_getR (pc := 8) hC sc_4 fl_Is_108 rfl d_Is_targetOf_8 ?_
  refine Y_iload_n (pc := 11) hC d_Is_targetOf_11 rfl 1 rfl ?_
  obtain ⟨hi, h⟩ := ck_some h
  refine Y_iald (pc := 12) hC sc_30 rfl hi d_Is_targetOf_12 ?_
  obtain ⟨r1, V1, hc_r1, h⟩ := cl_some h
  refine Y_callV (pc := 13) hC (c_La_addressOf C.l C.D C.cI C.cZ C.a hc_r1) sc_9 cls_La ml_Is_125 mv_La_addressOf (by decide) (Nat.le_of_ble_eq_true rfl) rfl d_Is_targetOf_13 ?_
  refine Y_aload_n (pc := 16) hC d_Is_targetOf_16 rfl 0 rfl ?_
  refine Y_getR (pc := 17) hC sc_10 fl_Is_28 rfl d_Is_targetOf_17 ?_
  refine Y_getR (pc := 20) hC sc_4 fl_Is_122 rfl d_Is_targetOf_20 ?_
  refine Y_iload_n (pc := 23) hC d_Is_targetOf_23 rfl 1 rfl ?_
  obtain ⟨hi, h⟩ := ck_some h
  refine Y_iald (pc := 24) hC sc_31 rfl hi d_Is_targetOf_24 ?_
  refine Y_iadd (pc := 25) hC d_Is_targetOf_25 ?_
  exact Y_iret (pc := 26) hC hE d_Is_targetOf_26 h
set_option maxHeartbeats 4000000 in
set_option maxRecDepth 100000 in
theorem ylp_Is_firstStranded_2 {C : YC} {r : Int32} {V' : Sto} {k54 : Int32 → Sto → RT} {k62 : Sto → RT} (hC : YF C R_Is b_Is_firstStranded 3 rm_Is_firstStranded) (hE : YEi C .int shpC r V') (hk54 : ∀ (y2 : Int32) (V1 : Sto), k54 y2 V1 = some (r, V') → Y C shpC 3 54 [(2, .int y2)] [] V1) (hk62 : ∀ (V1 : Sto), k62 V1 = some (r, V') → Y C shpC 3 62 [] [] V1) : ∀ (n : Nat) (x1 : Int32) (V : Sto), lp_Is_firstStranded_2 k54 k62 n x1 V = some (r, V') → Y C shpC 3 2 [(0, .ref (C.a 10)), (1, .int x1)] [] V := by
  intro n
  induction n with
  | zero =>
    intro x1 V h
    rw [lp_Is_firstStranded_2] at h
    cases h
  | succ n ih =>
    intro x1 V h
    rw [lp_Is_firstStranded_2] at h
    refine Y_iload_n (pc := 2) hC d_Is_firstStranded_2 rfl 1 rfl ?_
    refine Y_aload_n (pc := 3) hC d_Is_firstStranded_3 rfl 0 rfl ?_
    refine Y_getR (pc := 4) hC sc_10 fl_Is_28 rfl d_Is_firstStranded_4 ?_
    refine Y_getI (pc := 7) hC sc_4 fl_Is_71 rfl d_Is_firstStranded_7 ?_
    refine Y_icmp_ge (pc := 10) hC 62 d_Is_firstStranded_10 rfl (fun cc_10 => ?_) (fun cc_10 => ?_)
    · have h := ifp cc_10 h
      refine Y_sub (pc := 62) [] rfl ?_
      exact hk62 _ h
    · have h := ifn cc_10 h
      refine Y_aload_n (pc := 13) hC d_Is_firstStranded_13 rfl 0 rfl ?_
      refine Y_getR (pc := 14) hC sc_10 fl_Is_28 rfl d_Is_firstStranded_14 ?_
      refine Y_getR (pc := 17) hC sc_4 fl_Is_74 rfl d_Is_firstStranded_17 ?_
      refine Y_iload_n (pc := 20) hC d_Is_firstStranded_20 rfl 1 rfl ?_
      obtain ⟨hi, h⟩ := ck_some h
      refine Y_iald (pc := 21) hC sc_32 rfl hi d_Is_firstStranded_21 ?_
      refine Y_istore_n (pc := 22) hC (L' := [(2, .int (V 32 x1.toNatClampNeg)), (0, .ref (C.a 10)), (1, .int x1)]) d_Is_firstStranded_22 rfl (by decide) rfl ?_
      refine Y_aload_n (pc := 23) hC d_Is_firstStranded_23 rfl 1 rfl ?_
      refine Y_getR (pc := 24) hC sc_10 fl_Is_21 rfl d_Is_firstStranded_24 ?_
      refine Y_iload_n (pc := 27) hC d_Is_firstStranded_27 rfl 0 rfl ?_
      obtain ⟨hi, h⟩ := ck_some h
      refine Y_iald (pc := 28) hC sc_53 rfl hi d_Is_firstStranded_28 ?_
      refine Y_iconst (pc := 29) hC d_Is_firstStranded_29 ki_m1 ?_
      refine Y_icmp_ne (pc := 30) hC 56 d_Is_firstStranded_30 rfl (fun cc_30 => ?_) (fun cc_30 => ?_)
      · have h := ifn cc_30 h
        refine Y_iinc (pc := 56) hC (v := x1 + 1) (L' := [(1, .int (x1 + 1)), (2, .int (V 32 x1.toNatClampNeg)), (0, .ref (C.a 10))]) d_Is_firstStranded_56 2 rfl rfl (by decide) rfl ?_
        refine Y_goto (pc := 59) hC 2 d_Is_firstStranded_59 rfl ?_
        refine Y_sub (pc := 2) [2, 0] rfl ?_
        exact ih _ _ h
      · have h := ifp cc_30 h
        refine Y_aload_n (pc := 33) hC d_Is_firstStranded_33 rfl 1 rfl ?_
        refine Y_iload_n (pc := 34) hC d_Is_firstStranded_34 rfl 0 rfl ?_
        obtain ⟨r1, V1, hc_r1, h⟩ := cl_some h
        refine Y_callV (pc := 35) hC (c_Is_mayGo C.l C.D C.cI C.cZ C.a hc_r1) sc_10 cls_Is ml_Is_77 mv_Is_mayGo (by decide) (Nat.le_of_ble_eq_true rfl) rfl d_Is_firstStranded_35 ?_
        refine Y_if_eq (pc := 38) hC 56 d_Is_firstStranded_38 rfl (fun cc_38 => ?_) (fun cc_38 => ?_)
        · have h := ifp cc_38 h
          refine Y_iinc (pc := 56) hC (v := x1 + 1) (L' := [(1, .int (x1 + 1)), (2, .int (V 32 x1.toNatClampNeg)), (0, .ref (C.a 10))]) d_Is_firstStranded_56 2 rfl rfl (by decide) rfl ?_
          refine Y_goto (pc := 59) hC 2 d_Is_firstStranded_59 rfl ?_
          refine Y_sub (pc := 2) [2, 0] rfl ?_
          exact ih _ _ h
        · have h := ifn cc_38 h
          refine Y_aload_n (pc := 41) hC d_Is_firstStranded_41 rfl 1 rfl ?_
          refine Y_iload_n (pc := 42) hC d_Is_firstStranded_42 rfl 0 rfl ?_
          refine Y_aload_n (pc := 43) hC d_Is_firstStranded_43 rfl 1 rfl ?_
          refine Y_iload_n (pc := 44) hC d_Is_firstStranded_44 rfl 0 rfl ?_
          obtain ⟨r2, V2, hc_r2, h⟩ := cl_some h
          refine Y_callV (pc := 45) hC (c_Is_targetOf C.l C.D C.cI C.cZ C.a hc_r2) sc_10 cls_Is ml_Is_80 mv_Is_targetOf (by decide) (Nat.le_of_ble_eq_true rfl) rfl d_Is_firstStranded_45 ?_
          obtain ⟨r3, V3, hc_r3, h⟩ := cl_some h
          refine Y_callV (pc := 48) hC (c_Is_isNear C.l C.D C.cI C.cZ C.a hc_r3) sc_10 cls_Is ml_Is_84 mv_Is_isNear (by decide) (Nat.le_of_ble_eq_true rfl) rfl d_Is_firstStranded_48 ?_
          refine Y_if_ne (pc := 51) hC 56 d_Is_firstStranded_51 rfl (fun cc_51 => ?_) (fun cc_51 => ?_)
          · have h := ifn cc_51 h
            refine Y_iinc (pc := 56) hC (v := x1 + 1) (L' := [(1, .int (x1 + 1)), (2, .int (V 32 x1.toNatClampNeg)), (0, .ref (C.a 10))]) d_Is_firstStranded_56 2 rfl rfl (by decide) rfl ?_
            refine Y_goto (pc := 59) hC 2 d_Is_firstStranded_59 rfl ?_
            refine Y_sub (pc := 2) [2, 0] rfl ?_
            exact ih _ _ h
          · have h := ifp cc_51 h
            refine Y_sub (pc := 54) [0] rfl ?_
            exact hk54 _ _ h
set_option maxHeartbeats 4000000 in
set_option maxRecDepth 100000 in
theorem c_Is_firstStranded (l : Launch) (D : va_G) (cI cZ : ClassId) (a : Nat → Nat) {V : Sto} {r : Int32} {V' : Sto} (h : f_Is_firstStranded V = some (r, V')) : YMi l D cI cZ a shpC y_Is_firstStranded b_Is_firstStranded 3 (some .int) rm_Is_firstStranded [.ref (a 10)] V r V' := by
  refine YMi_of (by decide) (Nat.le_of_ble_eq_true rfl) ?_
  intro C hl hDD hcI hcZ ha hC hE
  subst hl hDD hcI hcZ ha
  show Y C shpC 3 0 [(0, .ref (C.a 10))] [] V
  rw [f_Is_firstStranded] at h
  refine Y_iconst (pc := 0) hC d_Is_firstStranded_0 ki_0 ?_
  refine Y_istore_n (pc := 1) hC (L' := [(1, .int 0), (0, .ref (C.a 10))]) d_Is_firstStranded_1 rfl (by decide) rfl ?_
  refine Y_sub (pc := 2) [1, 0] rfl ?_
  refine ylp_Is_firstStranded_2 hC hE (fun y1 V4 h => ?_) (fun V5 h => ?_) FU _ _ h
  · have h := h
    refine Y_iload_n (pc := 54) hC d_Is_firstStranded_54 rfl 0 rfl ?_
    exact Y_iret (pc := 55) hC hE d_Is_firstStranded_55 h
  · have h := h
    refine Y_iconst (pc := 62) hC d_Is_firstStranded_62 ki_m1 ?_
    exact Y_iret (pc := 63) hC hE d_Is_firstStranded_63 h
end
section
def lp_Is_find_12 (x1 : Int32) (x2 : Int32) (k83 : Int32 → Sto → RT) (k91 : Sto → RT) : Nat → Int32 → Sto → RT
  | 0, _, _ => none
  | n + 1, x3, V =>
    if (V 10 5) ≤ x3 then
      k91 V
    else
    ck (ib x3 32) <|
    ck (ib x2 400) <|
    if (V 50 x3.toNatClampNeg) = (V 40 x2.toNatClampNeg) then
      ck (ib x3 32) <|
      cl (f_Fo_leaderOfMeant V x2) fun r1 V1 =>
      if (V 51 x3.toNatClampNeg) = r1 then
        ck (ib x3 32) <|
        ck (ib x2 400) <|
        ck (ib x1 600) <|
        if (V1 52 x3.toNatClampNeg) = ((V1 42 x2.toNatClampNeg) + (V1 31 x1.toNatClampNeg)) then
          k83 x3 V1
        else
        lp_Is_find_12 x1 x2 k83 k91 n (x3 + 1) V1
      else
      lp_Is_find_12 x1 x2 k83 k91 n (x3 + 1) V1
    else
    lp_Is_find_12 x1 x2 k83 k91 n (x3 + 1) V
def f_Is_find (V : Sto) (p1 : Int32) : RT :=
  ck (ib p1 600) <|
  lp_Is_find_12 p1 (V 30 p1.toNatClampNeg)
    (fun y1 V2 =>
      some (y1, V2))
    (fun V3 =>
      some (V3 10 5, V3)) FU 0 V
def f_Is_raise (V : Sto) (p1 : Int32) : RT :=
  ck (ib p1 600) <|
  ck (ib (V 30 p1.toNatClampNeg) 400) <|
  ck (ib (V 10 5) 32) <| nm (sw V 50 (V 10 5).toNatClampNeg (V 40 (V 30 p1.toNatClampNeg).toNatClampNeg)) fun V1 =>
  cl (f_Fo_leaderOfMeant V1 (V 30 p1.toNatClampNeg)) fun r1 V2 =>
  ck (ib (V1 10 5) 32) <| nm (sw V2 51 (V1 10 5).toNatClampNeg r1) fun V3 =>
  ck (ib (V 30 p1.toNatClampNeg) 400) <|
  ck (ib p1 600) <|
  ck (ib (V3 10 5) 32) <| nm (sw V3 52 (V3 10 5).toNatClampNeg ((V3 42 (V 30 p1.toNatClampNeg).toNatClampNeg) + (V3 31 p1.toNatClampNeg))) fun V4 =>
  nm (sw V4 10 5 ((V4 10 5) + 1)) fun V5 =>
  some (0, V5)
def f_Is_send (V : Sto) (p1 : Int32) : RT :=
  cl (f_Is_find V p1) fun r1 V1 =>
  if r1 = (V1 10 5) then
    if (V1 10 5) < 32 then
      cl (f_Is_raise V1 p1) fun r2 V4 =>
      ck (ib p1 600) <| nm (sw V4 53 p1.toNatClampNeg r1) fun V5 =>
      nm (sw V5 10 6 ((V5 10 6) + 1)) fun V6 =>
      some (1, V6)
    else
    some (0, V1)
  else
  ck (ib p1 600) <| nm (sw V1 53 p1.toNatClampNeg r1) fun V2 =>
  nm (sw V2 10 6 ((V2 10 6) + 1)) fun V3 =>
  some (1, V3)
def f_La_put (V : Sto) (p1 p2 : Int32) : RT :=
  nm (sw V 9 5 (((((V 9 5) + p2) - 1) &&& (-p2)) + p1)) fun V1 =>
  some ((((V 9 5) + p2) - 1) &&& (-p2), V1)
def lp_La_laySections_2 (x1 : Int32) (k100 : Sto → RT) : Nat → Int32 → Sto → RT
  | 0, _, _ => none
  | n + 1, x2, V =>
    if (V 2 0) ≤ x2 then
      k100 V
    else
    ck (ib x2 96) <|
    if (V 43 x2.toNatClampNeg) = 0 then
      lp_La_laySections_2 x1 k100 n (x2 + 1) V
    else
    ck (ib x2 96) <|
    if (V 16 x2.toNatClampNeg) = x1 then
      cl (f_Fo_isFolded V x2) fun r1 V1 =>
      if r1 = 0 then
        ck (ib x2 96) <|
        ck (ib x2 96) <|
        cl (f_La_put V1 (V1 17 x2.toNatClampNeg) (V1 18 x2.toNatClampNeg)) fun r2 V2 =>
        ck (ib x2 96) <| nm (sw V2 48 x2.toNatClampNeg r2) fun V3 =>
        lp_La_laySections_2 x1 k100 n (x2 + 1) V3
      else
      ck (ib x2 96) <|
      ck (ib (V1 46 x2.toNatClampNeg) 96) <|
      ck (ib x2 96) <| nm (sw V1 48 x2.toNatClampNeg (V1 48 (V1 46 x2.toNatClampNeg).toNatClampNeg)) fun V4 =>
      lp_La_laySections_2 x1 k100 n (x2 + 1) V4
    else
    lp_La_laySections_2 x1 k100 n (x2 + 1) V
def f_La_laySections (V : Sto) (p1 : Int32) : RT :=
  lp_La_laySections_2 p1
    (fun V5 =>
      some (0, V5)) FU 0 V
def lp_La_lay_48 (k93 : Sto → RT) : Nat → Int32 → Sto → RT
  | 0, _, _ => none
  | n + 1, x2, V =>
    if 200 ≤ x2 then
      k93 V
    else
    ck (ib x2 200) <|
    if (V 44 x2.toNatClampNeg) = 0 then
      lp_La_lay_48 k93 n (x2 + 1) V
    else
    ck (ib x2 200) <|
    cl (f_La_put V (V 39 x2.toNatClampNeg) 4) fun r5 V8 =>
    ck (ib x2 200) <| nm (sw V8 49 x2.toNatClampNeg r5) fun V9 =>
    lp_La_lay_48 k93 n (x2 + 1) V9
def f_La_lay (V : Sto) (p1 : Int32) : RT :=
  nm (sw V 9 6 ((V 9 6) + 1)) fun V1 =>
  nm (sw V1 9 5 (V1 9 4)) fun V2 =>
  cl (f_La_laySections V2 0) fun r1 V3 =>
  cl (f_La_put V3 (p1 * 8) 4) fun r2 V4 =>
  nm (sw V4 9 7 r2) fun V5 =>
  cl (f_La_laySections V5 1) fun r3 V6 =>
  cl (f_La_laySections V6 2) fun r4 V7 =>
  lp_La_lay_48
    (fun V10 =>
      some (0, V10)) FU 0 V7
def lp_fill53_5 (x1 : Int32) (x3 : Int32) (k20 : Sto → RT) : Nat → Int32 → Sto → RT
  | 0, _, _ => none
  | n + 1, x2, V =>
    if x3 ≤ x2 then
      k20 V
    else
    ck (ib x2 600) <| nm (sw V 53 x2.toNatClampNeg x1) fun V1 =>
    lp_fill53_5 x1 x3 k20 n (x2 + 1) V1
def f_fill53 (V : Sto) (p1 : Int32) : RT :=
  lp_fill53_5 p1 (nI 600)
    (fun V2 =>
      some (0, V2)) FU 0 V
def lp_Is_settle_31 (k59 : Sto → RT) (k78 : Sto → RT) : Nat → Int32 → Sto → RT
  | 0, _, _ => none
  | n + 1, x1, V =>
    if 600 < x1 then
      k78 V
    else
    cl (f_Is_firstStranded V) fun r3 V5 =>
    if r3 = (-1) then
      k78 V5
    else
    cl (f_Is_send V5 r3) fun r4 V6 =>
    if r4 = 0 then
      k59 V6
    else
    cl (f_La_lay V6 (V6 10 5)) fun r5 V7 =>
    lp_Is_settle_31 k59 k78 n (x1 + 1) V7
def f_Is_settle (V : Sto) : RT :=
  nm (sw V 10 5 0) fun V1 =>
  nm (sw V1 10 6 0) fun V2 =>
  cl (f_fill53 V2 (-1)) fun r1 V3 =>
  cl (f_La_lay V3 (V3 10 5)) fun r2 V4 =>
  lp_Is_settle_31
    (fun V8 =>
      some (0, V8))
    (fun V9 =>
      some (1, V9)) FU 0 V4
def lp_fill48_5 (x1 : Int32) (x3 : Int32) (k20 : Sto → RT) : Nat → Int32 → Sto → RT
  | 0, _, _ => none
  | n + 1, x2, V =>
    if x3 ≤ x2 then
      k20 V
    else
    ck (ib x2 96) <| nm (sw V 48 x2.toNatClampNeg x1) fun V1 =>
    lp_fill48_5 x1 x3 k20 n (x2 + 1) V1
def f_fill48 (V : Sto) (p1 : Int32) : RT :=
  lp_fill48_5 p1 (nI 96)
    (fun V2 =>
      some (0, V2)) FU 0 V
def lp_fill49_5 (x1 : Int32) (x3 : Int32) (k20 : Sto → RT) : Nat → Int32 → Sto → RT
  | 0, _, _ => none
  | n + 1, x2, V =>
    if x3 ≤ x2 then
      k20 V
    else
    ck (ib x2 200) <| nm (sw V 49 x2.toNatClampNeg x1) fun V1 =>
    lp_fill49_5 x1 x3 k20 n (x2 + 1) V1
def f_fill49 (V : Sto) (p1 : Int32) : RT :=
  lp_fill49_5 p1 (nI 200)
    (fun V2 =>
      some (0, V2)) FU 0 V
def f_La_begin (V : Sto) (p1 : Int32) : RT :=
  nm (sw V 9 4 p1) fun V1 =>
  nm (sw V1 9 6 0) fun V2 =>
  cl (f_fill48 V2 (-1)) fun r1 V3 =>
  cl (f_fill49 V3 (-1)) fun r2 V4 =>
  some (0, V4)
def f_Is_goalOf (V : Sto) (p1 p2 : Int32) : RT :=
  ck (ib p1 600) <|
  if (V 53 p1.toNatClampNeg) = (-1) then
    some (p2, V)
  else
  some ((V 9 7) + ((V 53 p1.toNatClampNeg) * 8), V)
def f_Me_isMended (V : Sto) (p1 p2 : Int32) : RT :=
  ck (ib p1 600) <|
  if (V 29 p1.toNatClampNeg) = p2 then
    ck (ib p1 600) <|
    cl (f_La_isStanding V (V 27 p1.toNatClampNeg)) fun r1 V1 =>
    if r1 = 0 then
      some (0, V1)
    else
    some (1, V1)
  else
  some (0, V)
def lp_Me_firstFar_2 (k59 : Int32 → Sto → RT) (k67 : Sto → RT) : Nat → Int32 → Sto → RT
  | 0, _, _ => none
  | n + 1, x1, V =>
    if (V 4 0) ≤ x1 then
      k67 V
    else
    ck (ib x1 600) <|
    cl (f_Me_isMended V (V 32 x1.toNatClampNeg) 4) fun r1 V1 =>
    if r1 = 0 then
      lp_Me_firstFar_2 k59 k67 n (x1 + 1) V1
    else
    cl (f_Is_targetOf V1 (V 32 x1.toNatClampNeg)) fun r2 V2 =>
    cl (f_Is_goalOf V2 (V 32 x1.toNatClampNeg) r2) fun r3 V3 =>
    cl (f_Is_isNear V3 (V 32 x1.toNatClampNeg) r3) fun r4 V4 =>
    if r4 = 0 then
      k59 (V 32 x1.toNatClampNeg) V4
    else
    lp_Me_firstFar_2 k59 k67 n (x1 + 1) V4
def f_Me_firstFar (V : Sto) : RT :=
  lp_Me_firstFar_2
    (fun y1 V5 =>
      some (y1, V5))
    (fun V6 =>
      some ((-1), V6)) FU 0 V
end
section
theorem fl_Is_44 : FL R_Is 44 10 5 := ⟨R_Is, F_Is, N_Is, rfl, by decide, i_Is, (mw 489 (by decide +kernel))⟩
theorem fl_Is_9 : FL R_Is 9 10 7 := ⟨R_Is, F_Is, N_Is, rfl, by decide, i_Is, (mw 493 (by decide +kernel))⟩
theorem fl_Is_32 : FL R_Is 32 10 2 := ⟨R_Is, F_Is, N_Is, rfl, by decide, i_Is, (mw 486 (by decide +kernel))⟩
theorem fl_Is_111 : FL R_Is 111 6 6 := ⟨R_Na, F_Na, N_Na, rfl, by decide, i_Na, (mw 337 (by decide +kernel))⟩
theorem fl_Is_15 : FL R_Is 15 10 8 := ⟨R_Is, F_Is, N_Is, rfl, by decide, i_Is, (mw 494 (by decide +kernel))⟩
theorem fl_Is_36 : FL R_Is 36 10 3 := ⟨R_Is, F_Is, N_Is, rfl, by decide, i_Is, (mw 487 (by decide +kernel))⟩
theorem ml_Is_114 : MLb R_Is 114 y_Fo_leaderOfMeant b_Fo_leaderOfMeant 3 (some .int) 1 := ⟨(mw 1311 (by decide +kernel)), (mw 1382 (by decide +kernel)), (mw 91 (by decide +kernel)), by decide +kernel⟩
theorem fl_Is_18 : FL R_Is 18 10 9 := ⟨R_Is, F_Is, N_Is, rfl, by decide, i_Is, (mw 495 (by decide +kernel))⟩
theorem fl_Is_119 : FL R_Is 119 6 8 := ⟨R_Na, F_Na, N_Na, rfl, by decide, i_Na, (mw 347 (by decide +kernel))⟩
theorem ft_Is_5 : FT 10 5 .int := ⟨R_Is, F_Is, N_Is, rfl, rfl, by decide +kernel⟩
theorem ml_Is_102 : MLb R_Is 102 y_Is_find b_Is_find 4 (some .int) 1 := ⟨(mw 1381 (by decide +kernel)), (mw 1378 (by decide +kernel)), (mw 93 (by decide +kernel)), by decide +kernel⟩
theorem mv_Is_find : MLv y_Is_find := ⟨(mw 1380 (by decide +kernel)), (mw 37 (by decide +kernel))⟩
theorem fl_Is_48 : FL R_Is 48 10 6 := ⟨R_Is, F_Is, N_Is, rfl, by decide, i_Is, (mw 491 (by decide +kernel))⟩
theorem ft_Is_6 : FT 10 6 .int := ⟨R_Is, F_Is, N_Is, rfl, rfl, by decide +kernel⟩
theorem kb_32 : (Int8.ofInt 32).toInt32 = 32 := by decide
theorem ml_Is_105 : MLb R_Is 105 y_Is_raise b_Is_raise 3 (none) 1 := ⟨(mw 1386 (by decide +kernel)), (mw 1383 (by decide +kernel)), (mw 93 (by decide +kernel)), by decide +kernel⟩
theorem mv_Is_raise : MLv y_Is_raise := ⟨(mw 1385 (by decide +kernel)), (mw 38 (by decide +kernel))⟩
theorem fl_La_47 : FL R_La 47 9 5 := ⟨R_La, F_La, N_La, rfl, by decide, i_La, (mw 444 (by decide +kernel))⟩
theorem ft_La_5 : FT 9 5 .int := ⟨R_La, F_La, N_La, rfl, rfl, by decide +kernel⟩
theorem fl_La_18 : FL R_La 18 9 0 := ⟨R_La, F_La, N_La, rfl, by decide, i_La, (mw 438 (by decide +kernel))⟩
theorem fl_La_72 : FL R_La 72 2 0 := ⟨R_Se, F_Se, N_Se, rfl, by decide, i_Se, (mw 158 (by decide +kernel))⟩
theorem fl_La_80 : FL R_La 80 2 5 := ⟨R_Se, F_Se, N_Se, rfl, by decide, i_Se, (mw 168 (by decide +kernel))⟩
theorem fl_La_92 : FL R_La 92 2 6 := ⟨R_Se, F_Se, N_Se, rfl, by decide, i_Se, (mw 172 (by decide +kernel))⟩
theorem fl_La_95 : FL R_La 95 2 7 := ⟨R_Se, F_Se, N_Se, rfl, by decide, i_Se, (mw 176 (by decide +kernel))⟩
theorem ml_La_54 : MLb R_La 54 y_La_put b_La_put 4 (some .int) 2 := ⟨(mw 1338 (by decide +kernel)), (mw 1335 (by decide +kernel)), (mw 92 (by decide +kernel)), by decide +kernel⟩
theorem mv_La_put : MLv y_La_put := ⟨(mw 1337 (by decide +kernel)), (mw 33 (by decide +kernel))⟩
theorem fl_La_89 : FL R_La 89 8 4 := ⟨R_Fo, F_Fo, N_Fo, rfl, by decide, i_Fo, (mw 416 (by decide +kernel))⟩
theorem fl_La_61 : FL R_La 61 7 5 := ⟨R_Rc, F_Rc, N_Rc, rfl, by decide, i_Rc, (mw 384 (by decide +kernel))⟩
theorem fl_La_67 : FL R_La 67 6 4 := ⟨R_Na, F_Na, N_Na, rfl, by decide, i_Na, (mw 332 (by decide +kernel))⟩
theorem fl_La_38 : FL R_La 38 9 6 := ⟨R_La, F_La, N_La, rfl, by decide, i_La, (mw 446 (by decide +kernel))⟩
theorem ft_La_6 : FT 9 6 .int := ⟨R_La, F_La, N_La, rfl, rfl, by decide +kernel⟩
theorem fl_La_34 : FL R_La 34 9 4 := ⟨R_La, F_La, N_La, rfl, by decide, i_La, (mw 442 (by decide +kernel))⟩
theorem ml_La_50 : MLb R_La 50 y_La_laySections b_La_laySections 3 (none) 1 := ⟨(mw 1330 (by decide +kernel)), (mw 1327 (by decide +kernel)), (mw 92 (by decide +kernel)), by decide +kernel⟩
theorem mv_La_laySections : MLv y_La_laySections := ⟨(mw 1329 (by decide +kernel)), (mw 32 (by decide +kernel))⟩
theorem kb_8 : (Int8.ofInt 8).toInt32 = 8 := by decide
theorem fl_La_58 : FL R_La 58 9 7 := ⟨R_La, F_La, N_La, rfl, by decide, i_La, (mw 448 (by decide +kernel))⟩
theorem ft_La_7 : FT 9 7 .int := ⟨R_La, F_La, N_La, rfl, rfl, by decide +kernel⟩
theorem ks_600 : (Int16.ofInt 600).toInt32 = 600 := by decide
theorem ml_Is_63 : MLb R_Is 63 y_Is_firstStranded b_Is_firstStranded 3 (some .int) 0 := ⟨(mw 1342 (by decide +kernel)), (mw 1339 (by decide +kernel)), (mw 93 (by decide +kernel)), by decide +kernel⟩
theorem mv_Is_firstStranded : MLv y_Is_firstStranded := ⟨(mw 1341 (by decide +kernel)), (mw 34 (by decide +kernel))⟩
theorem ml_Is_67 : MLb R_Is 67 y_Is_send b_Is_send 3 (some .boolean) 1 := ⟨(mw 1377 (by decide +kernel)), (mw 1374 (by decide +kernel)), (mw 93 (by decide +kernel)), by decide +kernel⟩
theorem mv_Is_send : MLv y_Is_send := ⟨(mw 1376 (by decide +kernel)), (mw 36 (by decide +kernel))⟩
theorem ml_Is_57 : MLb R_Is 57 y_La_lay b_La_lay 3 (none) 1 := ⟨(mw 1326 (by decide +kernel)), (mw 1323 (by decide +kernel)), (mw 92 (by decide +kernel)), by decide +kernel⟩
theorem mv_La_lay : MLv y_La_lay := ⟨(mw 1324 (by decide +kernel)), (mw 1325 (by decide +kernel))⟩
theorem ml_Is_51 : MLb R_Is 51 y_fill53 b_fill53 4 (none) 2 := ⟨(mw 1142 (by decide +kernel)), (mw 1322 (by decide +kernel)), (mw 103 (by decide +kernel)), by decide +kernel⟩
theorem ms_fill53 : Cond.static y_fill53 ∈ ALLW := (mw 1141 (by decide +kernel))
theorem ft_La_4 : FT 9 4 .int := ⟨R_La, F_La, N_La, rfl, rfl, by decide +kernel⟩
theorem ml_La_41 : MLb R_La 41 y_fill48 b_fill48 4 (none) 2 := ⟨(mw 1142 (by decide +kernel)), (mw 1317 (by decide +kernel)), (mw 103 (by decide +kernel)), by decide +kernel⟩
theorem ms_fill48 : Cond.static y_fill48 ∈ ALLW := (mw 1141 (by decide +kernel))
theorem ms_fill49 : Cond.static y_fill49 ∈ ALLW := (mw 1141 (by decide +kernel))
theorem fl_Is_134 : FL R_Is 134 9 7 := ⟨R_La, F_La, N_La, rfl, by decide, i_La, (mw 449 (by decide +kernel))⟩
theorem fl_Me_15 : FL R_Me 15 11 1 := ⟨R_Me, F_Me, N_Me, rfl, by decide, i_Me, (mw 527 (by decide +kernel))⟩
theorem fl_Me_54 : FL R_Me 54 4 3 := ⟨R_Re, F_Re, N_Re, rfl, by decide, i_Re, (mw 266 (by decide +kernel))⟩
theorem fl_Me_19 : FL R_Me 19 11 2 := ⟨R_Me, F_Me, N_Me, rfl, by decide, i_Me, (mw 528 (by decide +kernel))⟩
theorem fl_Me_57 : FL R_Me 57 4 1 := ⟨R_Re, F_Re, N_Re, rfl, by decide, i_Re, (mw 259 (by decide +kernel))⟩
theorem ml_Me_60 : MLb R_Me 60 y_La_isStanding b_La_isStanding 2 (some .boolean) 1 := ⟨(mw 1350 (by decide +kernel)), (mw 1395 (by decide +kernel)), (mw 92 (by decide +kernel)), by decide +kernel⟩
theorem fl_Me_27 : FL R_Me 27 4 0 := ⟨R_Re, F_Re, N_Re, rfl, by decide, i_Re, (mw 253 (by decide +kernel))⟩
theorem fl_Me_33 : FL R_Me 33 4 6 := ⟨R_Re, F_Re, N_Re, rfl, by decide, i_Re, (mw 278 (by decide +kernel))⟩
theorem ml_Me_37 : MLb R_Me 37 y_Me_isMended b_Me_isMended 3 (some .boolean) 2 := ⟨(mw 1394 (by decide +kernel)), (mw 1391 (by decide +kernel)), (mw 94 (by decide +kernel)), by decide +kernel⟩
theorem mv_Me_isMended : MLv y_Me_isMended := ⟨(mw 1393 (by decide +kernel)), (mw 39 (by decide +kernel))⟩
theorem fl_Me_23 : FL R_Me 23 11 3 := ⟨R_Me, F_Me, N_Me, rfl, by decide, i_Me, (mw 529 (by decide +kernel))⟩
theorem ml_Me_41 : MLb R_Me 41 y_Is_targetOf b_Is_targetOf 2 (some .int) 1 := ⟨(mw 1354 (by decide +kernel)), (mw 1396 (by decide +kernel)), (mw 93 (by decide +kernel)), by decide +kernel⟩
theorem ml_Me_47 : MLb R_Me 47 y_Is_goalOf b_Is_goalOf 4 (some .int) 2 := ⟨(mw 1400 (by decide +kernel)), (mw 1397 (by decide +kernel)), (mw 93 (by decide +kernel)), by decide +kernel⟩
theorem mv_Is_goalOf : MLv y_Is_goalOf := ⟨(mw 1398 (by decide +kernel)), (mw 1399 (by decide +kernel))⟩
theorem ml_Me_51 : MLb R_Me 51 y_Is_isNear b_Is_isNear 5 (some .boolean) 2 := ⟨(mw 1366 (by decide +kernel)), (mw 1401 (by decide +kernel)), (mw 93 (by decide +kernel)), by decide +kernel⟩
theorem d_Is_find_0 : decode b_Is_find 0 = .ok (.aload_n 0, 1) := by decide +kernel
theorem d_Is_find_1 : decode b_Is_find 1 = .ok (.getfield 28, 3) := by decide +kernel
theorem d_Is_find_4 : decode b_Is_find 4 = .ok (.getfield 108, 3) := by decide +kernel
theorem d_Is_find_7 : decode b_Is_find 7 = .ok (.iload_n 1, 1) := by decide +kernel
theorem d_Is_find_8 : decode b_Is_find 8 = .ok (.iaload, 1) := by decide +kernel
theorem d_Is_find_9 : decode b_Is_find 9 = .ok (.istore_n 2, 1) := by decide +kernel
theorem d_Is_find_10 : decode b_Is_find 10 = .ok (.iconst 0, 1) := by decide +kernel
theorem d_Is_find_11 : decode b_Is_find 11 = .ok (.istore_n 3, 1) := by decide +kernel
theorem d_Is_find_12 : decode b_Is_find 12 = .ok (.iload_n 3, 1) := by decide +kernel
theorem d_Is_find_13 : decode b_Is_find 13 = .ok (.aload_n 0, 1) := by decide +kernel
theorem d_Is_find_14 : decode b_Is_find 14 = .ok (.getfield 44, 3) := by decide +kernel
theorem d_Is_find_17 : decode b_Is_find 17 = .ok (.if_icmp .ge 74, 3) := by decide +kernel
theorem d_Is_find_20 : decode b_Is_find 20 = .ok (.aload_n 0, 1) := by decide +kernel
theorem d_Is_find_21 : decode b_Is_find 21 = .ok (.getfield 9, 3) := by decide +kernel
theorem d_Is_find_24 : decode b_Is_find 24 = .ok (.iload_n 3, 1) := by decide +kernel
theorem d_Is_find_25 : decode b_Is_find 25 = .ok (.iaload, 1) := by decide +kernel
theorem d_Is_find_26 : decode b_Is_find 26 = .ok (.aload_n 0, 1) := by decide +kernel
theorem d_Is_find_27 : decode b_Is_find 27 = .ok (.getfield 32, 3) := by decide +kernel
theorem d_Is_find_30 : decode b_Is_find 30 = .ok (.getfield 111, 3) := by decide +kernel
theorem d_Is_find_33 : decode b_Is_find 33 = .ok (.iload_n 2, 1) := by decide +kernel
theorem d_Is_find_34 : decode b_Is_find 34 = .ok (.iaload, 1) := by decide +kernel
theorem d_Is_find_35 : decode b_Is_find 35 = .ok (.if_icmp .ne 50, 3) := by decide +kernel
theorem d_Is_find_38 : decode b_Is_find 38 = .ok (.aload_n 0, 1) := by decide +kernel
theorem d_Is_find_39 : decode b_Is_find 39 = .ok (.getfield 15, 3) := by decide +kernel
theorem d_Is_find_42 : decode b_Is_find 42 = .ok (.iload_n 3, 1) := by decide +kernel
theorem d_Is_find_43 : decode b_Is_find 43 = .ok (.iaload, 1) := by decide +kernel
theorem d_Is_find_44 : decode b_Is_find 44 = .ok (.aload_n 0, 1) := by decide +kernel
theorem d_Is_find_45 : decode b_Is_find 45 = .ok (.getfield 36, 3) := by decide +kernel
theorem d_Is_find_48 : decode b_Is_find 48 = .ok (.iload_n 2, 1) := by decide +kernel
theorem d_Is_find_49 : decode b_Is_find 49 = .ok (.invokevirtual 114, 3) := by decide +kernel
theorem d_Is_find_52 : decode b_Is_find 52 = .ok (.if_icmp .ne 33, 3) := by decide +kernel
theorem d_Is_find_55 : decode b_Is_find 55 = .ok (.aload_n 0, 1) := by decide +kernel
theorem d_Is_find_56 : decode b_Is_find 56 = .ok (.getfield 18, 3) := by decide +kernel
theorem d_Is_find_59 : decode b_Is_find 59 = .ok (.iload_n 3, 1) := by decide +kernel
theorem d_Is_find_60 : decode b_Is_find 60 = .ok (.iaload, 1) := by decide +kernel
theorem d_Is_find_61 : decode b_Is_find 61 = .ok (.aload_n 0, 1) := by decide +kernel
theorem d_Is_find_62 : decode b_Is_find 62 = .ok (.getfield 32, 3) := by decide +kernel
theorem d_Is_find_65 : decode b_Is_find 65 = .ok (.getfield 119, 3) := by decide +kernel
theorem d_Is_find_68 : decode b_Is_find 68 = .ok (.iload_n 2, 1) := by decide +kernel
theorem d_Is_find_69 : decode b_Is_find 69 = .ok (.iaload, 1) := by decide +kernel
theorem d_Is_find_70 : decode b_Is_find 70 = .ok (.aload_n 0, 1) := by decide +kernel
theorem d_Is_find_71 : decode b_Is_find 71 = .ok (.getfield 28, 3) := by decide +kernel
theorem d_Is_find_74 : decode b_Is_find 74 = .ok (.getfield 122, 3) := by decide +kernel
theorem d_Is_find_77 : decode b_Is_find 77 = .ok (.iload_n 1, 1) := by decide +kernel
theorem d_Is_find_78 : decode b_Is_find 78 = .ok (.iaload, 1) := by decide +kernel
theorem d_Is_find_79 : decode b_Is_find 79 = .ok (.iadd, 1) := by decide +kernel
theorem d_Is_find_80 : decode b_Is_find 80 = .ok (.if_icmp .ne 5, 3) := by decide +kernel
theorem d_Is_find_83 : decode b_Is_find 83 = .ok (.iload_n 3, 1) := by decide +kernel
theorem d_Is_find_84 : decode b_Is_find 84 = .ok (.ireturn, 1) := by decide +kernel
theorem d_Is_find_85 : decode b_Is_find 85 = .ok (.iinc 3 1, 3) := by decide +kernel
theorem d_Is_find_88 : decode b_Is_find 88 = .ok (.goto (-76), 3) := by decide +kernel
theorem d_Is_find_91 : decode b_Is_find 91 = .ok (.aload_n 0, 1) := by decide +kernel
theorem d_Is_find_92 : decode b_Is_find 92 = .ok (.getfield 44, 3) := by decide +kernel
theorem d_Is_find_95 : decode b_Is_find 95 = .ok (.ireturn, 1) := by decide +kernel
theorem d_Is_raise_0 : decode b_Is_raise 0 = .ok (.aload_n 0, 1) := by decide +kernel
theorem d_Is_raise_1 : decode b_Is_raise 1 = .ok (.getfield 28, 3) := by decide +kernel
theorem d_Is_raise_4 : decode b_Is_raise 4 = .ok (.getfield 108, 3) := by decide +kernel
theorem d_Is_raise_7 : decode b_Is_raise 7 = .ok (.iload_n 1, 1) := by decide +kernel
theorem d_Is_raise_8 : decode b_Is_raise 8 = .ok (.iaload, 1) := by decide +kernel
theorem d_Is_raise_9 : decode b_Is_raise 9 = .ok (.istore_n 2, 1) := by decide +kernel
theorem d_Is_raise_10 : decode b_Is_raise 10 = .ok (.aload_n 0, 1) := by decide +kernel
theorem d_Is_raise_11 : decode b_Is_raise 11 = .ok (.getfield 9, 3) := by decide +kernel
theorem d_Is_raise_14 : decode b_Is_raise 14 = .ok (.aload_n 0, 1) := by decide +kernel
theorem d_Is_raise_15 : decode b_Is_raise 15 = .ok (.getfield 44, 3) := by decide +kernel
theorem d_Is_raise_18 : decode b_Is_raise 18 = .ok (.aload_n 0, 1) := by decide +kernel
theorem d_Is_raise_19 : decode b_Is_raise 19 = .ok (.getfield 32, 3) := by decide +kernel
theorem d_Is_raise_22 : decode b_Is_raise 22 = .ok (.getfield 111, 3) := by decide +kernel
theorem d_Is_raise_25 : decode b_Is_raise 25 = .ok (.iload_n 2, 1) := by decide +kernel
theorem d_Is_raise_26 : decode b_Is_raise 26 = .ok (.iaload, 1) := by decide +kernel
theorem d_Is_raise_27 : decode b_Is_raise 27 = .ok (.iastore, 1) := by decide +kernel
theorem d_Is_raise_28 : decode b_Is_raise 28 = .ok (.aload_n 0, 1) := by decide +kernel
theorem d_Is_raise_29 : decode b_Is_raise 29 = .ok (.getfield 15, 3) := by decide +kernel
theorem d_Is_raise_32 : decode b_Is_raise 32 = .ok (.aload_n 0, 1) := by decide +kernel
theorem d_Is_raise_33 : decode b_Is_raise 33 = .ok (.getfield 44, 3) := by decide +kernel
theorem d_Is_raise_36 : decode b_Is_raise 36 = .ok (.aload_n 0, 1) := by decide +kernel
theorem d_Is_raise_37 : decode b_Is_raise 37 = .ok (.getfield 36, 3) := by decide +kernel
theorem d_Is_raise_40 : decode b_Is_raise 40 = .ok (.iload_n 2, 1) := by decide +kernel
theorem d_Is_raise_41 : decode b_Is_raise 41 = .ok (.invokevirtual 114, 3) := by decide +kernel
theorem d_Is_raise_44 : decode b_Is_raise 44 = .ok (.iastore, 1) := by decide +kernel
theorem d_Is_raise_45 : decode b_Is_raise 45 = .ok (.aload_n 0, 1) := by decide +kernel
theorem d_Is_raise_46 : decode b_Is_raise 46 = .ok (.getfield 18, 3) := by decide +kernel
theorem d_Is_raise_49 : decode b_Is_raise 49 = .ok (.aload_n 0, 1) := by decide +kernel
theorem d_Is_raise_50 : decode b_Is_raise 50 = .ok (.getfield 44, 3) := by decide +kernel
theorem d_Is_raise_53 : decode b_Is_raise 53 = .ok (.aload_n 0, 1) := by decide +kernel
theorem d_Is_raise_54 : decode b_Is_raise 54 = .ok (.getfield 32, 3) := by decide +kernel
theorem d_Is_raise_57 : decode b_Is_raise 57 = .ok (.getfield 119, 3) := by decide +kernel
theorem d_Is_raise_60 : decode b_Is_raise 60 = .ok (.iload_n 2, 1) := by decide +kernel
theorem d_Is_raise_61 : decode b_Is_raise 61 = .ok (.iaload, 1) := by decide +kernel
theorem d_Is_raise_62 : decode b_Is_raise 62 = .ok (.aload_n 0, 1) := by decide +kernel
theorem d_Is_raise_63 : decode b_Is_raise 63 = .ok (.getfield 28, 3) := by decide +kernel
theorem d_Is_raise_66 : decode b_Is_raise 66 = .ok (.getfield 122, 3) := by decide +kernel
theorem d_Is_raise_69 : decode b_Is_raise 69 = .ok (.iload_n 1, 1) := by decide +kernel
theorem d_Is_raise_70 : decode b_Is_raise 70 = .ok (.iaload, 1) := by decide +kernel
theorem d_Is_raise_71 : decode b_Is_raise 71 = .ok (.iadd, 1) := by decide +kernel
theorem d_Is_raise_72 : decode b_Is_raise 72 = .ok (.iastore, 1) := by decide +kernel
theorem d_Is_raise_73 : decode b_Is_raise 73 = .ok (.aload_n 0, 1) := by decide +kernel
theorem d_Is_raise_74 : decode b_Is_raise 74 = .ok (.dup, 1) := by decide +kernel
theorem d_Is_raise_75 : decode b_Is_raise 75 = .ok (.getfield 44, 3) := by decide +kernel
theorem d_Is_raise_78 : decode b_Is_raise 78 = .ok (.iconst 1, 1) := by decide +kernel
theorem d_Is_raise_79 : decode b_Is_raise 79 = .ok (.iadd, 1) := by decide +kernel
theorem d_Is_raise_80 : decode b_Is_raise 80 = .ok (.putfield 44, 3) := by decide +kernel
theorem d_Is_raise_83 : decode b_Is_raise 83 = .ok (.return_, 1) := by decide +kernel
theorem d_Is_send_0 : decode b_Is_send 0 = .ok (.aload_n 0, 1) := by decide +kernel
theorem d_Is_send_1 : decode b_Is_send 1 = .ok (.iload_n 1, 1) := by decide +kernel
theorem d_Is_send_2 : decode b_Is_send 2 = .ok (.invokevirtual 102, 3) := by decide +kernel
theorem d_Is_send_5 : decode b_Is_send 5 = .ok (.istore_n 2, 1) := by decide +kernel
theorem d_Is_send_6 : decode b_Is_send 6 = .ok (.iload_n 2, 1) := by decide +kernel
theorem d_Is_send_7 : decode b_Is_send 7 = .ok (.aload_n 0, 1) := by decide +kernel
theorem d_Is_send_8 : decode b_Is_send 8 = .ok (.getfield 44, 3) := by decide +kernel
theorem d_Is_send_11 : decode b_Is_send 11 = .ok (.if_icmp .ne 19, 3) := by decide +kernel
theorem d_Is_send_14 : decode b_Is_send 14 = .ok (.aload_n 0, 1) := by decide +kernel
theorem d_Is_send_15 : decode b_Is_send 15 = .ok (.getfield 44, 3) := by decide +kernel
theorem d_Is_send_18 : decode b_Is_send 18 = .ok (.bipush 32, 2) := by decide +kernel
theorem d_Is_send_20 : decode b_Is_send 20 = .ok (.if_icmp .lt 5, 3) := by decide +kernel
theorem d_Is_send_23 : decode b_Is_send 23 = .ok (.iconst 0, 1) := by decide +kernel
theorem d_Is_send_24 : decode b_Is_send 24 = .ok (.ireturn, 1) := by decide +kernel
theorem d_Is_send_25 : decode b_Is_send 25 = .ok (.aload_n 0, 1) := by decide +kernel
theorem d_Is_send_26 : decode b_Is_send 26 = .ok (.iload_n 1, 1) := by decide +kernel
theorem d_Is_send_27 : decode b_Is_send 27 = .ok (.invokevirtual 105, 3) := by decide +kernel
theorem d_Is_send_30 : decode b_Is_send 30 = .ok (.aload_n 0, 1) := by decide +kernel
theorem d_Is_send_31 : decode b_Is_send 31 = .ok (.getfield 21, 3) := by decide +kernel
theorem d_Is_send_34 : decode b_Is_send 34 = .ok (.iload_n 1, 1) := by decide +kernel
theorem d_Is_send_35 : decode b_Is_send 35 = .ok (.iload_n 2, 1) := by decide +kernel
theorem d_Is_send_36 : decode b_Is_send 36 = .ok (.iastore, 1) := by decide +kernel
theorem d_Is_send_37 : decode b_Is_send 37 = .ok (.aload_n 0, 1) := by decide +kernel
theorem d_Is_send_38 : decode b_Is_send 38 = .ok (.dup, 1) := by decide +kernel
theorem d_Is_send_39 : decode b_Is_send 39 = .ok (.getfield 48, 3) := by decide +kernel
theorem d_Is_send_42 : decode b_Is_send 42 = .ok (.iconst 1, 1) := by decide +kernel
theorem d_Is_send_43 : decode b_Is_send 43 = .ok (.iadd, 1) := by decide +kernel
theorem d_Is_send_44 : decode b_Is_send 44 = .ok (.putfield 48, 3) := by decide +kernel
theorem d_Is_send_47 : decode b_Is_send 47 = .ok (.iconst 1, 1) := by decide +kernel
theorem d_Is_send_48 : decode b_Is_send 48 = .ok (.ireturn, 1) := by decide +kernel
theorem d_La_put_0 : decode b_La_put 0 = .ok (.aload_n 0, 1) := by decide +kernel
theorem d_La_put_1 : decode b_La_put 1 = .ok (.getfield 47, 3) := by decide +kernel
theorem d_La_put_4 : decode b_La_put 4 = .ok (.iload_n 2, 1) := by decide +kernel
theorem d_La_put_5 : decode b_La_put 5 = .ok (.iadd, 1) := by decide +kernel
theorem d_La_put_6 : decode b_La_put 6 = .ok (.iconst 1, 1) := by decide +kernel
theorem d_La_put_7 : decode b_La_put 7 = .ok (.isub, 1) := by decide +kernel
theorem d_La_put_8 : decode b_La_put 8 = .ok (.iload_n 2, 1) := by decide +kernel
theorem d_La_put_9 : decode b_La_put 9 = .ok (.ineg, 1) := by decide +kernel
theorem d_La_put_10 : decode b_La_put 10 = .ok (.iand, 1) := by decide +kernel
theorem d_La_put_11 : decode b_La_put 11 = .ok (.istore_n 3, 1) := by decide +kernel
theorem d_La_put_12 : decode b_La_put 12 = .ok (.aload_n 0, 1) := by decide +kernel
theorem d_La_put_13 : decode b_La_put 13 = .ok (.iload_n 3, 1) := by decide +kernel
theorem d_La_put_14 : decode b_La_put 14 = .ok (.iload_n 1, 1) := by decide +kernel
theorem d_La_put_15 : decode b_La_put 15 = .ok (.iadd, 1) := by decide +kernel
theorem d_La_put_16 : decode b_La_put 16 = .ok (.putfield 47, 3) := by decide +kernel
theorem d_La_put_19 : decode b_La_put 19 = .ok (.iload_n 3, 1) := by decide +kernel
theorem d_La_put_20 : decode b_La_put 20 = .ok (.ireturn, 1) := by decide +kernel
theorem d_La_laySections_0 : decode b_La_laySections 0 = .ok (.iconst 0, 1) := by decide +kernel
theorem d_La_laySections_1 : decode b_La_laySections 1 = .ok (.istore_n 2, 1) := by decide +kernel
theorem d_La_laySections_2 : decode b_La_laySections 2 = .ok (.iload_n 2, 1) := by decide +kernel
theorem d_La_laySections_3 : decode b_La_laySections 3 = .ok (.aload_n 0, 1) := by decide +kernel
theorem d_La_laySections_4 : decode b_La_laySections 4 = .ok (.getfield 18, 3) := by decide +kernel
theorem d_La_laySections_7 : decode b_La_laySections 7 = .ok (.getfield 72, 3) := by decide +kernel
theorem d_La_laySections_10 : decode b_La_laySections 10 = .ok (.if_icmp .ge 90, 3) := by decide +kernel
theorem d_La_laySections_13 : decode b_La_laySections 13 = .ok (.aload_n 0, 1) := by decide +kernel
theorem d_La_laySections_14 : decode b_La_laySections 14 = .ok (.getfield 26, 3) := by decide +kernel
theorem d_La_laySections_17 : decode b_La_laySections 17 = .ok (.getfield 77, 3) := by decide +kernel
theorem d_La_laySections_20 : decode b_La_laySections 20 = .ok (.iload_n 2, 1) := by decide +kernel
theorem d_La_laySections_21 : decode b_La_laySections 21 = .ok (.baload, 1) := by decide +kernel
theorem d_La_laySections_22 : decode b_La_laySections 22 = .ok (.ifCond .eq 72, 3) := by decide +kernel
theorem d_La_laySections_25 : decode b_La_laySections 25 = .ok (.aload_n 0, 1) := by decide +kernel
theorem d_La_laySections_26 : decode b_La_laySections 26 = .ok (.getfield 18, 3) := by decide +kernel
theorem d_La_laySections_29 : decode b_La_laySections 29 = .ok (.getfield 80, 3) := by decide +kernel
theorem d_La_laySections_32 : decode b_La_laySections 32 = .ok (.iload_n 2, 1) := by decide +kernel
theorem d_La_laySections_33 : decode b_La_laySections 33 = .ok (.iaload, 1) := by decide +kernel
theorem d_La_laySections_34 : decode b_La_laySections 34 = .ok (.iload_n 1, 1) := by decide +kernel
theorem d_La_laySections_35 : decode b_La_laySections 35 = .ok (.if_icmp .ne 59, 3) := by decide +kernel
theorem d_La_laySections_38 : decode b_La_laySections 38 = .ok (.aload_n 0, 1) := by decide +kernel
theorem d_La_laySections_39 : decode b_La_laySections 39 = .ok (.getfield 9, 3) := by decide +kernel
theorem d_La_laySections_42 : decode b_La_laySections 42 = .ok (.iload_n 2, 1) := by decide +kernel
theorem d_La_laySections_43 : decode b_La_laySections 43 = .ok (.aload_n 0, 1) := by decide +kernel
theorem d_La_laySections_44 : decode b_La_laySections 44 = .ok (.getfield 30, 3) := by decide +kernel
theorem d_La_laySections_47 : decode b_La_laySections 47 = .ok (.iload_n 2, 1) := by decide +kernel
theorem d_La_laySections_48 : decode b_La_laySections 48 = .ok (.invokevirtual 83, 3) := by decide +kernel
theorem d_La_laySections_51 : decode b_La_laySections 51 = .ok (.ifCond .eq 20, 3) := by decide +kernel
theorem d_La_laySections_54 : decode b_La_laySections 54 = .ok (.aload_n 0, 1) := by decide +kernel
theorem d_La_laySections_55 : decode b_La_laySections 55 = .ok (.getfield 9, 3) := by decide +kernel
theorem d_La_laySections_58 : decode b_La_laySections 58 = .ok (.aload_n 0, 1) := by decide +kernel
theorem d_La_laySections_59 : decode b_La_laySections 59 = .ok (.getfield 30, 3) := by decide +kernel
theorem d_La_laySections_62 : decode b_La_laySections 62 = .ok (.getfield 89, 3) := by decide +kernel
theorem d_La_laySections_65 : decode b_La_laySections 65 = .ok (.iload_n 2, 1) := by decide +kernel
theorem d_La_laySections_66 : decode b_La_laySections 66 = .ok (.iaload, 1) := by decide +kernel
theorem d_La_laySections_67 : decode b_La_laySections 67 = .ok (.iaload, 1) := by decide +kernel
theorem d_La_laySections_68 : decode b_La_laySections 68 = .ok (.goto 25, 3) := by decide +kernel
theorem d_La_laySections_71 : decode b_La_laySections 71 = .ok (.aload_n 0, 1) := by decide +kernel
theorem d_La_laySections_72 : decode b_La_laySections 72 = .ok (.aload_n 0, 1) := by decide +kernel
theorem d_La_laySections_73 : decode b_La_laySections 73 = .ok (.getfield 18, 3) := by decide +kernel
theorem d_La_laySections_76 : decode b_La_laySections 76 = .ok (.getfield 92, 3) := by decide +kernel
theorem d_La_laySections_79 : decode b_La_laySections 79 = .ok (.iload_n 2, 1) := by decide +kernel
theorem d_La_laySections_80 : decode b_La_laySections 80 = .ok (.iaload, 1) := by decide +kernel
theorem d_La_laySections_81 : decode b_La_laySections 81 = .ok (.aload_n 0, 1) := by decide +kernel
theorem d_La_laySections_82 : decode b_La_laySections 82 = .ok (.getfield 18, 3) := by decide +kernel
theorem d_La_laySections_85 : decode b_La_laySections 85 = .ok (.getfield 95, 3) := by decide +kernel
theorem d_La_laySections_88 : decode b_La_laySections 88 = .ok (.iload_n 2, 1) := by decide +kernel
theorem d_La_laySections_89 : decode b_La_laySections 89 = .ok (.iaload, 1) := by decide +kernel
theorem d_La_laySections_90 : decode b_La_laySections 90 = .ok (.invokevirtual 54, 3) := by decide +kernel
theorem d_La_laySections_93 : decode b_La_laySections 93 = .ok (.iastore, 1) := by decide +kernel
theorem d_La_laySections_94 : decode b_La_laySections 94 = .ok (.iinc 2 1, 3) := by decide +kernel
theorem d_La_laySections_97 : decode b_La_laySections 97 = .ok (.goto (-95), 3) := by decide +kernel
theorem d_La_laySections_100 : decode b_La_laySections 100 = .ok (.return_, 1) := by decide +kernel
theorem d_La_lay_0 : decode b_La_lay 0 = .ok (.aload_n 0, 1) := by decide +kernel
theorem d_La_lay_1 : decode b_La_lay 1 = .ok (.dup, 1) := by decide +kernel
theorem d_La_lay_2 : decode b_La_lay 2 = .ok (.getfield 38, 3) := by decide +kernel
theorem d_La_lay_5 : decode b_La_lay 5 = .ok (.iconst 1, 1) := by decide +kernel
theorem d_La_lay_6 : decode b_La_lay 6 = .ok (.iadd, 1) := by decide +kernel
theorem d_La_lay_7 : decode b_La_lay 7 = .ok (.putfield 38, 3) := by decide +kernel
theorem d_La_lay_10 : decode b_La_lay 10 = .ok (.aload_n 0, 1) := by decide +kernel
theorem d_La_lay_11 : decode b_La_lay 11 = .ok (.aload_n 0, 1) := by decide +kernel
theorem d_La_lay_12 : decode b_La_lay 12 = .ok (.getfield 34, 3) := by decide +kernel
theorem d_La_lay_15 : decode b_La_lay 15 = .ok (.putfield 47, 3) := by decide +kernel
theorem d_La_lay_18 : decode b_La_lay 18 = .ok (.aload_n 0, 1) := by decide +kernel
theorem d_La_lay_19 : decode b_La_lay 19 = .ok (.iconst 0, 1) := by decide +kernel
theorem d_La_lay_20 : decode b_La_lay 20 = .ok (.invokevirtual 50, 3) := by decide +kernel
theorem d_La_lay_23 : decode b_La_lay 23 = .ok (.aload_n 0, 1) := by decide +kernel
theorem d_La_lay_24 : decode b_La_lay 24 = .ok (.aload_n 0, 1) := by decide +kernel
theorem d_La_lay_25 : decode b_La_lay 25 = .ok (.iload_n 1, 1) := by decide +kernel
theorem d_La_lay_26 : decode b_La_lay 26 = .ok (.bipush 8, 2) := by decide +kernel
theorem d_La_lay_28 : decode b_La_lay 28 = .ok (.imul, 1) := by decide +kernel
theorem d_La_lay_29 : decode b_La_lay 29 = .ok (.iconst 4, 1) := by decide +kernel
theorem d_La_lay_30 : decode b_La_lay 30 = .ok (.invokevirtual 54, 3) := by decide +kernel
theorem d_La_lay_33 : decode b_La_lay 33 = .ok (.putfield 58, 3) := by decide +kernel
theorem d_La_lay_36 : decode b_La_lay 36 = .ok (.aload_n 0, 1) := by decide +kernel
theorem d_La_lay_37 : decode b_La_lay 37 = .ok (.iconst 1, 1) := by decide +kernel
theorem d_La_lay_38 : decode b_La_lay 38 = .ok (.invokevirtual 50, 3) := by decide +kernel
theorem d_La_lay_41 : decode b_La_lay 41 = .ok (.aload_n 0, 1) := by decide +kernel
theorem d_La_lay_42 : decode b_La_lay 42 = .ok (.iconst 2, 1) := by decide +kernel
theorem d_La_lay_43 : decode b_La_lay 43 = .ok (.invokevirtual 50, 3) := by decide +kernel
theorem d_La_lay_46 : decode b_La_lay 46 = .ok (.iconst 0, 1) := by decide +kernel
theorem d_La_lay_47 : decode b_La_lay 47 = .ok (.istore_n 2, 1) := by decide +kernel
theorem d_La_lay_48 : decode b_La_lay 48 = .ok (.iload_n 2, 1) := by decide +kernel
theorem d_La_lay_49 : decode b_La_lay 49 = .ok (.sipush 200, 3) := by decide +kernel
theorem d_La_lay_52 : decode b_La_lay 52 = .ok (.if_icmp .ge 41, 3) := by decide +kernel
theorem d_La_lay_55 : decode b_La_lay 55 = .ok (.aload_n 0, 1) := by decide +kernel
theorem d_La_lay_56 : decode b_La_lay 56 = .ok (.getfield 26, 3) := by decide +kernel
theorem d_La_lay_59 : decode b_La_lay 59 = .ok (.getfield 61, 3) := by decide +kernel
theorem d_La_lay_62 : decode b_La_lay 62 = .ok (.iload_n 2, 1) := by decide +kernel
theorem d_La_lay_63 : decode b_La_lay 63 = .ok (.baload, 1) := by decide +kernel
theorem d_La_lay_64 : decode b_La_lay 64 = .ok (.ifCond .eq 23, 3) := by decide +kernel
theorem d_La_lay_67 : decode b_La_lay 67 = .ok (.aload_n 0, 1) := by decide +kernel
theorem d_La_lay_68 : decode b_La_lay 68 = .ok (.getfield 15, 3) := by decide +kernel
theorem d_La_lay_71 : decode b_La_lay 71 = .ok (.iload_n 2, 1) := by decide +kernel
theorem d_La_lay_72 : decode b_La_lay 72 = .ok (.aload_n 0, 1) := by decide +kernel
theorem d_La_lay_73 : decode b_La_lay 73 = .ok (.aload_n 0, 1) := by decide +kernel
theorem d_La_lay_74 : decode b_La_lay 74 = .ok (.getfield 22, 3) := by decide +kernel
theorem d_La_lay_77 : decode b_La_lay 77 = .ok (.getfield 67, 3) := by decide +kernel
theorem d_La_lay_80 : decode b_La_lay 80 = .ok (.iload_n 2, 1) := by decide +kernel
theorem d_La_lay_81 : decode b_La_lay 81 = .ok (.iaload, 1) := by decide +kernel
theorem d_La_lay_82 : decode b_La_lay 82 = .ok (.iconst 4, 1) := by decide +kernel
theorem d_La_lay_83 : decode b_La_lay 83 = .ok (.invokevirtual 54, 3) := by decide +kernel
theorem d_La_lay_86 : decode b_La_lay 86 = .ok (.iastore, 1) := by decide +kernel
theorem d_La_lay_87 : decode b_La_lay 87 = .ok (.iinc 2 1, 3) := by decide +kernel
theorem d_La_lay_90 : decode b_La_lay 90 = .ok (.goto (-42), 3) := by decide +kernel
theorem d_La_lay_93 : decode b_La_lay 93 = .ok (.return_, 1) := by decide +kernel
theorem d_fill53_0 : decode b_fill53 0 = .ok (.iconst 0, 1) := by decide +kernel
theorem d_fill53_1 : decode b_fill53 1 = .ok (.istore_n 2, 1) := by decide +kernel
theorem d_fill53_2 : decode b_fill53 2 = .ok (.aload_n 0, 1) := by decide +kernel
theorem d_fill53_3 : decode b_fill53 3 = .ok (.arraylength, 1) := by decide +kernel
theorem d_fill53_4 : decode b_fill53 4 = .ok (.istore_n 3, 1) := by decide +kernel
theorem d_fill53_5 : decode b_fill53 5 = .ok (.iload_n 2, 1) := by decide +kernel
theorem d_fill53_6 : decode b_fill53 6 = .ok (.iload_n 3, 1) := by decide +kernel
theorem d_fill53_7 : decode b_fill53 7 = .ok (.if_icmp .ge 13, 3) := by decide +kernel
theorem d_fill53_10 : decode b_fill53 10 = .ok (.aload_n 0, 1) := by decide +kernel
theorem d_fill53_11 : decode b_fill53 11 = .ok (.iload_n 2, 1) := by decide +kernel
theorem d_fill53_12 : decode b_fill53 12 = .ok (.iload_n 1, 1) := by decide +kernel
theorem d_fill53_13 : decode b_fill53 13 = .ok (.iastore, 1) := by decide +kernel
theorem d_fill53_14 : decode b_fill53 14 = .ok (.iinc 2 1, 3) := by decide +kernel
theorem d_fill53_17 : decode b_fill53 17 = .ok (.goto (-12), 3) := by decide +kernel
theorem d_fill53_20 : decode b_fill53 20 = .ok (.return_, 1) := by decide +kernel
theorem d_Is_settle_0 : decode b_Is_settle 0 = .ok (.aload_n 0, 1) := by decide +kernel
theorem d_Is_settle_1 : decode b_Is_settle 1 = .ok (.iconst 0, 1) := by decide +kernel
theorem d_Is_settle_2 : decode b_Is_settle 2 = .ok (.putfield 44, 3) := by decide +kernel
theorem d_Is_settle_5 : decode b_Is_settle 5 = .ok (.aload_n 0, 1) := by decide +kernel
theorem d_Is_settle_6 : decode b_Is_settle 6 = .ok (.iconst 0, 1) := by decide +kernel
theorem d_Is_settle_7 : decode b_Is_settle 7 = .ok (.putfield 48, 3) := by decide +kernel
theorem d_Is_settle_10 : decode b_Is_settle 10 = .ok (.aload_n 0, 1) := by decide +kernel
theorem d_Is_settle_11 : decode b_Is_settle 11 = .ok (.getfield 21, 3) := by decide +kernel
theorem d_Is_settle_14 : decode b_Is_settle 14 = .ok (.iconst (-1), 1) := by decide +kernel
theorem d_Is_settle_15 : decode b_Is_settle 15 = .ok (.invokestatic 51, 3) := by decide +kernel
theorem d_Is_settle_18 : decode b_Is_settle 18 = .ok (.aload_n 0, 1) := by decide +kernel
theorem d_Is_settle_19 : decode b_Is_settle 19 = .ok (.getfield 40, 3) := by decide +kernel
theorem d_Is_settle_22 : decode b_Is_settle 22 = .ok (.aload_n 0, 1) := by decide +kernel
theorem d_Is_settle_23 : decode b_Is_settle 23 = .ok (.getfield 44, 3) := by decide +kernel
theorem d_Is_settle_26 : decode b_Is_settle 26 = .ok (.invokevirtual 57, 3) := by decide +kernel
theorem d_Is_settle_29 : decode b_Is_settle 29 = .ok (.iconst 0, 1) := by decide +kernel
theorem d_Is_settle_30 : decode b_Is_settle 30 = .ok (.istore_n 1, 1) := by decide +kernel
theorem d_Is_settle_31 : decode b_Is_settle 31 = .ok (.iload_n 1, 1) := by decide +kernel
theorem d_Is_settle_32 : decode b_Is_settle 32 = .ok (.sipush 600, 3) := by decide +kernel
theorem d_Is_settle_35 : decode b_Is_settle 35 = .ok (.if_icmp .gt 43, 3) := by decide +kernel
theorem d_Is_settle_38 : decode b_Is_settle 38 = .ok (.aload_n 0, 1) := by decide +kernel
theorem d_Is_settle_39 : decode b_Is_settle 39 = .ok (.invokevirtual 63, 3) := by decide +kernel
theorem d_Is_settle_42 : decode b_Is_settle 42 = .ok (.istore_n 2, 1) := by decide +kernel
theorem d_Is_settle_43 : decode b_Is_settle 43 = .ok (.iload_n 2, 1) := by decide +kernel
theorem d_Is_settle_44 : decode b_Is_settle 44 = .ok (.iconst (-1), 1) := by decide +kernel
theorem d_Is_settle_45 : decode b_Is_settle 45 = .ok (.if_icmp .ne 6, 3) := by decide +kernel
theorem d_Is_settle_48 : decode b_Is_settle 48 = .ok (.goto 30, 3) := by decide +kernel
theorem d_Is_settle_51 : decode b_Is_settle 51 = .ok (.aload_n 0, 1) := by decide +kernel
theorem d_Is_settle_52 : decode b_Is_settle 52 = .ok (.iload_n 2, 1) := by decide +kernel
theorem d_Is_settle_53 : decode b_Is_settle 53 = .ok (.invokevirtual 67, 3) := by decide +kernel
theorem d_Is_settle_56 : decode b_Is_settle 56 = .ok (.ifCond .ne 5, 3) := by decide +kernel
theorem d_Is_settle_59 : decode b_Is_settle 59 = .ok (.iconst 0, 1) := by decide +kernel
theorem d_Is_settle_60 : decode b_Is_settle 60 = .ok (.ireturn, 1) := by decide +kernel
theorem d_Is_settle_61 : decode b_Is_settle 61 = .ok (.aload_n 0, 1) := by decide +kernel
theorem d_Is_settle_62 : decode b_Is_settle 62 = .ok (.getfield 40, 3) := by decide +kernel
theorem d_Is_settle_65 : decode b_Is_settle 65 = .ok (.aload_n 0, 1) := by decide +kernel
theorem d_Is_settle_66 : decode b_Is_settle 66 = .ok (.getfield 44, 3) := by decide +kernel
theorem d_Is_settle_69 : decode b_Is_settle 69 = .ok (.invokevirtual 57, 3) := by decide +kernel
theorem d_Is_settle_72 : decode b_Is_settle 72 = .ok (.iinc 1 1, 3) := by decide +kernel
theorem d_Is_settle_75 : decode b_Is_settle 75 = .ok (.goto (-44), 3) := by decide +kernel
theorem d_Is_settle_78 : decode b_Is_settle 78 = .ok (.iconst 1, 1) := by decide +kernel
theorem d_Is_settle_79 : decode b_Is_settle 79 = .ok (.ireturn, 1) := by decide +kernel
theorem d_fill48_0 : decode b_fill48 0 = .ok (.iconst 0, 1) := by decide +kernel
theorem d_fill48_1 : decode b_fill48 1 = .ok (.istore_n 2, 1) := by decide +kernel
theorem d_fill48_2 : decode b_fill48 2 = .ok (.aload_n 0, 1) := by decide +kernel
theorem d_fill48_3 : decode b_fill48 3 = .ok (.arraylength, 1) := by decide +kernel
theorem d_fill48_4 : decode b_fill48 4 = .ok (.istore_n 3, 1) := by decide +kernel
theorem d_fill48_5 : decode b_fill48 5 = .ok (.iload_n 2, 1) := by decide +kernel
theorem d_fill48_6 : decode b_fill48 6 = .ok (.iload_n 3, 1) := by decide +kernel
theorem d_fill48_7 : decode b_fill48 7 = .ok (.if_icmp .ge 13, 3) := by decide +kernel
theorem d_fill48_10 : decode b_fill48 10 = .ok (.aload_n 0, 1) := by decide +kernel
theorem d_fill48_11 : decode b_fill48 11 = .ok (.iload_n 2, 1) := by decide +kernel
theorem d_fill48_12 : decode b_fill48 12 = .ok (.iload_n 1, 1) := by decide +kernel
theorem d_fill48_13 : decode b_fill48 13 = .ok (.iastore, 1) := by decide +kernel
theorem d_fill48_14 : decode b_fill48 14 = .ok (.iinc 2 1, 3) := by decide +kernel
theorem d_fill48_17 : decode b_fill48 17 = .ok (.goto (-12), 3) := by decide +kernel
theorem d_fill48_20 : decode b_fill48 20 = .ok (.return_, 1) := by decide +kernel
theorem d_fill49_0 : decode b_fill49 0 = .ok (.iconst 0, 1) := by decide +kernel
theorem d_fill49_1 : decode b_fill49 1 = .ok (.istore_n 2, 1) := by decide +kernel
theorem d_fill49_2 : decode b_fill49 2 = .ok (.aload_n 0, 1) := by decide +kernel
theorem d_fill49_3 : decode b_fill49 3 = .ok (.arraylength, 1) := by decide +kernel
theorem d_fill49_4 : decode b_fill49 4 = .ok (.istore_n 3, 1) := by decide +kernel
theorem d_fill49_5 : decode b_fill49 5 = .ok (.iload_n 2, 1) := by decide +kernel
theorem d_fill49_6 : decode b_fill49 6 = .ok (.iload_n 3, 1) := by decide +kernel
theorem d_fill49_7 : decode b_fill49 7 = .ok (.if_icmp .ge 13, 3) := by decide +kernel
theorem d_fill49_10 : decode b_fill49 10 = .ok (.aload_n 0, 1) := by decide +kernel
theorem d_fill49_11 : decode b_fill49 11 = .ok (.iload_n 2, 1) := by decide +kernel
theorem d_fill49_12 : decode b_fill49 12 = .ok (.iload_n 1, 1) := by decide +kernel
theorem d_fill49_13 : decode b_fill49 13 = .ok (.iastore, 1) := by decide +kernel
theorem d_fill49_14 : decode b_fill49 14 = .ok (.iinc 2 1, 3) := by decide +kernel
theorem d_fill49_17 : decode b_fill49 17 = .ok (.goto (-12), 3) := by decide +kernel
theorem d_fill49_20 : decode b_fill49 20 = .ok (.return_, 1) := by decide +kernel
theorem d_La_begin_0 : decode b_La_begin 0 = .ok (.aload_n 0, 1) := by decide +kernel
theorem d_La_begin_1 : decode b_La_begin 1 = .ok (.iload_n 1, 1) := by decide +kernel
theorem d_La_begin_2 : decode b_La_begin 2 = .ok (.putfield 34, 3) := by decide +kernel
theorem d_La_begin_5 : decode b_La_begin 5 = .ok (.aload_n 0, 1) := by decide +kernel
theorem d_La_begin_6 : decode b_La_begin 6 = .ok (.iconst 0, 1) := by decide +kernel
theorem d_La_begin_7 : decode b_La_begin 7 = .ok (.putfield 38, 3) := by decide +kernel
theorem d_La_begin_10 : decode b_La_begin 10 = .ok (.aload_n 0, 1) := by decide +kernel
theorem d_La_begin_11 : decode b_La_begin 11 = .ok (.getfield 9, 3) := by decide +kernel
theorem d_La_begin_14 : decode b_La_begin 14 = .ok (.iconst (-1), 1) := by decide +kernel
theorem d_La_begin_15 : decode b_La_begin 15 = .ok (.invokestatic 41, 3) := by decide +kernel
theorem d_La_begin_18 : decode b_La_begin 18 = .ok (.aload_n 0, 1) := by decide +kernel
theorem d_La_begin_19 : decode b_La_begin 19 = .ok (.getfield 15, 3) := by decide +kernel
theorem d_La_begin_22 : decode b_La_begin 22 = .ok (.iconst (-1), 1) := by decide +kernel
theorem d_La_begin_23 : decode b_La_begin 23 = .ok (.invokestatic 41, 3) := by decide +kernel
theorem d_La_begin_26 : decode b_La_begin 26 = .ok (.return_, 1) := by decide +kernel
theorem d_Is_goalOf_0 : decode b_Is_goalOf 0 = .ok (.aload_n 0, 1) := by decide +kernel
theorem d_Is_goalOf_1 : decode b_Is_goalOf 1 = .ok (.getfield 21, 3) := by decide +kernel
theorem d_Is_goalOf_4 : decode b_Is_goalOf 4 = .ok (.iload_n 1, 1) := by decide +kernel
theorem d_Is_goalOf_5 : decode b_Is_goalOf 5 = .ok (.iaload, 1) := by decide +kernel
theorem d_Is_goalOf_6 : decode b_Is_goalOf 6 = .ok (.istore_n 3, 1) := by decide +kernel
theorem d_Is_goalOf_7 : decode b_Is_goalOf 7 = .ok (.iload_n 3, 1) := by decide +kernel
theorem d_Is_goalOf_8 : decode b_Is_goalOf 8 = .ok (.iconst (-1), 1) := by decide +kernel
theorem d_Is_goalOf_9 : decode b_Is_goalOf 9 = .ok (.if_icmp .ne 7, 3) := by decide +kernel
theorem d_Is_goalOf_12 : decode b_Is_goalOf 12 = .ok (.iload_n 2, 1) := by decide +kernel
theorem d_Is_goalOf_13 : decode b_Is_goalOf 13 = .ok (.goto 15, 3) := by decide +kernel
theorem d_Is_goalOf_16 : decode b_Is_goalOf 16 = .ok (.aload_n 0, 1) := by decide +kernel
theorem d_Is_goalOf_17 : decode b_Is_goalOf 17 = .ok (.getfield 40, 3) := by decide +kernel
theorem d_Is_goalOf_20 : decode b_Is_goalOf 20 = .ok (.getfield 134, 3) := by decide +kernel
theorem d_Is_goalOf_23 : decode b_Is_goalOf 23 = .ok (.iload_n 3, 1) := by decide +kernel
theorem d_Is_goalOf_24 : decode b_Is_goalOf 24 = .ok (.bipush 8, 2) := by decide +kernel
theorem d_Is_goalOf_26 : decode b_Is_goalOf 26 = .ok (.imul, 1) := by decide +kernel
theorem d_Is_goalOf_27 : decode b_Is_goalOf 27 = .ok (.iadd, 1) := by decide +kernel
theorem d_Is_goalOf_28 : decode b_Is_goalOf 28 = .ok (.ireturn, 1) := by decide +kernel
theorem d_Me_isMended_0 : decode b_Me_isMended 0 = .ok (.aload_n 0, 1) := by decide +kernel
theorem d_Me_isMended_1 : decode b_Me_isMended 1 = .ok (.getfield 15, 3) := by decide +kernel
theorem d_Me_isMended_4 : decode b_Me_isMended 4 = .ok (.getfield 54, 3) := by decide +kernel
theorem d_Me_isMended_7 : decode b_Me_isMended 7 = .ok (.iload_n 1, 1) := by decide +kernel
theorem d_Me_isMended_8 : decode b_Me_isMended 8 = .ok (.iaload, 1) := by decide +kernel
theorem d_Me_isMended_9 : decode b_Me_isMended 9 = .ok (.iload_n 2, 1) := by decide +kernel
theorem d_Me_isMended_10 : decode b_Me_isMended 10 = .ok (.if_icmp .ne 26, 3) := by decide +kernel
theorem d_Me_isMended_13 : decode b_Me_isMended 13 = .ok (.aload_n 0, 1) := by decide +kernel
theorem d_Me_isMended_14 : decode b_Me_isMended 14 = .ok (.getfield 19, 3) := by decide +kernel
theorem d_Me_isMended_17 : decode b_Me_isMended 17 = .ok (.aload_n 0, 1) := by decide +kernel
theorem d_Me_isMended_18 : decode b_Me_isMended 18 = .ok (.getfield 15, 3) := by decide +kernel
theorem d_Me_isMended_21 : decode b_Me_isMended 21 = .ok (.getfield 57, 3) := by decide +kernel
theorem d_Me_isMended_24 : decode b_Me_isMended 24 = .ok (.iload_n 1, 1) := by decide +kernel
theorem d_Me_isMended_25 : decode b_Me_isMended 25 = .ok (.iaload, 1) := by decide +kernel
theorem d_Me_isMended_26 : decode b_Me_isMended 26 = .ok (.invokevirtual 60, 3) := by decide +kernel
theorem d_Me_isMended_29 : decode b_Me_isMended 29 = .ok (.ifCond .eq 7, 3) := by decide +kernel
theorem d_Me_isMended_32 : decode b_Me_isMended 32 = .ok (.iconst 1, 1) := by decide +kernel
theorem d_Me_isMended_33 : decode b_Me_isMended 33 = .ok (.goto 4, 3) := by decide +kernel
theorem d_Me_isMended_36 : decode b_Me_isMended 36 = .ok (.iconst 0, 1) := by decide +kernel
theorem d_Me_isMended_37 : decode b_Me_isMended 37 = .ok (.ireturn, 1) := by decide +kernel
theorem d_Me_firstFar_0 : decode b_Me_firstFar 0 = .ok (.iconst 0, 1) := by decide +kernel
theorem d_Me_firstFar_1 : decode b_Me_firstFar 1 = .ok (.istore_n 1, 1) := by decide +kernel
theorem d_Me_firstFar_2 : decode b_Me_firstFar 2 = .ok (.iload_n 1, 1) := by decide +kernel
theorem d_Me_firstFar_3 : decode b_Me_firstFar 3 = .ok (.aload_n 0, 1) := by decide +kernel
theorem d_Me_firstFar_4 : decode b_Me_firstFar 4 = .ok (.getfield 15, 3) := by decide +kernel
theorem d_Me_firstFar_7 : decode b_Me_firstFar 7 = .ok (.getfield 27, 3) := by decide +kernel
theorem d_Me_firstFar_10 : decode b_Me_firstFar 10 = .ok (.if_icmp .ge 57, 3) := by decide +kernel
theorem d_Me_firstFar_13 : decode b_Me_firstFar 13 = .ok (.aload_n 0, 1) := by decide +kernel
theorem d_Me_firstFar_14 : decode b_Me_firstFar 14 = .ok (.getfield 15, 3) := by decide +kernel
theorem d_Me_firstFar_17 : decode b_Me_firstFar 17 = .ok (.getfield 33, 3) := by decide +kernel
theorem d_Me_firstFar_20 : decode b_Me_firstFar 20 = .ok (.iload_n 1, 1) := by decide +kernel
theorem d_Me_firstFar_21 : decode b_Me_firstFar 21 = .ok (.iaload, 1) := by decide +kernel
theorem d_Me_firstFar_22 : decode b_Me_firstFar 22 = .ok (.istore_n 2, 1) := by decide +kernel
theorem d_Me_firstFar_23 : decode b_Me_firstFar 23 = .ok (.aload_n 0, 1) := by decide +kernel
theorem d_Me_firstFar_24 : decode b_Me_firstFar 24 = .ok (.iload_n 2, 1) := by decide +kernel
theorem d_Me_firstFar_25 : decode b_Me_firstFar 25 = .ok (.iconst 4, 1) := by decide +kernel
theorem d_Me_firstFar_26 : decode b_Me_firstFar 26 = .ok (.invokevirtual 37, 3) := by decide +kernel
theorem d_Me_firstFar_29 : decode b_Me_firstFar 29 = .ok (.ifCond .eq 32, 3) := by decide +kernel
theorem d_Me_firstFar_32 : decode b_Me_firstFar 32 = .ok (.aload_n 0, 1) := by decide +kernel
theorem d_Me_firstFar_33 : decode b_Me_firstFar 33 = .ok (.getfield 23, 3) := by decide +kernel
theorem d_Me_firstFar_36 : decode b_Me_firstFar 36 = .ok (.iload_n 2, 1) := by decide +kernel
theorem d_Me_firstFar_37 : decode b_Me_firstFar 37 = .ok (.aload_n 0, 1) := by decide +kernel
theorem d_Me_firstFar_38 : decode b_Me_firstFar 38 = .ok (.getfield 23, 3) := by decide +kernel
theorem d_Me_firstFar_41 : decode b_Me_firstFar 41 = .ok (.iload_n 2, 1) := by decide +kernel
theorem d_Me_firstFar_42 : decode b_Me_firstFar 42 = .ok (.aload_n 0, 1) := by decide +kernel
theorem d_Me_firstFar_43 : decode b_Me_firstFar 43 = .ok (.getfield 23, 3) := by decide +kernel
theorem d_Me_firstFar_46 : decode b_Me_firstFar 46 = .ok (.iload_n 2, 1) := by decide +kernel
theorem d_Me_firstFar_47 : decode b_Me_firstFar 47 = .ok (.invokevirtual 41, 3) := by decide +kernel
theorem d_Me_firstFar_50 : decode b_Me_firstFar 50 = .ok (.invokevirtual 47, 3) := by decide +kernel
theorem d_Me_firstFar_53 : decode b_Me_firstFar 53 = .ok (.invokevirtual 51, 3) := by decide +kernel
theorem d_Me_firstFar_56 : decode b_Me_firstFar 56 = .ok (.ifCond .ne 5, 3) := by decide +kernel
theorem d_Me_firstFar_59 : decode b_Me_firstFar 59 = .ok (.iload_n 2, 1) := by decide +kernel
theorem d_Me_firstFar_60 : decode b_Me_firstFar 60 = .ok (.ireturn, 1) := by decide +kernel
theorem d_Me_firstFar_61 : decode b_Me_firstFar 61 = .ok (.iinc 1 1, 3) := by decide +kernel
theorem d_Me_firstFar_64 : decode b_Me_firstFar 64 = .ok (.goto (-62), 3) := by decide +kernel
theorem d_Me_firstFar_67 : decode b_Me_firstFar 67 = .ok (.iconst (-1), 1) := by decide +kernel
theorem d_Me_firstFar_68 : decode b_Me_firstFar 68 = .ok (.ireturn, 1) := by decide +kernel
end
section
set_option maxHeartbeats 4000000 in
set_option maxRecDepth 100000 in
theorem ylp_Is_find_12 {C : YC} {r : Int32} {V' : Sto} {x1 : Int32} {x2 : Int32} {k83 : Int32 → Sto → RT} {k91 : Sto → RT} (hC : YF C R_Is b_Is_find 4 rm_Is_find) (hE : YEi C .int shpC r V') (hk83 : ∀ (y3 : Int32) (V1 : Sto), k83 y3 V1 = some (r, V') → Y C shpC 4 83 [(3, .int y3)] [] V1) (hk91 : ∀ (V1 : Sto), k91 V1 = some (r, V') → Y C shpC 4 91 [(0, .ref (C.a 10))] [] V1) : ∀ (n : Nat) (x3 : Int32) (V : Sto), lp_Is_find_12 x1 x2 k83 k91 n x3 V = some (r, V') → Y C shpC 4 12 [(0, .ref (C.a 10)), (1, .int x1), (2, .int x2), (3, .int x3)] [] V := by
  intro n
  induction n with
  | zero =>
    intro x3 V h
    rw [lp_Is_find_12] at h
    cases h
  | succ n ih =>
    intro x3 V h
    rw [lp_Is_find_12] at h
    refine Y_iload_n (pc := 12) hC d_Is_find_12 rfl 3 rfl ?_
    refine Y_aload_n (pc := 13) hC d_Is_find_13 rfl 0 rfl ?_
    refine Y_getI (pc := 14) hC sc_10 fl_Is_44 rfl d_Is_find_14 ?_
    refine Y_icmp_ge (pc := 17) hC 91 d_Is_find_17 rfl (fun cc_17 => ?_) (fun cc_17 => ?_)
    · have h := ifp cc_17 h
      refine Y_sub (pc := 91) [0] rfl ?_
      exact hk91 _ h
    · have h := ifn cc_17 h
      refine Y_aload_n (pc := 20) hC d_Is_find_20 rfl 0 rfl ?_
      refine Y_getR (pc := 21) hC sc_10 fl_Is_9 rfl d_Is_find_21 ?_
      refine Y_iload_n (pc := 24) hC d_Is_find_24 rfl 3 rfl ?_
      obtain ⟨hi, h⟩ := ck_some h
      refine Y_iald (pc := 25) hC sc_50 rfl hi d_Is_find_25 ?_
      refine Y_aload_n (pc := 26) hC d_Is_find_26 rfl 0 rfl ?_
      refine Y_getR (pc := 27) hC sc_10 fl_Is_32 rfl d_Is_find_27 ?_
      refine Y_getR (pc := 30) hC sc_6 fl_Is_111 rfl d_Is_find_30 ?_
      refine Y_iload_n (pc := 33) hC d_Is_find_33 rfl 2 rfl ?_
      obtain ⟨hi, h⟩ := ck_some h
      refine Y_iald (pc := 34) hC sc_40 rfl hi d_Is_find_34 ?_
      refine Y_icmp_ne (pc := 35) hC 85 d_Is_find_35 rfl (fun cc_35 => ?_) (fun cc_35 => ?_)
      · have h := ifn cc_35 h
        refine Y_iinc (pc := 85) hC (v := x3 + 1) (L' := [(3, .int (x3 + 1)), (0, .ref (C.a 10)), (1, .int x1), (2, .int x2)]) d_Is_find_85 3 rfl rfl (by decide) rfl ?_
        refine Y_goto (pc := 88) hC 12 d_Is_find_88 rfl ?_
        refine Y_sub (pc := 12) [1, 2, 3, 0] rfl ?_
        exact ih _ _ h
      · have h := ifp cc_35 h
        refine Y_aload_n (pc := 38) hC d_Is_find_38 rfl 0 rfl ?_
        refine Y_getR (pc := 39) hC sc_10 fl_Is_15 rfl d_Is_find_39 ?_
        refine Y_iload_n (pc := 42) hC d_Is_find_42 rfl 3 rfl ?_
        obtain ⟨hi, h⟩ := ck_some h
        refine Y_iald (pc := 43) hC sc_51 rfl hi d_Is_find_43 ?_
        refine Y_aload_n (pc := 44) hC d_Is_find_44 rfl 0 rfl ?_
        refine Y_getR (pc := 45) hC sc_10 fl_Is_36 rfl d_Is_find_45 ?_
        refine Y_iload_n (pc := 48) hC d_Is_find_48 rfl 2 rfl ?_
        obtain ⟨r1, V1, hc_r1, h⟩ := cl_some h
        refine Y_callV (pc := 49) hC (c_Fo_leaderOfMeant C.l C.D C.cI C.cZ C.a hc_r1) sc_8 cls_Fo ml_Is_114 mv_Fo_leaderOfMeant (by decide) (Nat.le_of_ble_eq_true rfl) rfl d_Is_find_49 ?_
        refine Y_icmp_ne (pc := 52) hC 85 d_Is_find_52 rfl (fun cc_52 => ?_) (fun cc_52 => ?_)
        · have h := ifn cc_52 h
          refine Y_iinc (pc := 85) hC (v := x3 + 1) (L' := [(3, .int (x3 + 1)), (0, .ref (C.a 10)), (1, .int x1), (2, .int x2)]) d_Is_find_85 3 rfl rfl (by decide) rfl ?_
          refine Y_goto (pc := 88) hC 12 d_Is_find_88 rfl ?_
          refine Y_sub (pc := 12) [1, 2, 3, 0] rfl ?_
          exact ih _ _ h
        · have h := ifp cc_52 h
          refine Y_aload_n (pc := 55) hC d_Is_find_55 rfl 0 rfl ?_
          refine Y_getR (pc := 56) hC sc_10 fl_Is_18 rfl d_Is_find_56 ?_
          refine Y_iload_n (pc := 59) hC d_Is_find_59 rfl 3 rfl ?_
          obtain ⟨hi, h⟩ := ck_some h
          refine Y_iald (pc := 60) hC sc_52 rfl hi d_Is_find_60 ?_
          refine Y_aload_n (pc := 61) hC d_Is_find_61 rfl 0 rfl ?_
          refine Y_getR (pc := 62) hC sc_10 fl_Is_32 rfl d_Is_find_62 ?_
          refine Y_getR (pc := 65) hC sc_6 fl_Is_119 rfl d_Is_find_65 ?_
          refine Y_iload_n (pc := 68) hC d_Is_find_68 rfl 2 rfl ?_
          obtain ⟨hi, h⟩ := ck_some h
          refine Y_iald (pc := 69) hC sc_42 rfl hi d_Is_find_69 ?_
          refine Y_aload_n (pc := 70) hC d_Is_find_70 rfl 0 rfl ?_
          refine Y_getR (pc := 71) hC sc_10 fl_Is_28 rfl d_Is_find_71 ?_
          refine Y_getR (pc := 74) hC sc_4 fl_Is_122 rfl d_Is_find_74 ?_
          refine Y_iload_n (pc := 77) hC d_Is_find_77 rfl 1 rfl ?_
          obtain ⟨hi, h⟩ := ck_some h
          refine Y_iald (pc := 78) hC sc_31 rfl hi d_Is_find_78 ?_
          refine Y_iadd (pc := 79) hC d_Is_find_79 ?_
          refine Y_icmp_ne (pc := 80) hC 85 d_Is_find_80 rfl (fun cc_80 => ?_) (fun cc_80 => ?_)
          · have h := ifn cc_80 h
            refine Y_iinc (pc := 85) hC (v := x3 + 1) (L' := [(3, .int (x3 + 1)), (0, .ref (C.a 10)), (1, .int x1), (2, .int x2)]) d_Is_find_85 3 rfl rfl (by decide) rfl ?_
            refine Y_goto (pc := 88) hC 12 d_Is_find_88 rfl ?_
            refine Y_sub (pc := 12) [1, 2, 3, 0] rfl ?_
            exact ih _ _ h
          · have h := ifp cc_80 h
            refine Y_sub (pc := 83) [3] rfl ?_
            exact hk83 _ _ h
set_option maxHeartbeats 4000000 in
set_option maxRecDepth 100000 in
theorem c_Is_find (l : Launch) (D : va_G) (cI cZ : ClassId) (a : Nat → Nat) {V : Sto} {p1 : Int32} {r : Int32} {V' : Sto} (h : f_Is_find V p1 = some (r, V')) : YMi l D cI cZ a shpC y_Is_find b_Is_find 4 (some .int) rm_Is_find [.ref (a 10), .int p1] V r V' := by
  refine YMi_of (by decide) (Nat.le_of_ble_eq_true rfl) ?_
  intro C hl hDD hcI hcZ ha hC hE
  subst hl hDD hcI hcZ ha
  show Y C shpC 4 0 [(0, .ref (C.a 10)), (1, .int p1)] [] V
  rw [f_Is_find] at h
  refine Y_aload_n (pc := 0) hC d_Is_find_0 rfl 0 rfl ?_
  refine Y_getR (pc := 1) hC sc_10 fl_Is_28 rfl d_Is_find_1 ?_
  refine Y_getR (pc := 4) hC sc_4 fl_Is_108 rfl d_Is_find_4 ?_
  refine Y_iload_n (pc := 7) hC d_Is_find_7 rfl 1 rfl ?_
  obtain ⟨hi, h⟩ := ck_some h
  refine Y_iald (pc := 8) hC sc_30 rfl hi d_Is_find_8 ?_
  refine Y_istore_n (pc := 9) hC (L' := [(2, .int (V 30 p1.toNatClampNeg)), (0, .ref (C.a 10)), (1, .int p1)]) d_Is_find_9 rfl (by decide) rfl ?_
  refine Y_iconst (pc := 10) hC d_Is_find_10 ki_0 ?_
  refine Y_istore_n (pc := 11) hC (L' := [(3, .int 0), (2, .int (V 30 p1.toNatClampNeg)), (0, .ref (C.a 10)), (1, .int p1)]) d_Is_find_11 rfl (by decide) rfl ?_
  refine Y_sub (pc := 12) [2, 3, 1, 0] rfl ?_
  refine ylp_Is_find_12 hC hE (fun y1 V2 h => ?_) (fun V3 h => ?_) FU _ _ h
  · have h := h
    refine Y_iload_n (pc := 83) hC d_Is_find_83 rfl 0 rfl ?_
    exact Y_iret (pc := 84) hC hE d_Is_find_84 h
  · have h := h
    refine Y_aload_n (pc := 91) hC d_Is_find_91 rfl 0 rfl ?_
    refine Y_getI (pc := 92) hC sc_10 fl_Is_44 rfl d_Is_find_92 ?_
    exact Y_iret (pc := 95) hC hE d_Is_find_95 h
set_option maxHeartbeats 4000000 in
set_option maxRecDepth 100000 in
theorem c_Is_raise (l : Launch) (D : va_G) (cI cZ : ClassId) (a : Nat → Nat) {V : Sto} {p1 : Int32} {r : Int32} {V' : Sto} (h : f_Is_raise V p1 = some (r, V')) : YMv l D cI cZ a shpC y_Is_raise b_Is_raise 3 rm_Is_raise [.ref (a 10), .int p1] V V' := by
  refine YMv_of (by decide) (Nat.le_of_ble_eq_true rfl) ?_
  intro C hl hDD hcI hcZ ha hC hE
  subst hl hDD hcI hcZ ha
  show Y C shpC 3 0 [(0, .ref (C.a 10)), (1, .int p1)] [] V
  rw [f_Is_raise] at h
  refine Y_aload_n (pc := 0) hC d_Is_raise_0 rfl 0 rfl ?_
  refine Y_getR (pc := 1) hC sc_10 fl_Is_28 rfl d_Is_raise_1 ?_
  refine Y_getR (pc := 4) hC sc_4 fl_Is_108 rfl d_Is_raise_4 ?_
  refine Y_iload_n (pc := 7) hC d_Is_raise_7 rfl 1 rfl ?_
  obtain ⟨hi, h⟩ := ck_some h
  refine Y_iald (pc := 8) hC sc_30 rfl hi d_Is_raise_8 ?_
  refine Y_istore_n (pc := 9) hC (L' := [(2, .int (V 30 p1.toNatClampNeg)), (0, .ref (C.a 10)), (1, .int p1)]) d_Is_raise_9 rfl (by decide) rfl ?_
  refine Y_aload_n (pc := 10) hC d_Is_raise_10 rfl 1 rfl ?_
  refine Y_getR (pc := 11) hC sc_10 fl_Is_9 rfl d_Is_raise_11 ?_
  refine Y_aload_n (pc := 14) hC d_Is_raise_14 rfl 1 rfl ?_
  refine Y_getI (pc := 15) hC sc_10 fl_Is_44 rfl d_Is_raise_15 ?_
  refine Y_aload_n (pc := 18) hC d_Is_raise_18 rfl 1 rfl ?_
  refine Y_getR (pc := 19) hC sc_10 fl_Is_32 rfl d_Is_raise_19 ?_
  refine Y_getR (pc := 22) hC sc_6 fl_Is_111 rfl d_Is_raise_22 ?_
  refine Y_iload_n (pc := 25) hC d_Is_raise_25 rfl 0 rfl ?_
  obtain ⟨hi, h⟩ := ck_some h
  refine Y_iald (pc := 26) hC sc_40 rfl hi d_Is_raise_26 ?_
  obtain ⟨hi, h⟩ := ck_some h
  obtain ⟨V1, hV1, h⟩ := nm_some h
  refine Y_iast (pc := 27) hC sc_50 (by decide) rfl hi rfl hV1 d_Is_raise_27 ?_
  refine Y_aload_n (pc := 28) hC d_Is_raise_28 rfl 1 rfl ?_
  refine Y_getR (pc := 29) hC sc_10 fl_Is_15 rfl d_Is_raise_29 ?_
  refine Y_aload_n (pc := 32) hC d_Is_raise_32 rfl 1 rfl ?_
  refine Y_getI (pc := 33) hC sc_10 fl_Is_44 rfl d_Is_raise_33 ?_
  refine Y_aload_n (pc := 36) hC d_Is_raise_36 rfl 1 rfl ?_
  refine Y_getR (pc := 37) hC sc_10 fl_Is_36 rfl d_Is_raise_37 ?_
  refine Y_iload_n (pc := 40) hC d_Is_raise_40 rfl 0 rfl ?_
  obtain ⟨r1, V2, hc_r1, h⟩ := cl_some h
  refine Y_callV (pc := 41) hC (c_Fo_leaderOfMeant C.l C.D C.cI C.cZ C.a hc_r1) sc_8 cls_Fo ml_Is_114 mv_Fo_leaderOfMeant (by decide) (Nat.le_of_ble_eq_true rfl) rfl d_Is_raise_41 ?_
  obtain ⟨hi, h⟩ := ck_some h
  obtain ⟨V3, hV3, h⟩ := nm_some h
  refine Y_iast (pc := 44) hC sc_51 (by decide) rfl hi rfl hV3 d_Is_raise_44 ?_
  refine Y_aload_n (pc := 45) hC d_Is_raise_45 rfl 1 rfl ?_
  refine Y_getR (pc := 46) hC sc_10 fl_Is_18 rfl d_Is_raise_46 ?_
  refine Y_aload_n (pc := 49) hC d_Is_raise_49 rfl 1 rfl ?_
  refine Y_getI (pc := 50) hC sc_10 fl_Is_44 rfl d_Is_raise_50 ?_
  refine Y_aload_n (pc := 53) hC d_Is_raise_53 rfl 1 rfl ?_
  refine Y_getR (pc := 54) hC sc_10 fl_Is_32 rfl d_Is_raise_54 ?_
  refine Y_getR (pc := 57) hC sc_6 fl_Is_119 rfl d_Is_raise_57 ?_
  refine Y_iload_n (pc := 60) hC d_Is_raise_60 rfl 0 rfl ?_
  obtain ⟨hi, h⟩ := ck_some h
  refine Y_iald (pc := 61) hC sc_42 rfl hi d_Is_raise_61 ?_
  refine Y_aload_n (pc := 62) hC d_Is_raise_62 rfl 1 rfl ?_
  refine Y_getR (pc := 63) hC sc_10 fl_Is_28 rfl d_Is_raise_63 ?_
  refine Y_getR (pc := 66) hC sc_4 fl_Is_122 rfl d_Is_raise_66 ?_
  refine Y_iload_n (pc := 69) hC d_Is_raise_69 rfl 2 rfl ?_
  obtain ⟨hi, h⟩ := ck_some h
  refine Y_iald (pc := 70) hC sc_31 rfl hi d_Is_raise_70 ?_
  refine Y_iadd (pc := 71) hC d_Is_raise_71 ?_
  obtain ⟨hi, h⟩ := ck_some h
  obtain ⟨V4, hV4, h⟩ := nm_some h
  refine Y_iast (pc := 72) hC sc_52 (by decide) rfl hi rfl hV4 d_Is_raise_72 ?_
  refine Y_aload_n (pc := 73) hC d_Is_raise_73 rfl 1 rfl ?_
  refine Y_dup (pc := 74) hC d_Is_raise_74 rfl ?_
  refine Y_getI (pc := 75) hC sc_10 fl_Is_44 rfl d_Is_raise_75 ?_
  refine Y_iconst (pc := 78) hC d_Is_raise_78 ki_1 ?_
  refine Y_iadd (pc := 79) hC d_Is_raise_79 ?_
  obtain ⟨V5, hV5, h⟩ := nm_some h
  refine Y_put (pc := 80) hC sc_10 fl_Is_44 rfl (by decide) fp_Is ft_Is_5 rfl rfl hV5 d_Is_raise_80 ?_
  exact Y_vret (pc := 83) hC hE d_Is_raise_83 h
set_option maxHeartbeats 4000000 in
set_option maxRecDepth 100000 in
theorem c_Is_send (l : Launch) (D : va_G) (cI cZ : ClassId) (a : Nat → Nat) {V : Sto} {p1 : Int32} {r : Int32} {V' : Sto} (h : f_Is_send V p1 = some (r, V')) : YMi l D cI cZ a shpC y_Is_send b_Is_send 3 (some .boolean) rm_Is_send [.ref (a 10), .int p1] V r V' := by
  refine YMi_of (by decide) (Nat.le_of_ble_eq_true rfl) ?_
  intro C hl hDD hcI hcZ ha hC hE
  subst hl hDD hcI hcZ ha
  show Y C shpC 3 0 [(0, .ref (C.a 10)), (1, .int p1)] [] V
  rw [f_Is_send] at h
  refine Y_aload_n (pc := 0) hC d_Is_send_0 rfl 0 rfl ?_
  refine Y_iload_n (pc := 1) hC d_Is_send_1 rfl 1 rfl ?_
  obtain ⟨r1, V1, hc_r1, h⟩ := cl_some h
  refine Y_callV (pc := 2) hC (c_Is_find C.l C.D C.cI C.cZ C.a hc_r1) sc_10 cls_Is ml_Is_102 mv_Is_find (by decide) (Nat.le_of_ble_eq_true rfl) rfl d_Is_send_2 ?_
  refine Y_istore_n (pc := 5) hC (L' := [(2, .int r1), (0, .ref (C.a 10)), (1, .int p1)]) d_Is_send_5 rfl (by decide) rfl ?_
  refine Y_iload_n (pc := 6) hC d_Is_send_6 rfl 0 rfl ?_
  refine Y_aload_n (pc := 7) hC d_Is_send_7 rfl 1 rfl ?_
  refine Y_getI (pc := 8) hC sc_10 fl_Is_44 rfl d_Is_send_8 ?_
  refine Y_icmp_ne (pc := 11) hC 30 d_Is_send_11 rfl (fun cc_11 => ?_) (fun cc_11 => ?_)
  · have h := ifn cc_11 h
    refine Y_aload_n (pc := 30) hC d_Is_send_30 rfl 1 rfl ?_
    refine Y_getR (pc := 31) hC sc_10 fl_Is_21 rfl d_Is_send_31 ?_
    refine Y_iload_n (pc := 34) hC d_Is_send_34 rfl 2 rfl ?_
    refine Y_iload_n (pc := 35) hC d_Is_send_35 rfl 0 rfl ?_
    obtain ⟨hi, h⟩ := ck_some h
    obtain ⟨V2, hV2, h⟩ := nm_some h
    refine Y_iast (pc := 36) hC sc_53 (by decide) rfl hi rfl hV2 d_Is_send_36 ?_
    refine Y_aload_n (pc := 37) hC d_Is_send_37 rfl 1 rfl ?_
    refine Y_dup (pc := 38) hC d_Is_send_38 rfl ?_
    refine Y_getI (pc := 39) hC sc_10 fl_Is_48 rfl d_Is_send_39 ?_
    refine Y_iconst (pc := 42) hC d_Is_send_42 ki_1 ?_
    refine Y_iadd (pc := 43) hC d_Is_send_43 ?_
    obtain ⟨V3, hV3, h⟩ := nm_some h
    refine Y_put (pc := 44) hC sc_10 fl_Is_48 rfl (by decide) fp_Is ft_Is_6 rfl rfl hV3 d_Is_send_44 ?_
    refine Y_iconst (pc := 47) hC d_Is_send_47 ki_1 ?_
    exact Y_zret (pc := 48) hC hE d_Is_send_48 rfl h
  · have h := ifp cc_11 h
    refine Y_aload_n (pc := 14) hC d_Is_send_14 rfl 1 rfl ?_
    refine Y_getI (pc := 15) hC sc_10 fl_Is_44 rfl d_Is_send_15 ?_
    refine Y_bipush (pc := 18) hC d_Is_send_18 kb_32 ?_
    refine Y_icmp_lt (pc := 20) hC 25 d_Is_send_20 rfl (fun cc_20 => ?_) (fun cc_20 => ?_)
    · have h := ifp cc_20 h
      refine Y_aload_n (pc := 25) hC d_Is_send_25 rfl 1 rfl ?_
      refine Y_iload_n (pc := 26) hC d_Is_send_26 rfl 2 rfl ?_
      obtain ⟨r2, V4, hc_r2, h⟩ := cl_some h
      refine Y_callVv (pc := 27) hC (c_Is_raise C.l C.D C.cI C.cZ C.a hc_r2) sc_10 cls_Is ml_Is_105 mv_Is_raise (by decide) (Nat.le_of_ble_eq_true rfl) rfl d_Is_send_27 ?_
      refine Y_aload_n (pc := 30) hC d_Is_send_30 rfl 1 rfl ?_
      refine Y_getR (pc := 31) hC sc_10 fl_Is_21 rfl d_Is_send_31 ?_
      refine Y_iload_n (pc := 34) hC d_Is_send_34 rfl 2 rfl ?_
      refine Y_iload_n (pc := 35) hC d_Is_send_35 rfl 0 rfl ?_
      obtain ⟨hi, h⟩ := ck_some h
      obtain ⟨V5, hV5, h⟩ := nm_some h
      refine Y_iast (pc := 36) hC sc_53 (by decide) rfl hi rfl hV5 d_Is_send_36 ?_
      refine Y_aload_n (pc := 37) hC d_Is_send_37 rfl 1 rfl ?_
      refine Y_dup (pc := 38) hC d_Is_send_38 rfl ?_
      refine Y_getI (pc := 39) hC sc_10 fl_Is_48 rfl d_Is_send_39 ?_
      refine Y_iconst (pc := 42) hC d_Is_send_42 ki_1 ?_
      refine Y_iadd (pc := 43) hC d_Is_send_43 ?_
      obtain ⟨V6, hV6, h⟩ := nm_some h
      refine Y_put (pc := 44) hC sc_10 fl_Is_48 rfl (by decide) fp_Is ft_Is_6 rfl rfl hV6 d_Is_send_44 ?_
      refine Y_iconst (pc := 47) hC d_Is_send_47 ki_1 ?_
      exact Y_zret (pc := 48) hC hE d_Is_send_48 rfl h
    · have h := ifn cc_20 h
      refine Y_iconst (pc := 23) hC d_Is_send_23 ki_0 ?_
      exact Y_zret (pc := 24) hC hE d_Is_send_24 rfl h
set_option maxHeartbeats 4000000 in
set_option maxRecDepth 100000 in
theorem c_La_put (l : Launch) (D : va_G) (cI cZ : ClassId) (a : Nat → Nat) {V : Sto} {p1 p2 : Int32} {r : Int32} {V' : Sto} (h : f_La_put V p1 p2 = some (r, V')) : YMi l D cI cZ a shpC y_La_put b_La_put 4 (some .int) rm_La_put [.ref (a 9), .int p1, .int p2] V r V' := by
  refine YMi_of (by decide) (Nat.le_of_ble_eq_true rfl) ?_
  intro C hl hDD hcI hcZ ha hC hE
  subst hl hDD hcI hcZ ha
  show Y C shpC 4 0 [(0, .ref (C.a 9)), (1, .int p1), (2, .int p2)] [] V
  rw [f_La_put] at h
  refine Y_aload_n (pc := 0) hC d_La_put_0 rfl 0 rfl ?_
  refine Y_getI (pc := 1) hC sc_9 fl_La_47 rfl d_La_put_1 ?_
  refine Y_iload_n (pc := 4) hC d_La_put_4 rfl 2 rfl ?_
  refine Y_iadd (pc := 5) hC d_La_put_5 ?_
  refine Y_iconst (pc := 6) hC d_La_put_6 ki_1 ?_
  refine Y_isub (pc := 7) hC d_La_put_7 ?_
  refine Y_iload_n (pc := 8) hC d_La_put_8 rfl 2 rfl ?_
  refine Y_ineg (pc := 9) hC d_La_put_9 ?_
  refine Y_iand (pc := 10) hC d_La_put_10 ?_
  refine Y_istore_n (pc := 11) hC (L' := [(3, .int ((((V 9 5) + p2) - 1) &&& (-p2))), (0, .ref (C.a 9)), (1, .int p1), (2, .int p2)]) d_La_put_11 rfl (by decide) rfl ?_
  refine Y_aload_n (pc := 12) hC d_La_put_12 rfl 1 rfl ?_
  refine Y_iload_n (pc := 13) hC d_La_put_13 rfl 0 rfl ?_
  refine Y_iload_n (pc := 14) hC d_La_put_14 rfl 2 rfl ?_
  refine Y_iadd (pc := 15) hC d_La_put_15 ?_
  obtain ⟨V1, hV1, h⟩ := nm_some h
  refine Y_put (pc := 16) hC sc_9 fl_La_47 rfl (by decide) fp_La ft_La_5 rfl rfl hV1 d_La_put_16 ?_
  refine Y_iload_n (pc := 19) hC d_La_put_19 rfl 0 rfl ?_
  exact Y_iret (pc := 20) hC hE d_La_put_20 h
set_option maxHeartbeats 4000000 in
set_option maxRecDepth 100000 in
theorem ylp_La_laySections_2 {C : YC} {r : Int32} {V' : Sto} {x1 : Int32} {k100 : Sto → RT} (hC : YF C R_La b_La_laySections 3 rm_La_laySections) (hE : YEv C shpC V') (hk100 : ∀ (V1 : Sto), k100 V1 = some (r, V') → Y C shpC 3 100 [] [] V1) : ∀ (n : Nat) (x2 : Int32) (V : Sto), lp_La_laySections_2 x1 k100 n x2 V = some (r, V') → Y C shpC 3 2 [(0, .ref (C.a 9)), (1, .int x1), (2, .int x2)] [] V := by
  intro n
  induction n with
  | zero =>
    intro x2 V h
    rw [lp_La_laySections_2] at h
    cases h
  | succ n ih =>
    intro x2 V h
    rw [lp_La_laySections_2] at h
    refine Y_iload_n (pc := 2) hC d_La_laySections_2 rfl 2 rfl ?_
    refine Y_aload_n (pc := 3) hC d_La_laySections_3 rfl 0 rfl ?_
    refine Y_getR (pc := 4) hC sc_9 fl_La_18 rfl d_La_laySections_4 ?_
    refine Y_getI (pc := 7) hC sc_2 fl_La_72 rfl d_La_laySections_7 ?_
    refine Y_icmp_ge (pc := 10) hC 100 d_La_laySections_10 rfl (fun cc_10 => ?_) (fun cc_10 => ?_)
    · have h := ifp cc_10 h
      refine Y_sub (pc := 100) [] rfl ?_
      exact hk100 _ h
    · have h := ifn cc_10 h
      refine Y_aload_n (pc := 13) hC d_La_laySections_13 rfl 0 rfl ?_
      refine Y_getR (pc := 14) hC sc_9 fl_La_26 rfl d_La_laySections_14 ?_
      refine Y_getR (pc := 17) hC sc_7 fl_La_77 rfl d_La_laySections_17 ?_
      refine Y_iload_n (pc := 20) hC d_La_laySections_20 rfl 2 rfl ?_
      obtain ⟨hi, h⟩ := ck_some h
      refine Y_zald (pc := 21) hC sc_43 rfl hi d_La_laySections_21 ?_
      refine Y_if_eq (pc := 22) hC 94 d_La_laySections_22 rfl (fun cc_22 => ?_) (fun cc_22 => ?_)
      · have h := ifp cc_22 h
        refine Y_iinc (pc := 94) hC (v := x2 + 1) (L' := [(2, .int (x2 + 1)), (0, .ref (C.a 9)), (1, .int x1)]) d_La_laySections_94 2 rfl rfl (by decide) rfl ?_
        refine Y_goto (pc := 97) hC 2 d_La_laySections_97 rfl ?_
        refine Y_sub (pc := 2) [1, 2, 0] rfl ?_
        exact ih _ _ h
      · have h := ifn cc_22 h
        refine Y_aload_n (pc := 25) hC d_La_laySections_25 rfl 0 rfl ?_
        refine Y_getR (pc := 26) hC sc_9 fl_La_18 rfl d_La_laySections_26 ?_
        refine Y_getR (pc := 29) hC sc_2 fl_La_80 rfl d_La_laySections_29 ?_
        refine Y_iload_n (pc := 32) hC d_La_laySections_32 rfl 2 rfl ?_
        obtain ⟨hi, h⟩ := ck_some h
        refine Y_iald (pc := 33) hC sc_16 rfl hi d_La_laySections_33 ?_
        refine Y_iload_n (pc := 34) hC d_La_laySections_34 rfl 1 rfl ?_
        refine Y_icmp_ne (pc := 35) hC 94 d_La_laySections_35 rfl (fun cc_35 => ?_) (fun cc_35 => ?_)
        · have h := ifn cc_35 h
          refine Y_iinc (pc := 94) hC (v := x2 + 1) (L' := [(2, .int (x2 + 1)), (0, .ref (C.a 9)), (1, .int x1)]) d_La_laySections_94 2 rfl rfl (by decide) rfl ?_
          refine Y_goto (pc := 97) hC 2 d_La_laySections_97 rfl ?_
          refine Y_sub (pc := 2) [1, 2, 0] rfl ?_
          exact ih _ _ h
        · have h := ifp cc_35 h
          refine Y_aload_n (pc := 38) hC d_La_laySections_38 rfl 0 rfl ?_
          refine Y_getR (pc := 39) hC sc_9 fl_La_9 rfl d_La_laySections_39 ?_
          refine Y_iload_n (pc := 42) hC d_La_laySections_42 rfl 2 rfl ?_
          refine Y_aload_n (pc := 43) hC d_La_laySections_43 rfl 0 rfl ?_
          refine Y_getR (pc := 44) hC sc_9 fl_La_30 rfl d_La_laySections_44 ?_
          refine Y_iload_n (pc := 47) hC d_La_laySections_47 rfl 2 rfl ?_
          obtain ⟨r1, V1, hc_r1, h⟩ := cl_some h
          refine Y_callV (pc := 48) hC (c_Fo_isFolded C.l C.D C.cI C.cZ C.a hc_r1) sc_8 cls_Fo ml_La_83 mv_Fo_isFolded (by decide) (Nat.le_of_ble_eq_true rfl) rfl d_La_laySections_48 ?_
          refine Y_if_eq (pc := 51) hC 71 d_La_laySections_51 rfl (fun cc_51 => ?_) (fun cc_51 => ?_)
          · have h := ifp cc_51 h
            refine Y_aload_n (pc := 71) hC d_La_laySections_71 rfl 0 rfl ?_
            refine Y_aload_n (pc := 72) hC d_La_laySections_72 rfl 0 rfl ?_
            refine Y_getR (pc := 73) hC sc_9 fl_La_18 rfl d_La_laySections_73 ?_
            refine Y_getR (pc := 76) hC sc_2 fl_La_92 rfl d_La_laySections_76 ?_
            refine Y_iload_n (pc := 79) hC d_La_laySections_79 rfl 2 rfl ?_
            obtain ⟨hi, h⟩ := ck_some h
            refine Y_iald (pc := 80) hC sc_17 rfl hi d_La_laySections_80 ?_
            refine Y_aload_n (pc := 81) hC d_La_laySections_81 rfl 0 rfl ?_
            refine Y_getR (pc := 82) hC sc_9 fl_La_18 rfl d_La_laySections_82 ?_
            refine Y_getR (pc := 85) hC sc_2 fl_La_95 rfl d_La_laySections_85 ?_
            refine Y_iload_n (pc := 88) hC d_La_laySections_88 rfl 2 rfl ?_
            obtain ⟨hi, h⟩ := ck_some h
            refine Y_iald (pc := 89) hC sc_18 rfl hi d_La_laySections_89 ?_
            obtain ⟨r2, V2, hc_r2, h⟩ := cl_some h
            refine Y_callV (pc := 90) hC (c_La_put C.l C.D C.cI C.cZ C.a hc_r2) sc_9 cls_La ml_La_54 mv_La_put (by decide) (Nat.le_of_ble_eq_true rfl) rfl d_La_laySections_90 ?_
            obtain ⟨hi, h⟩ := ck_some h
            obtain ⟨V3, hV3, h⟩ := nm_some h
            refine Y_iast (pc := 93) hC sc_48 (by decide) rfl hi rfl hV3 d_La_laySections_93 ?_
            refine Y_iinc (pc := 94) hC (v := x2 + 1) (L' := [(2, .int (x2 + 1)), (0, .ref (C.a 9)), (1, .int x1)]) d_La_laySections_94 2 rfl rfl (by decide) rfl ?_
            refine Y_goto (pc := 97) hC 2 d_La_laySections_97 rfl ?_
            refine Y_sub (pc := 2) [1, 2, 0] rfl ?_
            exact ih _ _ h
          · have h := ifn cc_51 h
            refine Y_aload_n (pc := 54) hC d_La_laySections_54 rfl 0 rfl ?_
            refine Y_getR (pc := 55) hC sc_9 fl_La_9 rfl d_La_laySections_55 ?_
            refine Y_aload_n (pc := 58) hC d_La_laySections_58 rfl 0 rfl ?_
            refine Y_getR (pc := 59) hC sc_9 fl_La_30 rfl d_La_laySections_59 ?_
            refine Y_getR (pc := 62) hC sc_8 fl_La_89 rfl d_La_laySections_62 ?_
            refine Y_iload_n (pc := 65) hC d_La_laySections_65 rfl 2 rfl ?_
            obtain ⟨hi, h⟩ := ck_some h
            refine Y_iald (pc := 66) hC sc_46 rfl hi d_La_laySections_66 ?_
            obtain ⟨hi, h⟩ := ck_some h
            refine Y_iald (pc := 67) hC sc_48 rfl hi d_La_laySections_67 ?_
            refine Y_goto (pc := 68) hC 93 d_La_laySections_68 rfl ?_
            obtain ⟨hi, h⟩ := ck_some h
            obtain ⟨V4, hV4, h⟩ := nm_some h
            refine Y_iast (pc := 93) hC sc_48 (by decide) rfl hi rfl hV4 d_La_laySections_93 ?_
            refine Y_iinc (pc := 94) hC (v := x2 + 1) (L' := [(2, .int (x2 + 1)), (0, .ref (C.a 9)), (1, .int x1)]) d_La_laySections_94 2 rfl rfl (by decide) rfl ?_
            refine Y_goto (pc := 97) hC 2 d_La_laySections_97 rfl ?_
            refine Y_sub (pc := 2) [1, 2, 0] rfl ?_
            exact ih _ _ h
set_option maxHeartbeats 4000000 in
set_option maxRecDepth 100000 in
theorem c_La_laySections (l : Launch) (D : va_G) (cI cZ : ClassId) (a : Nat → Nat) {V : Sto} {p1 : Int32} {r : Int32} {V' : Sto} (h : f_La_laySections V p1 = some (r, V')) : YMv l D cI cZ a shpC y_La_laySections b_La_laySections 3 rm_La_laySections [.ref (a 9), .int p1] V V' := by
  refine YMv_of (by decide) (Nat.le_of_ble_eq_true rfl) ?_
  intro C hl hDD hcI hcZ ha hC hE
  subst hl hDD hcI hcZ ha
  show Y C shpC 3 0 [(0, .ref (C.a 9)), (1, .int p1)] [] V
  rw [f_La_laySections] at h
  refine Y_iconst (pc := 0) hC d_La_laySections_0 ki_0 ?_
  refine Y_istore_n (pc := 1) hC (L' := [(2, .int 0), (0, .ref (C.a 9)), (1, .int p1)]) d_La_laySections_1 rfl (by decide) rfl ?_
  refine Y_sub (pc := 2) [1, 2, 0] rfl ?_
  refine ylp_La_laySections_2 hC hE (fun V5 h => ?_) FU _ _ h
  exact Y_vret (pc := 100) hC hE d_La_laySections_100 h
set_option maxHeartbeats 4000000 in
set_option maxRecDepth 100000 in
theorem ylp_La_lay_48 {C : YC} {r : Int32} {V' : Sto} {k93 : Sto → RT} (hC : YF C R_La b_La_lay 3 rm_La_lay) (hE : YEv C shpC V') (hk93 : ∀ (V1 : Sto), k93 V1 = some (r, V') → Y C shpC 3 93 [] [] V1) : ∀ (n : Nat) (x2 : Int32) (V : Sto), lp_La_lay_48 k93 n x2 V = some (r, V') → Y C shpC 3 48 [(0, .ref (C.a 9)), (2, .int x2)] [] V := by
  intro n
  induction n with
  | zero =>
    intro x2 V h
    rw [lp_La_lay_48] at h
    cases h
  | succ n ih =>
    intro x2 V h
    rw [lp_La_lay_48] at h
    refine Y_iload_n (pc := 48) hC d_La_lay_48 rfl 1 rfl ?_
    refine Y_sipush (pc := 49) hC d_La_lay_49 ks_200 ?_
    refine Y_icmp_ge (pc := 52) hC 93 d_La_lay_52 rfl (fun cc_52 => ?_) (fun cc_52 => ?_)
    · have h := ifp cc_52 h
      refine Y_sub (pc := 93) [] rfl ?_
      exact hk93 _ h
    · have h := ifn cc_52 h
      refine Y_aload_n (pc := 55) hC d_La_lay_55 rfl 0 rfl ?_
      refine Y_getR (pc := 56) hC sc_9 fl_La_26 rfl d_La_lay_56 ?_
      refine Y_getR (pc := 59) hC sc_7 fl_La_61 rfl d_La_lay_59 ?_
      refine Y_iload_n (pc := 62) hC d_La_lay_62 rfl 1 rfl ?_
      obtain ⟨hi, h⟩ := ck_some h
      refine Y_zald (pc := 63) hC sc_44 rfl hi d_La_lay_63 ?_
      refine Y_if_eq (pc := 64) hC 87 d_La_lay_64 rfl (fun cc_64 => ?_) (fun cc_64 => ?_)
      · have h := ifp cc_64 h
        refine Y_iinc (pc := 87) hC (v := x2 + 1) (L' := [(2, .int (x2 + 1)), (0, .ref (C.a 9))]) d_La_lay_87 1 rfl rfl (by decide) rfl ?_
        refine Y_goto (pc := 90) hC 48 d_La_lay_90 rfl ?_
        refine Y_sub (pc := 48) [1, 0] rfl ?_
        exact ih _ _ h
      · have h := ifn cc_64 h
        refine Y_aload_n (pc := 67) hC d_La_lay_67 rfl 0 rfl ?_
        refine Y_getR (pc := 68) hC sc_9 fl_La_15 rfl d_La_lay_68 ?_
        refine Y_iload_n (pc := 71) hC d_La_lay_71 rfl 1 rfl ?_
        refine Y_aload_n (pc := 72) hC d_La_lay_72 rfl 0 rfl ?_
        refine Y_aload_n (pc := 73) hC d_La_lay_73 rfl 0 rfl ?_
        refine Y_getR (pc := 74) hC sc_9 fl_La_22 rfl d_La_lay_74 ?_
        refine Y_getR (pc := 77) hC sc_6 fl_La_67 rfl d_La_lay_77 ?_
        refine Y_iload_n (pc := 80) hC d_La_lay_80 rfl 1 rfl ?_
        obtain ⟨hi, h⟩ := ck_some h
        refine Y_iald (pc := 81) hC sc_39 rfl hi d_La_lay_81 ?_
        refine Y_iconst (pc := 82) hC d_La_lay_82 ki_4 ?_
        obtain ⟨r5, V8, hc_r5, h⟩ := cl_some h
        refine Y_callV (pc := 83) hC (c_La_put C.l C.D C.cI C.cZ C.a hc_r5) sc_9 cls_La ml_La_54 mv_La_put (by decide) (Nat.le_of_ble_eq_true rfl) rfl d_La_lay_83 ?_
        obtain ⟨hi, h⟩ := ck_some h
        obtain ⟨V9, hV9, h⟩ := nm_some h
        refine Y_iast (pc := 86) hC sc_49 (by decide) rfl hi rfl hV9 d_La_lay_86 ?_
        refine Y_iinc (pc := 87) hC (v := x2 + 1) (L' := [(2, .int (x2 + 1)), (0, .ref (C.a 9))]) d_La_lay_87 1 rfl rfl (by decide) rfl ?_
        refine Y_goto (pc := 90) hC 48 d_La_lay_90 rfl ?_
        refine Y_sub (pc := 48) [1, 0] rfl ?_
        exact ih _ _ h
set_option maxHeartbeats 4000000 in
set_option maxRecDepth 100000 in
theorem c_La_lay (l : Launch) (D : va_G) (cI cZ : ClassId) (a : Nat → Nat) {V : Sto} {p1 : Int32} {r : Int32} {V' : Sto} (h : f_La_lay V p1 = some (r, V')) : YMv l D cI cZ a shpC y_La_lay b_La_lay 3 rm_La_lay [.ref (a 9), .int p1] V V' := by
  refine YMv_of (by decide) (Nat.le_of_ble_eq_true rfl) ?_
  intro C hl hDD hcI hcZ ha hC hE
  subst hl hDD hcI hcZ ha
  show Y C shpC 3 0 [(0, .ref (C.a 9)), (1, .int p1)] [] V
  rw [f_La_lay] at h
  refine Y_aload_n (pc := 0) hC d_La_lay_0 rfl 0 rfl ?_
  refine Y_dup (pc := 1) hC d_La_lay_1 rfl ?_
  refine Y_getI (pc := 2) hC sc_9 fl_La_38 rfl d_La_lay_2 ?_
  refine Y_iconst (pc := 5) hC d_La_lay_5 ki_1 ?_
  refine Y_iadd (pc := 6) hC d_La_lay_6 ?_
  obtain ⟨V1, hV1, h⟩ := nm_some h
  refine Y_put (pc := 7) hC sc_9 fl_La_38 rfl (by decide) fp_La ft_La_6 rfl rfl hV1 d_La_lay_7 ?_
  refine Y_aload_n (pc := 10) hC d_La_lay_10 rfl 0 rfl ?_
  refine Y_aload_n (pc := 11) hC d_La_lay_11 rfl 0 rfl ?_
  refine Y_getI (pc := 12) hC sc_9 fl_La_34 rfl d_La_lay_12 ?_
  obtain ⟨V2, hV2, h⟩ := nm_some h
  refine Y_put (pc := 15) hC sc_9 fl_La_47 rfl (by decide) fp_La ft_La_5 rfl rfl hV2 d_La_lay_15 ?_
  refine Y_aload_n (pc := 18) hC d_La_lay_18 rfl 0 rfl ?_
  refine Y_iconst (pc := 19) hC d_La_lay_19 ki_0 ?_
  obtain ⟨r1, V3, hc_r1, h⟩ := cl_some h
  refine Y_callVv (pc := 20) hC (c_La_laySections C.l C.D C.cI C.cZ C.a hc_r1) sc_9 cls_La ml_La_50 mv_La_laySections (by decide) (Nat.le_of_ble_eq_true rfl) rfl d_La_lay_20 ?_
  refine Y_aload_n (pc := 23) hC d_La_lay_23 rfl 0 rfl ?_
  refine Y_aload_n (pc := 24) hC d_La_lay_24 rfl 0 rfl ?_
  refine Y_iload_n (pc := 25) hC d_La_lay_25 rfl 1 rfl ?_
  refine Y_bipush (pc := 26) hC d_La_lay_26 kb_8 ?_
  refine Y_imul (pc := 28) hC d_La_lay_28 ?_
  refine Y_iconst (pc := 29) hC d_La_lay_29 ki_4 ?_
  obtain ⟨r2, V4, hc_r2, h⟩ := cl_some h
  refine Y_callV (pc := 30) hC (c_La_put C.l C.D C.cI C.cZ C.a hc_r2) sc_9 cls_La ml_La_54 mv_La_put (by decide) (Nat.le_of_ble_eq_true rfl) rfl d_La_lay_30 ?_
  obtain ⟨V5, hV5, h⟩ := nm_some h
  refine Y_put (pc := 33) hC sc_9 fl_La_58 rfl (by decide) fp_La ft_La_7 rfl rfl hV5 d_La_lay_33 ?_
  refine Y_aload_n (pc := 36) hC d_La_lay_36 rfl 0 rfl ?_
  refine Y_iconst (pc := 37) hC d_La_lay_37 ki_1 ?_
  obtain ⟨r3, V6, hc_r3, h⟩ := cl_some h
  refine Y_callVv (pc := 38) hC (c_La_laySections C.l C.D C.cI C.cZ C.a hc_r3) sc_9 cls_La ml_La_50 mv_La_laySections (by decide) (Nat.le_of_ble_eq_true rfl) rfl d_La_lay_38 ?_
  refine Y_aload_n (pc := 41) hC d_La_lay_41 rfl 0 rfl ?_
  refine Y_iconst (pc := 42) hC d_La_lay_42 ki_2 ?_
  obtain ⟨r4, V7, hc_r4, h⟩ := cl_some h
  refine Y_callVv (pc := 43) hC (c_La_laySections C.l C.D C.cI C.cZ C.a hc_r4) sc_9 cls_La ml_La_50 mv_La_laySections (by decide) (Nat.le_of_ble_eq_true rfl) rfl d_La_lay_43 ?_
  refine Y_iconst (pc := 46) hC d_La_lay_46 ki_0 ?_
  refine Y_istore_n (pc := 47) hC (L' := [(2, .int 0), (0, .ref (C.a 9)), (1, .int p1)]) d_La_lay_47 rfl (by decide) rfl ?_
  refine Y_sub (pc := 48) [1, 0] rfl ?_
  refine ylp_La_lay_48 hC hE (fun V10 h => ?_) FU _ _ h
  exact Y_vret (pc := 93) hC hE d_La_lay_93 h
set_option maxHeartbeats 4000000 in
set_option maxRecDepth 100000 in
theorem ylp_fill53_5 {C : YC} {r : Int32} {V' : Sto} {x1 : Int32} {x3 : Int32} {k20 : Sto → RT} (hC : YF C "java/util/Arrays" b_fill53 4 rm_fill53) (hE : YEv C shpC V') (hk20 : ∀ (V1 : Sto), k20 V1 = some (r, V') → Y C shpC 4 20 [] [] V1) : ∀ (n : Nat) (x2 : Int32) (V : Sto), lp_fill53_5 x1 x3 k20 n x2 V = some (r, V') → Y C shpC 4 5 [(0, .ref (C.a 53)), (1, .int x1), (2, .int x2), (3, .int x3)] [] V := by
  intro n
  induction n with
  | zero =>
    intro x2 V h
    rw [lp_fill53_5] at h
    cases h
  | succ n ih =>
    intro x2 V h
    rw [lp_fill53_5] at h
    refine Y_iload_n (pc := 5) hC d_fill53_5 rfl 2 rfl ?_
    refine Y_iload_n (pc := 6) hC d_fill53_6 rfl 3 rfl ?_
    refine Y_icmp_ge (pc := 7) hC 20 d_fill53_7 rfl (fun cc_7 => ?_) (fun cc_7 => ?_)
    · have h := ifp cc_7 h
      refine Y_sub (pc := 20) [] rfl ?_
      exact hk20 _ h
    · have h := ifn cc_7 h
      refine Y_aload_n (pc := 10) hC d_fill53_10 rfl 0 rfl ?_
      refine Y_iload_n (pc := 11) hC d_fill53_11 rfl 2 rfl ?_
      refine Y_iload_n (pc := 12) hC d_fill53_12 rfl 1 rfl ?_
      obtain ⟨hi, h⟩ := ck_some h
      obtain ⟨V1, hV1, h⟩ := nm_some h
      refine Y_iast (pc := 13) hC sc_53 (by decide) rfl hi rfl hV1 d_fill53_13 ?_
      refine Y_iinc (pc := 14) hC (v := x2 + 1) (L' := [(2, .int (x2 + 1)), (0, .ref (C.a 53)), (1, .int x1), (3, .int x3)]) d_fill53_14 2 rfl rfl (by decide) rfl ?_
      refine Y_goto (pc := 17) hC 5 d_fill53_17 rfl ?_
      refine Y_sub (pc := 5) [1, 2, 0, 3] rfl ?_
      exact ih _ _ h
set_option maxHeartbeats 4000000 in
set_option maxRecDepth 100000 in
theorem c_fill53 (l : Launch) (D : va_G) (cI cZ : ClassId) (a : Nat → Nat) {V : Sto} {p1 : Int32} {r : Int32} {V' : Sto} (h : f_fill53 V p1 = some (r, V')) : YMv l D cI cZ a shpC y_fill53 b_fill53 4 rm_fill53 [.ref (a 53), .int p1] V V' := by
  refine YMv_of (by decide) (Nat.le_of_ble_eq_true rfl) ?_
  intro C hl hDD hcI hcZ ha hC hE
  subst hl hDD hcI hcZ ha
  show Y C shpC 4 0 [(0, .ref (C.a 53)), (1, .int p1)] [] V
  rw [f_fill53] at h
  refine Y_iconst (pc := 0) hC d_fill53_0 ki_0 ?_
  refine Y_istore_n (pc := 1) hC (L' := [(2, .int 0), (0, .ref (C.a 53)), (1, .int p1)]) d_fill53_1 rfl (by decide) rfl ?_
  refine Y_aload_n (pc := 2) hC d_fill53_2 rfl 1 rfl ?_
  refine Y_alen (pc := 3) hC sc_53 rfl d_fill53_3 ?_
  refine Y_istore_n (pc := 4) hC (L' := [(3, .int (nI 600)), (2, .int 0), (0, .ref (C.a 53)), (1, .int p1)]) d_fill53_4 rfl (by decide) rfl ?_
  refine Y_sub (pc := 5) [2, 3, 1, 0] rfl ?_
  refine ylp_fill53_5 hC hE (fun V2 h => ?_) FU _ _ h
  exact Y_vret (pc := 20) hC hE d_fill53_20 h
set_option maxHeartbeats 4000000 in
set_option maxRecDepth 100000 in
theorem ylp_Is_settle_31 {C : YC} {r : Int32} {V' : Sto} {k59 : Sto → RT} {k78 : Sto → RT} (hC : YF C R_Is b_Is_settle 3 rm_Is_settle) (hE : YEi C .boolean shpC r V') (hk59 : ∀ (V1 : Sto), k59 V1 = some (r, V') → Y C shpC 3 59 [] [] V1) (hk78 : ∀ (V1 : Sto), k78 V1 = some (r, V') → Y C shpC 3 78 [] [] V1) : ∀ (n : Nat) (x1 : Int32) (V : Sto), lp_Is_settle_31 k59 k78 n x1 V = some (r, V') → Y C shpC 3 31 [(0, .ref (C.a 10)), (1, .int x1)] [] V := by
  intro n
  induction n with
  | zero =>
    intro x1 V h
    rw [lp_Is_settle_31] at h
    cases h
  | succ n ih =>
    intro x1 V h
    rw [lp_Is_settle_31] at h
    refine Y_iload_n (pc := 31) hC d_Is_settle_31 rfl 1 rfl ?_
    refine Y_sipush (pc := 32) hC d_Is_settle_32 ks_600 ?_
    refine Y_icmp_gt (pc := 35) hC 78 d_Is_settle_35 rfl (fun cc_35 => ?_) (fun cc_35 => ?_)
    · have h := ifp cc_35 h
      refine Y_sub (pc := 78) [] rfl ?_
      exact hk78 _ h
    · have h := ifn cc_35 h
      refine Y_aload_n (pc := 38) hC d_Is_settle_38 rfl 0 rfl ?_
      obtain ⟨r3, V5, hc_r3, h⟩ := cl_some h
      refine Y_callV (pc := 39) hC (c_Is_firstStranded C.l C.D C.cI C.cZ C.a hc_r3) sc_10 cls_Is ml_Is_63 mv_Is_firstStranded (by decide) (Nat.le_of_ble_eq_true rfl) rfl d_Is_settle_39 ?_
      refine Y_istore_n (pc := 42) hC (L' := [(2, .int r3), (0, .ref (C.a 10)), (1, .int x1)]) d_Is_settle_42 rfl (by decide) rfl ?_
      refine Y_iload_n (pc := 43) hC d_Is_settle_43 rfl 0 rfl ?_
      refine Y_iconst (pc := 44) hC d_Is_settle_44 ki_m1 ?_
      refine Y_icmp_ne (pc := 45) hC 51 d_Is_settle_45 rfl (fun cc_45 => ?_) (fun cc_45 => ?_)
      · have h := ifn cc_45 h
        refine Y_aload_n (pc := 51) hC d_Is_settle_51 rfl 1 rfl ?_
        refine Y_iload_n (pc := 52) hC d_Is_settle_52 rfl 0 rfl ?_
        obtain ⟨r4, V6, hc_r4, h⟩ := cl_some h
        refine Y_callV (pc := 53) hC (c_Is_send C.l C.D C.cI C.cZ C.a hc_r4) sc_10 cls_Is ml_Is_67 mv_Is_send (by decide) (Nat.le_of_ble_eq_true rfl) rfl d_Is_settle_53 ?_
        refine Y_if_ne (pc := 56) hC 61 d_Is_settle_56 rfl (fun cc_56 => ?_) (fun cc_56 => ?_)
        · have h := ifn cc_56 h
          refine Y_aload_n (pc := 61) hC d_Is_settle_61 rfl 1 rfl ?_
          refine Y_getR (pc := 62) hC sc_10 fl_Is_40 rfl d_Is_settle_62 ?_
          refine Y_aload_n (pc := 65) hC d_Is_settle_65 rfl 1 rfl ?_
          refine Y_getI (pc := 66) hC sc_10 fl_Is_44 rfl d_Is_settle_66 ?_
          obtain ⟨r5, V7, hc_r5, h⟩ := cl_some h
          refine Y_callVv (pc := 69) hC (c_La_lay C.l C.D C.cI C.cZ C.a hc_r5) sc_9 cls_La ml_Is_57 mv_La_lay (by decide) (Nat.le_of_ble_eq_true rfl) rfl d_Is_settle_69 ?_
          refine Y_iinc (pc := 72) hC (v := x1 + 1) (L' := [(1, .int (x1 + 1)), (2, .int r3), (0, .ref (C.a 10))]) d_Is_settle_72 2 rfl rfl (by decide) rfl ?_
          refine Y_goto (pc := 75) hC 31 d_Is_settle_75 rfl ?_
          refine Y_sub (pc := 31) [2, 0] rfl ?_
          exact ih _ _ h
        · have h := ifp cc_56 h
          refine Y_sub (pc := 59) [] rfl ?_
          exact hk59 _ h
      · have h := ifp cc_45 h
        refine Y_goto (pc := 48) hC 78 d_Is_settle_48 rfl ?_
        refine Y_sub (pc := 78) [] rfl ?_
        exact hk78 _ h
set_option maxHeartbeats 4000000 in
set_option maxRecDepth 100000 in
theorem c_Is_settle (l : Launch) (D : va_G) (cI cZ : ClassId) (a : Nat → Nat) {V : Sto} {r : Int32} {V' : Sto} (h : f_Is_settle V = some (r, V')) : YMi l D cI cZ a shpC y_Is_settle b_Is_settle 3 (some .boolean) rm_Is_settle [.ref (a 10)] V r V' := by
  refine YMi_of (by decide) (Nat.le_of_ble_eq_true rfl) ?_
  intro C hl hDD hcI hcZ ha hC hE
  subst hl hDD hcI hcZ ha
  show Y C shpC 3 0 [(0, .ref (C.a 10))] [] V
  rw [f_Is_settle] at h
  refine Y_aload_n (pc := 0) hC d_Is_settle_0 rfl 0 rfl ?_
  refine Y_iconst (pc := 1) hC d_Is_settle_1 ki_0 ?_
  obtain ⟨V1, hV1, h⟩ := nm_some h
  refine Y_put (pc := 2) hC sc_10 fl_Is_44 rfl (by decide) fp_Is ft_Is_5 rfl rfl hV1 d_Is_settle_2 ?_
  refine Y_aload_n (pc := 5) hC d_Is_settle_5 rfl 0 rfl ?_
  refine Y_iconst (pc := 6) hC d_Is_settle_6 ki_0 ?_
  obtain ⟨V2, hV2, h⟩ := nm_some h
  refine Y_put (pc := 7) hC sc_10 fl_Is_48 rfl (by decide) fp_Is ft_Is_6 rfl rfl hV2 d_Is_settle_7 ?_
  refine Y_aload_n (pc := 10) hC d_Is_settle_10 rfl 0 rfl ?_
  refine Y_getR (pc := 11) hC sc_10 fl_Is_21 rfl d_Is_settle_11 ?_
  refine Y_iconst (pc := 14) hC d_Is_settle_14 ki_m1 ?_
  obtain ⟨r1, V3, hc_r1, h⟩ := cl_some h
  refine Y_callSv (pc := 15) hC (c_fill53 C.l C.D C.cI C.cZ C.a hc_r1) ml_Is_51 ms_fill53 (by decide) (Nat.le_of_ble_eq_true rfl) rfl d_Is_settle_15 ?_
  refine Y_aload_n (pc := 18) hC d_Is_settle_18 rfl 0 rfl ?_
  refine Y_getR (pc := 19) hC sc_10 fl_Is_40 rfl d_Is_settle_19 ?_
  refine Y_aload_n (pc := 22) hC d_Is_settle_22 rfl 0 rfl ?_
  refine Y_getI (pc := 23) hC sc_10 fl_Is_44 rfl d_Is_settle_23 ?_
  obtain ⟨r2, V4, hc_r2, h⟩ := cl_some h
  refine Y_callVv (pc := 26) hC (c_La_lay C.l C.D C.cI C.cZ C.a hc_r2) sc_9 cls_La ml_Is_57 mv_La_lay (by decide) (Nat.le_of_ble_eq_true rfl) rfl d_Is_settle_26 ?_
  refine Y_iconst (pc := 29) hC d_Is_settle_29 ki_0 ?_
  refine Y_istore_n (pc := 30) hC (L' := [(1, .int 0), (0, .ref (C.a 10))]) d_Is_settle_30 rfl (by decide) rfl ?_
  refine Y_sub (pc := 31) [1, 0] rfl ?_
  refine ylp_Is_settle_31 hC hE (fun V8 h => ?_) (fun V9 h => ?_) FU _ _ h
  · have h := h
    refine Y_iconst (pc := 59) hC d_Is_settle_59 ki_0 ?_
    exact Y_zret (pc := 60) hC hE d_Is_settle_60 rfl h
  · have h := h
    refine Y_iconst (pc := 78) hC d_Is_settle_78 ki_1 ?_
    exact Y_zret (pc := 79) hC hE d_Is_settle_79 rfl h
set_option maxHeartbeats 4000000 in
set_option maxRecDepth 100000 in
theorem ylp_fill48_5 {C : YC} {r : Int32} {V' : Sto} {x1 : Int32} {x3 : Int32} {k20 : Sto → RT} (hC : YF C "java/util/Arrays" b_fill48 4 rm_fill48) (hE : YEv C shpC V') (hk20 : ∀ (V1 : Sto), k20 V1 = some (r, V') → Y C shpC 4 20 [] [] V1) : ∀ (n : Nat) (x2 : Int32) (V : Sto), lp_fill48_5 x1 x3 k20 n x2 V = some (r, V') → Y C shpC 4 5 [(0, .ref (C.a 48)), (1, .int x1), (2, .int x2), (3, .int x3)] [] V := by
  intro n
  induction n with
  | zero =>
    intro x2 V h
    rw [lp_fill48_5] at h
    cases h
  | succ n ih =>
    intro x2 V h
    rw [lp_fill48_5] at h
    refine Y_iload_n (pc := 5) hC d_fill48_5 rfl 2 rfl ?_
    refine Y_iload_n (pc := 6) hC d_fill48_6 rfl 3 rfl ?_
    refine Y_icmp_ge (pc := 7) hC 20 d_fill48_7 rfl (fun cc_7 => ?_) (fun cc_7 => ?_)
    · have h := ifp cc_7 h
      refine Y_sub (pc := 20) [] rfl ?_
      exact hk20 _ h
    · have h := ifn cc_7 h
      refine Y_aload_n (pc := 10) hC d_fill48_10 rfl 0 rfl ?_
      refine Y_iload_n (pc := 11) hC d_fill48_11 rfl 2 rfl ?_
      refine Y_iload_n (pc := 12) hC d_fill48_12 rfl 1 rfl ?_
      obtain ⟨hi, h⟩ := ck_some h
      obtain ⟨V1, hV1, h⟩ := nm_some h
      refine Y_iast (pc := 13) hC sc_48 (by decide) rfl hi rfl hV1 d_fill48_13 ?_
      refine Y_iinc (pc := 14) hC (v := x2 + 1) (L' := [(2, .int (x2 + 1)), (0, .ref (C.a 48)), (1, .int x1), (3, .int x3)]) d_fill48_14 2 rfl rfl (by decide) rfl ?_
      refine Y_goto (pc := 17) hC 5 d_fill48_17 rfl ?_
      refine Y_sub (pc := 5) [1, 2, 0, 3] rfl ?_
      exact ih _ _ h
set_option maxHeartbeats 4000000 in
set_option maxRecDepth 100000 in
theorem c_fill48 (l : Launch) (D : va_G) (cI cZ : ClassId) (a : Nat → Nat) {V : Sto} {p1 : Int32} {r : Int32} {V' : Sto} (h : f_fill48 V p1 = some (r, V')) : YMv l D cI cZ a shpC y_fill48 b_fill48 4 rm_fill48 [.ref (a 48), .int p1] V V' := by
  refine YMv_of (by decide) (Nat.le_of_ble_eq_true rfl) ?_
  intro C hl hDD hcI hcZ ha hC hE
  subst hl hDD hcI hcZ ha
  show Y C shpC 4 0 [(0, .ref (C.a 48)), (1, .int p1)] [] V
  rw [f_fill48] at h
  refine Y_iconst (pc := 0) hC d_fill48_0 ki_0 ?_
  refine Y_istore_n (pc := 1) hC (L' := [(2, .int 0), (0, .ref (C.a 48)), (1, .int p1)]) d_fill48_1 rfl (by decide) rfl ?_
  refine Y_aload_n (pc := 2) hC d_fill48_2 rfl 1 rfl ?_
  refine Y_alen (pc := 3) hC sc_48 rfl d_fill48_3 ?_
  refine Y_istore_n (pc := 4) hC (L' := [(3, .int (nI 96)), (2, .int 0), (0, .ref (C.a 48)), (1, .int p1)]) d_fill48_4 rfl (by decide) rfl ?_
  refine Y_sub (pc := 5) [2, 3, 1, 0] rfl ?_
  refine ylp_fill48_5 hC hE (fun V2 h => ?_) FU _ _ h
  exact Y_vret (pc := 20) hC hE d_fill48_20 h
set_option maxHeartbeats 4000000 in
set_option maxRecDepth 100000 in
theorem ylp_fill49_5 {C : YC} {r : Int32} {V' : Sto} {x1 : Int32} {x3 : Int32} {k20 : Sto → RT} (hC : YF C "java/util/Arrays" b_fill49 4 rm_fill49) (hE : YEv C shpC V') (hk20 : ∀ (V1 : Sto), k20 V1 = some (r, V') → Y C shpC 4 20 [] [] V1) : ∀ (n : Nat) (x2 : Int32) (V : Sto), lp_fill49_5 x1 x3 k20 n x2 V = some (r, V') → Y C shpC 4 5 [(0, .ref (C.a 49)), (1, .int x1), (2, .int x2), (3, .int x3)] [] V := by
  intro n
  induction n with
  | zero =>
    intro x2 V h
    rw [lp_fill49_5] at h
    cases h
  | succ n ih =>
    intro x2 V h
    rw [lp_fill49_5] at h
    refine Y_iload_n (pc := 5) hC d_fill49_5 rfl 2 rfl ?_
    refine Y_iload_n (pc := 6) hC d_fill49_6 rfl 3 rfl ?_
    refine Y_icmp_ge (pc := 7) hC 20 d_fill49_7 rfl (fun cc_7 => ?_) (fun cc_7 => ?_)
    · have h := ifp cc_7 h
      refine Y_sub (pc := 20) [] rfl ?_
      exact hk20 _ h
    · have h := ifn cc_7 h
      refine Y_aload_n (pc := 10) hC d_fill49_10 rfl 0 rfl ?_
      refine Y_iload_n (pc := 11) hC d_fill49_11 rfl 2 rfl ?_
      refine Y_iload_n (pc := 12) hC d_fill49_12 rfl 1 rfl ?_
      obtain ⟨hi, h⟩ := ck_some h
      obtain ⟨V1, hV1, h⟩ := nm_some h
      refine Y_iast (pc := 13) hC sc_49 (by decide) rfl hi rfl hV1 d_fill49_13 ?_
      refine Y_iinc (pc := 14) hC (v := x2 + 1) (L' := [(2, .int (x2 + 1)), (0, .ref (C.a 49)), (1, .int x1), (3, .int x3)]) d_fill49_14 2 rfl rfl (by decide) rfl ?_
      refine Y_goto (pc := 17) hC 5 d_fill49_17 rfl ?_
      refine Y_sub (pc := 5) [1, 2, 0, 3] rfl ?_
      exact ih _ _ h
set_option maxHeartbeats 4000000 in
set_option maxRecDepth 100000 in
theorem c_fill49 (l : Launch) (D : va_G) (cI cZ : ClassId) (a : Nat → Nat) {V : Sto} {p1 : Int32} {r : Int32} {V' : Sto} (h : f_fill49 V p1 = some (r, V')) : YMv l D cI cZ a shpC y_fill49 b_fill49 4 rm_fill49 [.ref (a 49), .int p1] V V' := by
  refine YMv_of (by decide) (Nat.le_of_ble_eq_true rfl) ?_
  intro C hl hDD hcI hcZ ha hC hE
  subst hl hDD hcI hcZ ha
  show Y C shpC 4 0 [(0, .ref (C.a 49)), (1, .int p1)] [] V
  rw [f_fill49] at h
  refine Y_iconst (pc := 0) hC d_fill49_0 ki_0 ?_
  refine Y_istore_n (pc := 1) hC (L' := [(2, .int 0), (0, .ref (C.a 49)), (1, .int p1)]) d_fill49_1 rfl (by decide) rfl ?_
  refine Y_aload_n (pc := 2) hC d_fill49_2 rfl 1 rfl ?_
  refine Y_alen (pc := 3) hC sc_49 rfl d_fill49_3 ?_
  refine Y_istore_n (pc := 4) hC (L' := [(3, .int (nI 200)), (2, .int 0), (0, .ref (C.a 49)), (1, .int p1)]) d_fill49_4 rfl (by decide) rfl ?_
  refine Y_sub (pc := 5) [2, 3, 1, 0] rfl ?_
  refine ylp_fill49_5 hC hE (fun V2 h => ?_) FU _ _ h
  exact Y_vret (pc := 20) hC hE d_fill49_20 h
set_option maxHeartbeats 4000000 in
set_option maxRecDepth 100000 in
theorem c_La_begin (l : Launch) (D : va_G) (cI cZ : ClassId) (a : Nat → Nat) {V : Sto} {p1 : Int32} {r : Int32} {V' : Sto} (h : f_La_begin V p1 = some (r, V')) : YMv l D cI cZ a shpC y_La_begin b_La_begin 2 rm_La_begin [.ref (a 9), .int p1] V V' := by
  refine YMv_of (by decide) (Nat.le_of_ble_eq_true rfl) ?_
  intro C hl hDD hcI hcZ ha hC hE
  subst hl hDD hcI hcZ ha
  show Y C shpC 2 0 [(0, .ref (C.a 9)), (1, .int p1)] [] V
  rw [f_La_begin] at h
  refine Y_aload_n (pc := 0) hC d_La_begin_0 rfl 0 rfl ?_
  refine Y_iload_n (pc := 1) hC d_La_begin_1 rfl 1 rfl ?_
  obtain ⟨V1, hV1, h⟩ := nm_some h
  refine Y_put (pc := 2) hC sc_9 fl_La_34 rfl (by decide) fp_La ft_La_4 rfl rfl hV1 d_La_begin_2 ?_
  refine Y_aload_n (pc := 5) hC d_La_begin_5 rfl 0 rfl ?_
  refine Y_iconst (pc := 6) hC d_La_begin_6 ki_0 ?_
  obtain ⟨V2, hV2, h⟩ := nm_some h
  refine Y_put (pc := 7) hC sc_9 fl_La_38 rfl (by decide) fp_La ft_La_6 rfl rfl hV2 d_La_begin_7 ?_
  refine Y_aload_n (pc := 10) hC d_La_begin_10 rfl 0 rfl ?_
  refine Y_getR (pc := 11) hC sc_9 fl_La_9 rfl d_La_begin_11 ?_
  refine Y_iconst (pc := 14) hC d_La_begin_14 ki_m1 ?_
  obtain ⟨r1, V3, hc_r1, h⟩ := cl_some h
  refine Y_callSv (pc := 15) hC (c_fill48 C.l C.D C.cI C.cZ C.a hc_r1) ml_La_41 ms_fill48 (by decide) (Nat.le_of_ble_eq_true rfl) rfl d_La_begin_15 ?_
  refine Y_aload_n (pc := 18) hC d_La_begin_18 rfl 0 rfl ?_
  refine Y_getR (pc := 19) hC sc_9 fl_La_15 rfl d_La_begin_19 ?_
  refine Y_iconst (pc := 22) hC d_La_begin_22 ki_m1 ?_
  obtain ⟨r2, V4, hc_r2, h⟩ := cl_some h
  refine Y_callSv (pc := 23) hC (c_fill49 C.l C.D C.cI C.cZ C.a hc_r2) ml_La_41 ms_fill49 (by decide) (Nat.le_of_ble_eq_true rfl) rfl d_La_begin_23 ?_
  exact Y_vret (pc := 26) hC hE d_La_begin_26 h
set_option maxHeartbeats 4000000 in
set_option maxRecDepth 100000 in
theorem c_Is_goalOf (l : Launch) (D : va_G) (cI cZ : ClassId) (a : Nat → Nat) {V : Sto} {p1 p2 : Int32} {r : Int32} {V' : Sto} (h : f_Is_goalOf V p1 p2 = some (r, V')) : YMi l D cI cZ a shpC y_Is_goalOf b_Is_goalOf 4 (some .int) rm_Is_goalOf [.ref (a 10), .int p1, .int p2] V r V' := by
  refine YMi_of (by decide) (Nat.le_of_ble_eq_true rfl) ?_
  intro C hl hDD hcI hcZ ha hC hE
  subst hl hDD hcI hcZ ha
  show Y C shpC 4 0 [(0, .ref (C.a 10)), (1, .int p1), (2, .int p2)] [] V
  rw [f_Is_goalOf] at h
  refine Y_aload_n (pc := 0) hC d_Is_goalOf_0 rfl 0 rfl ?_
  refine Y_getR (pc := 1) hC sc_10 fl_Is_21 rfl d_Is_goalOf_1 ?_
  refine Y_iload_n (pc := 4) hC d_Is_goalOf_4 rfl 1 rfl ?_
  obtain ⟨hi, h⟩ := ck_some h
  refine Y_iald (pc := 5) hC sc_53 rfl hi d_Is_goalOf_5 ?_
  refine Y_istore_n (pc := 6) hC (L' := [(3, .int (V 53 p1.toNatClampNeg)), (0, .ref (C.a 10)), (1, .int p1), (2, .int p2)]) d_Is_goalOf_6 rfl (by decide) rfl ?_
  refine Y_iload_n (pc := 7) hC d_Is_goalOf_7 rfl 0 rfl ?_
  refine Y_iconst (pc := 8) hC d_Is_goalOf_8 ki_m1 ?_
  refine Y_icmp_ne (pc := 9) hC 16 d_Is_goalOf_9 rfl (fun cc_9 => ?_) (fun cc_9 => ?_)
  · have h := ifn cc_9 h
    refine Y_aload_n (pc := 16) hC d_Is_goalOf_16 rfl 1 rfl ?_
    refine Y_getR (pc := 17) hC sc_10 fl_Is_40 rfl d_Is_goalOf_17 ?_
    refine Y_getI (pc := 20) hC sc_9 fl_Is_134 rfl d_Is_goalOf_20 ?_
    refine Y_iload_n (pc := 23) hC d_Is_goalOf_23 rfl 0 rfl ?_
    refine Y_bipush (pc := 24) hC d_Is_goalOf_24 kb_8 ?_
    refine Y_imul (pc := 26) hC d_Is_goalOf_26 ?_
    refine Y_iadd (pc := 27) hC d_Is_goalOf_27 ?_
    exact Y_iret (pc := 28) hC hE d_Is_goalOf_28 h
  · have h := ifp cc_9 h
    refine Y_iload_n (pc := 12) hC d_Is_goalOf_12 rfl 3 rfl ?_
    refine Y_goto (pc := 13) hC 28 d_Is_goalOf_13 rfl ?_
    exact Y_iret (pc := 28) hC hE d_Is_goalOf_28 h
set_option maxHeartbeats 4000000 in
set_option maxRecDepth 100000 in
theorem c_Me_isMended (l : Launch) (D : va_G) (cI cZ : ClassId) (a : Nat → Nat) {V : Sto} {p1 p2 : Int32} {r : Int32} {V' : Sto} (h : f_Me_isMended V p1 p2 = some (r, V')) : YMi l D cI cZ a shpC y_Me_isMended b_Me_isMended 3 (some .boolean) rm_Me_isMended [.ref (a 11), .int p1, .int p2] V r V' := by
  refine YMi_of (by decide) (Nat.le_of_ble_eq_true rfl) ?_
  intro C hl hDD hcI hcZ ha hC hE
  subst hl hDD hcI hcZ ha
  show Y C shpC 3 0 [(0, .ref (C.a 11)), (1, .int p1), (2, .int p2)] [] V
  rw [f_Me_isMended] at h
  refine Y_aload_n (pc := 0) hC d_Me_isMended_0 rfl 0 rfl ?_
  refine Y_getR (pc := 1) hC sc_11 fl_Me_15 rfl d_Me_isMended_1 ?_
  refine Y_getR (pc := 4) hC sc_4 fl_Me_54 rfl d_Me_isMended_4 ?_
  refine Y_iload_n (pc := 7) hC d_Me_isMended_7 rfl 1 rfl ?_
  obtain ⟨hi, h⟩ := ck_some h
  refine Y_iald (pc := 8) hC sc_29 rfl hi d_Me_isMended_8 ?_
  refine Y_iload_n (pc := 9) hC d_Me_isMended_9 rfl 2 rfl ?_
  refine Y_icmp_ne (pc := 10) hC 36 d_Me_isMended_10 rfl (fun cc_10 => ?_) (fun cc_10 => ?_)
  · have h := ifn cc_10 h
    refine Y_iconst (pc := 36) hC d_Me_isMended_36 ki_0 ?_
    exact Y_zret (pc := 37) hC hE d_Me_isMended_37 rfl h
  · have h := ifp cc_10 h
    refine Y_aload_n (pc := 13) hC d_Me_isMended_13 rfl 0 rfl ?_
    refine Y_getR (pc := 14) hC sc_11 fl_Me_19 rfl d_Me_isMended_14 ?_
    refine Y_aload_n (pc := 17) hC d_Me_isMended_17 rfl 0 rfl ?_
    refine Y_getR (pc := 18) hC sc_11 fl_Me_15 rfl d_Me_isMended_18 ?_
    refine Y_getR (pc := 21) hC sc_4 fl_Me_57 rfl d_Me_isMended_21 ?_
    refine Y_iload_n (pc := 24) hC d_Me_isMended_24 rfl 1 rfl ?_
    obtain ⟨hi, h⟩ := ck_some h
    refine Y_iald (pc := 25) hC sc_27 rfl hi d_Me_isMended_25 ?_
    obtain ⟨r1, V1, hc_r1, h⟩ := cl_some h
    refine Y_callV (pc := 26) hC (c_La_isStanding C.l C.D C.cI C.cZ C.a hc_r1) sc_9 cls_La ml_Me_60 mv_La_isStanding (by decide) (Nat.le_of_ble_eq_true rfl) rfl d_Me_isMended_26 ?_
    refine Y_if_eq (pc := 29) hC 36 d_Me_isMended_29 rfl (fun cc_29 => ?_) (fun cc_29 => ?_)
    · have h := ifp cc_29 h
      refine Y_iconst (pc := 36) hC d_Me_isMended_36 ki_0 ?_
      exact Y_zret (pc := 37) hC hE d_Me_isMended_37 rfl h
    · have h := ifn cc_29 h
      refine Y_iconst (pc := 32) hC d_Me_isMended_32 ki_1 ?_
      refine Y_goto (pc := 33) hC 37 d_Me_isMended_33 rfl ?_
      exact Y_zret (pc := 37) hC hE d_Me_isMended_37 rfl h
set_option maxHeartbeats 4000000 in
set_option maxRecDepth 100000 in
theorem ylp_Me_firstFar_2 {C : YC} {r : Int32} {V' : Sto} {k59 : Int32 → Sto → RT} {k67 : Sto → RT} (hC : YF C R_Me b_Me_firstFar 3 rm_Me_firstFar) (hE : YEi C .int shpC r V') (hk59 : ∀ (y2 : Int32) (V1 : Sto), k59 y2 V1 = some (r, V') → Y C shpC 3 59 [(2, .int y2)] [] V1) (hk67 : ∀ (V1 : Sto), k67 V1 = some (r, V') → Y C shpC 3 67 [] [] V1) : ∀ (n : Nat) (x1 : Int32) (V : Sto), lp_Me_firstFar_2 k59 k67 n x1 V = some (r, V') → Y C shpC 3 2 [(0, .ref (C.a 11)), (1, .int x1)] [] V := by
  intro n
  induction n with
  | zero =>
    intro x1 V h
    rw [lp_Me_firstFar_2] at h
    cases h
  | succ n ih =>
    intro x1 V h
    rw [lp_Me_firstFar_2] at h
    refine Y_iload_n (pc := 2) hC d_Me_firstFar_2 rfl 1 rfl ?_
    refine Y_aload_n (pc := 3) hC d_Me_firstFar_3 rfl 0 rfl ?_
    refine Y_getR (pc := 4) hC sc_11 fl_Me_15 rfl d_Me_firstFar_4 ?_
    refine Y_getI (pc := 7) hC sc_4 fl_Me_27 rfl d_Me_firstFar_7 ?_
    refine Y_icmp_ge (pc := 10) hC 67 d_Me_firstFar_10 rfl (fun cc_10 => ?_) (fun cc_10 => ?_)
    · have h := ifp cc_10 h
      refine Y_sub (pc := 67) [] rfl ?_
      exact hk67 _ h
    · have h := ifn cc_10 h
      refine Y_aload_n (pc := 13) hC d_Me_firstFar_13 rfl 0 rfl ?_
      refine Y_getR (pc := 14) hC sc_11 fl_Me_15 rfl d_Me_firstFar_14 ?_
      refine Y_getR (pc := 17) hC sc_4 fl_Me_33 rfl d_Me_firstFar_17 ?_
      refine Y_iload_n (pc := 20) hC d_Me_firstFar_20 rfl 1 rfl ?_
      obtain ⟨hi, h⟩ := ck_some h
      refine Y_iald (pc := 21) hC sc_32 rfl hi d_Me_firstFar_21 ?_
      refine Y_istore_n (pc := 22) hC (L' := [(2, .int (V 32 x1.toNatClampNeg)), (0, .ref (C.a 11)), (1, .int x1)]) d_Me_firstFar_22 rfl (by decide) rfl ?_
      refine Y_aload_n (pc := 23) hC d_Me_firstFar_23 rfl 1 rfl ?_
      refine Y_iload_n (pc := 24) hC d_Me_firstFar_24 rfl 0 rfl ?_
      refine Y_iconst (pc := 25) hC d_Me_firstFar_25 ki_4 ?_
      obtain ⟨r1, V1, hc_r1, h⟩ := cl_some h
      refine Y_callV (pc := 26) hC (c_Me_isMended C.l C.D C.cI C.cZ C.a hc_r1) sc_11 cls_Me ml_Me_37 mv_Me_isMended (by decide) (Nat.le_of_ble_eq_true rfl) rfl d_Me_firstFar_26 ?_
      refine Y_if_eq (pc := 29) hC 61 d_Me_firstFar_29 rfl (fun cc_29 => ?_) (fun cc_29 => ?_)
      · have h := ifp cc_29 h
        refine Y_iinc (pc := 61) hC (v := x1 + 1) (L' := [(1, .int (x1 + 1)), (2, .int (V 32 x1.toNatClampNeg)), (0, .ref (C.a 11))]) d_Me_firstFar_61 2 rfl rfl (by decide) rfl ?_
        refine Y_goto (pc := 64) hC 2 d_Me_firstFar_64 rfl ?_
        refine Y_sub (pc := 2) [2, 0] rfl ?_
        exact ih _ _ h
      · have h := ifn cc_29 h
        refine Y_aload_n (pc := 32) hC d_Me_firstFar_32 rfl 1 rfl ?_
        refine Y_getR (pc := 33) hC sc_11 fl_Me_23 rfl d_Me_firstFar_33 ?_
        refine Y_iload_n (pc := 36) hC d_Me_firstFar_36 rfl 0 rfl ?_
        refine Y_aload_n (pc := 37) hC d_Me_firstFar_37 rfl 1 rfl ?_
        refine Y_getR (pc := 38) hC sc_11 fl_Me_23 rfl d_Me_firstFar_38 ?_
        refine Y_iload_n (pc := 41) hC d_Me_firstFar_41 rfl 0 rfl ?_
        refine Y_aload_n (pc := 42) hC d_Me_firstFar_42 rfl 1 rfl ?_
        refine Y_getR (pc := 43) hC sc_11 fl_Me_23 rfl d_Me_firstFar_43 ?_
        refine Y_iload_n (pc := 46) hC d_Me_firstFar_46 rfl 0 rfl ?_
        obtain ⟨r2, V2, hc_r2, h⟩ := cl_some h
        refine Y_callV (pc := 47) hC (c_Is_targetOf C.l C.D C.cI C.cZ C.a hc_r2) sc_10 cls_Is ml_Me_41 mv_Is_targetOf (by decide) (Nat.le_of_ble_eq_true rfl) rfl d_Me_firstFar_47 ?_
        obtain ⟨r3, V3, hc_r3, h⟩ := cl_some h
        refine Y_callV (pc := 50) hC (c_Is_goalOf C.l C.D C.cI C.cZ C.a hc_r3) sc_10 cls_Is ml_Me_47 mv_Is_goalOf (by decide) (Nat.le_of_ble_eq_true rfl) rfl d_Me_firstFar_50 ?_
        obtain ⟨r4, V4, hc_r4, h⟩ := cl_some h
        refine Y_callV (pc := 53) hC (c_Is_isNear C.l C.D C.cI C.cZ C.a hc_r4) sc_10 cls_Is ml_Me_51 mv_Is_isNear (by decide) (Nat.le_of_ble_eq_true rfl) rfl d_Me_firstFar_53 ?_
        refine Y_if_ne (pc := 56) hC 61 d_Me_firstFar_56 rfl (fun cc_56 => ?_) (fun cc_56 => ?_)
        · have h := ifn cc_56 h
          refine Y_iinc (pc := 61) hC (v := x1 + 1) (L' := [(1, .int (x1 + 1)), (2, .int (V 32 x1.toNatClampNeg)), (0, .ref (C.a 11))]) d_Me_firstFar_61 2 rfl rfl (by decide) rfl ?_
          refine Y_goto (pc := 64) hC 2 d_Me_firstFar_64 rfl ?_
          refine Y_sub (pc := 2) [2, 0] rfl ?_
          exact ih _ _ h
        · have h := ifp cc_56 h
          refine Y_sub (pc := 59) [0] rfl ?_
          exact hk59 _ _ h
set_option maxHeartbeats 4000000 in
set_option maxRecDepth 100000 in
theorem c_Me_firstFar (l : Launch) (D : va_G) (cI cZ : ClassId) (a : Nat → Nat) {V : Sto} {r : Int32} {V' : Sto} (h : f_Me_firstFar V = some (r, V')) : YMi l D cI cZ a shpC y_Me_firstFar b_Me_firstFar 3 (some .int) rm_Me_firstFar [.ref (a 11)] V r V' := by
  refine YMi_of (by decide) (Nat.le_of_ble_eq_true rfl) ?_
  intro C hl hDD hcI hcZ ha hC hE
  subst hl hDD hcI hcZ ha
  show Y C shpC 3 0 [(0, .ref (C.a 11))] [] V
  rw [f_Me_firstFar] at h
  refine Y_iconst (pc := 0) hC d_Me_firstFar_0 ki_0 ?_
  refine Y_istore_n (pc := 1) hC (L' := [(1, .int 0), (0, .ref (C.a 11))]) d_Me_firstFar_1 rfl (by decide) rfl ?_
  refine Y_sub (pc := 2) [1, 0] rfl ?_
  refine ylp_Me_firstFar_2 hC hE (fun y1 V5 h => ?_) (fun V6 h => ?_) FU _ _ h
  · have h := h
    refine Y_iload_n (pc := 59) hC d_Me_firstFar_59 rfl 0 rfl ?_
    exact Y_iret (pc := 60) hC hE d_Me_firstFar_60 h
  · have h := h
    refine Y_iconst (pc := 67) hC d_Me_firstFar_67 ki_m1 ?_
    exact Y_iret (pc := 68) hC hE d_Me_firstFar_68 h
end
section
def lp_Me_firstMisplacedJump_2 (k45 : Int32 → Sto → RT) (k53 : Sto → RT) : Nat → Int32 → Sto → RT
  | 0, _, _ => none
  | n + 1, x1, V =>
    if (V 4 0) ≤ x1 then
      k53 V
    else
    ck (ib x1 600) <|
    cl (f_Me_isMended V (V 32 x1.toNatClampNeg) 5) fun r1 V1 =>
    if r1 = 0 then
      lp_Me_firstMisplacedJump_2 k45 k53 n (x1 + 1) V1
    else
    cl (f_Is_targetOf V1 (V 32 x1.toNatClampNeg)) fun r2 V2 =>
    if (r2 - r2 / 4 * 4) = 0 then
      lp_Me_firstMisplacedJump_2 k45 k53 n (x1 + 1) V2
    else
    k45 (V 32 x1.toNatClampNeg) V2
def f_Me_firstMisplacedJump (V : Sto) : RT :=
  lp_Me_firstMisplacedJump_2
    (fun y1 V3 =>
      some (y1, V3))
    (fun V4 =>
      some ((-1), V4)) FU 0 V
def f_Ly_linksPlaces (V : Sto) (p1 : Int32) : RT :=
  cl (f_Fo_settle V (V 0 12)) fun r1 V1 =>
  cl (f_La_begin V1 p1) fun r2 V2 =>
  cl (f_Is_settle V2) fun r3 V3 =>
  if r3 = 0 then
    cl (f_Ly_fails V3 4 (-1) (-1)) fun r8 V8 =>
    ck (bb r8) <| some (r8, V8)
  else
  cl (f_Me_firstFar V3) fun r4 V4 =>
  if r4 = (-1) then
    cl (f_Me_firstMisplacedJump V4) fun r5 V5 =>
    if r5 = (-1) then
      some (1, V5)
    else
    cl (f_Ly_fails V5 5 (-1) r5) fun r6 V6 =>
    ck (bb r6) <| some (r6, V6)
  else
  cl (f_Ly_fails V4 3 (-1) r4) fun r7 V7 =>
  ck (bb r7) <| some (r7, V7)
def f_Ly_isName (V : Sto) (p0 : Int32) : RT :=
  if p0 < 0 then
    some (0, V)
  else
  if 200 ≤ p0 then
    some (0, V)
  else
  some (1, V)
def f_Ly_isSize (V : Sto) (p0 p1 : Int32) : RT :=
  if p0 < p1 then
    some (0, V)
  else
  if 8192 < p0 then
    some (0, V)
  else
  if (p0 - p0 / 4 * 4) = 0 then
    some (1, V)
  else
  some (0, V)
def f_bitCount (V : Sto) (p0 : Int32) : RT :=
  some ((((((((p0 - (((p0.toUInt32 >>> (Int32.toUInt32 1 &&& Int32.toUInt32 31)).toInt32) &&& 1431655765)) &&& 858993459) + ((((p0 - (((p0.toUInt32 >>> (Int32.toUInt32 1 &&& Int32.toUInt32 31)).toInt32) &&& 1431655765)).toUInt32 >>> (Int32.toUInt32 2 &&& Int32.toUInt32 31)).toInt32) &&& 858993459)) + (((((p0 - (((p0.toUInt32 >>> (Int32.toUInt32 1 &&& Int32.toUInt32 31)).toInt32) &&& 1431655765)) &&& 858993459) + ((((p0 - (((p0.toUInt32 >>> (Int32.toUInt32 1 &&& Int32.toUInt32 31)).toInt32) &&& 1431655765)).toUInt32 >>> (Int32.toUInt32 2 &&& Int32.toUInt32 31)).toInt32) &&& 858993459)).toUInt32 >>> (Int32.toUInt32 4 &&& Int32.toUInt32 31)).toInt32)) &&& 252645135) + (((((((p0 - (((p0.toUInt32 >>> (Int32.toUInt32 1 &&& Int32.toUInt32 31)).toInt32) &&& 1431655765)) &&& 858993459) + ((((p0 - (((p0.toUInt32 >>> (Int32.toUInt32 1 &&& Int32.toUInt32 31)).toInt32) &&& 1431655765)).toUInt32 >>> (Int32.toUInt32 2 &&& Int32.toUInt32 31)).toInt32) &&& 858993459)) + (((((p0 - (((p0.toUInt32 >>> (Int32.toUInt32 1 &&& Int32.toUInt32 31)).toInt32) &&& 1431655765)) &&& 858993459) + ((((p0 - (((p0.toUInt32 >>> (Int32.toUInt32 1 &&& Int32.toUInt32 31)).toInt32) &&& 1431655765)).toUInt32 >>> (Int32.toUInt32 2 &&& Int32.toUInt32 31)).toInt32) &&& 858993459)).toUInt32 >>> (Int32.toUInt32 4 &&& Int32.toUInt32 31)).toInt32)) &&& 252645135).toUInt32 >>> (Int32.toUInt32 8 &&& Int32.toUInt32 31)).toInt32)) + ((((((((p0 - (((p0.toUInt32 >>> (Int32.toUInt32 1 &&& Int32.toUInt32 31)).toInt32) &&& 1431655765)) &&& 858993459) + ((((p0 - (((p0.toUInt32 >>> (Int32.toUInt32 1 &&& Int32.toUInt32 31)).toInt32) &&& 1431655765)).toUInt32 >>> (Int32.toUInt32 2 &&& Int32.toUInt32 31)).toInt32) &&& 858993459)) + (((((p0 - (((p0.toUInt32 >>> (Int32.toUInt32 1 &&& Int32.toUInt32 31)).toInt32) &&& 1431655765)) &&& 858993459) + ((((p0 - (((p0.toUInt32 >>> (Int32.toUInt32 1 &&& Int32.toUInt32 31)).toInt32) &&& 1431655765)).toUInt32 >>> (Int32.toUInt32 2 &&& Int32.toUInt32 31)).toInt32) &&& 858993459)).toUInt32 >>> (Int32.toUInt32 4 &&& Int32.toUInt32 31)).toInt32)) &&& 252645135) + (((((((p0 - (((p0.toUInt32 >>> (Int32.toUInt32 1 &&& Int32.toUInt32 31)).toInt32) &&& 1431655765)) &&& 858993459) + ((((p0 - (((p0.toUInt32 >>> (Int32.toUInt32 1 &&& Int32.toUInt32 31)).toInt32) &&& 1431655765)).toUInt32 >>> (Int32.toUInt32 2 &&& Int32.toUInt32 31)).toInt32) &&& 858993459)) + (((((p0 - (((p0.toUInt32 >>> (Int32.toUInt32 1 &&& Int32.toUInt32 31)).toInt32) &&& 1431655765)) &&& 858993459) + ((((p0 - (((p0.toUInt32 >>> (Int32.toUInt32 1 &&& Int32.toUInt32 31)).toInt32) &&& 1431655765)).toUInt32 >>> (Int32.toUInt32 2 &&& Int32.toUInt32 31)).toInt32) &&& 858993459)).toUInt32 >>> (Int32.toUInt32 4 &&& Int32.toUInt32 31)).toInt32)) &&& 252645135).toUInt32 >>> (Int32.toUInt32 8 &&& Int32.toUInt32 31)).toInt32)).toUInt32 >>> (Int32.toUInt32 16 &&& Int32.toUInt32 31)).toInt32)) &&& 63, V)
def f_Ly_isAlignment (V : Sto) (p0 : Int32) : RT :=
  if p0 < 4 then
    some (0, V)
  else
  if 4096 < p0 then
    some (0, V)
  else
  cl (f_bitCount V p0) fun r1 V1 =>
  if r1 = 1 then
    some (1, V1)
  else
  some (0, V1)
def f_Ly_isOther (V : Sto) (p0 p1 p2 : Int32) : RT :=
  if p0 = 0 then
    if p2 = 1 then
      some (1, V)
    else
    if p2 = 2 then
      some (1, V)
    else
    some (0, V)
  else
  if p0 = 1 then
    if p2 < 0 then
      some (0, V)
    else
    if 2 < p2 then
      some (0, V)
    else
    some (1, V)
  else
  if p0 = 2 then
    if p2 = 3 then
      cl (f_Ly_isSize V p1 4) fun r1 V1 =>
      if r1 = 0 then
        some (0, V1)
      else
      some (1, V1)
    else
    some (0, V)
  else
  some (0, V)
def f_Ly_formOfOther (V : Sto) (p0 : Int32) : RT :=
  if p0 = 1 then
    some (2, V)
  else
  if p0 = 2 then
    some (3, V)
  else
  some (0, V)
def f_Un_has (V : Sto) (p1 : Int32) : RT :=
  if p1 < 0 then
    some (0, V)
  else
  if (V 1 0) ≤ p1 then
    some (0, V)
  else
  some (1, V)
def f_Un_add (V : Sto) (p1 : Int32) : RT :=
  ck (ib (V 1 0) 24) <| nm (sw V 12 (V 1 0).toNatClampNeg p1) fun V1 =>
  ck (ib (V1 1 0) 24) <| nm (sw V1 13 (V1 1 0).toNatClampNeg 0) fun V2 =>
  nm (sw V2 1 0 ((V2 1 0) + 1)) fun V3 =>
  some (V2 1 0, V3)
def lp_Un_countIn_4 (k30 : Int32 → Sto → RT) : Nat → Int32 → Int32 → Sto → RT
  | 0, _, _, _ => none
  | n + 1, x1, x2, V =>
    if (V 1 0) ≤ x2 then
      k30 x1 V
    else
    ck (ib x2 24) <|
    if (V 13 x2.toNatClampNeg) = 0 then
      lp_Un_countIn_4 k30 n x1 (x2 + 1) V
    else
    lp_Un_countIn_4 k30 n (x1 + 1) (x2 + 1) V
def f_Un_countIn (V : Sto) : RT :=
  lp_Un_countIn_4
    (fun y1 V1 =>
      some (y1, V1)) FU 0 0 V
def f_Se_has (V : Sto) (p1 : Int32) : RT :=
  if p1 < 0 then
    some (0, V)
  else
  if (V 2 0) ≤ p1 then
    some (0, V)
  else
  some (1, V)
def f_Se_hasWord (V : Sto) (p1 p2 : Int32) : RT :=
  cl (f_Se_has V p1) fun r1 V1 =>
  if r1 = 0 then
    some (0, V1)
  else
  ck (ib p1 96) <|
  if (V1 16 p1.toNatClampNeg) = 2 then
    some (0, V1)
  else
  if p2 < 0 then
    some (0, V1)
  else
  ck (ib p1 96) <|
  if (V1 17 p1.toNatClampNeg) ≤ p2 then
    some (0, V1)
  else
  if (p2 - p2 / 4 * 4) = 0 then
    some (1, V1)
  else
  some (0, V1)
def f_Se_roomier (V : Sto) (p0 : Int32) : RT :=
  some (if 100000 < (2 * p0) then 100000 else (2 * p0), V)
def f_Se_write (V : Sto) (p1 p2 p3 : Int32) : RT :=
  ck (ib p1 96) <|
  ck (ib ((V 19 p1.toNatClampNeg) + (p2 / 4)) ((V 1000 14).toNatClampNeg)) <| nm (sw V 14 ((V 19 p1.toNatClampNeg) + (p2 / 4)).toNatClampNeg p3) fun V1 =>
  some (0, V1)
def f_Sy_has (V : Sto) (p1 : Int32) : RT :=
  if p1 < 0 then
    some (0, V)
  else
  if (V 3 0) ≤ p1 then
    some (0, V)
  else
  some (1, V)
def lp_Sy_clashes_9 (x1 : Int32) (x2 : Int32) (k50 : Sto → RT) (k58 : Sto → RT) : Nat → Int32 → Sto → RT
  | 0, _, _ => none
  | n + 1, x4, V =>
    if (V 3 0) ≤ x4 then
      k58 V
    else
    ck (ib x4 400) <|
    if (V 21 x4.toNatClampNeg) = x1 then
      ck (ib x4 400) <|
      if (V 22 x4.toNatClampNeg) = x2 then
        ck (ib x4 400) <|
        if (V 23 x4.toNatClampNeg) = 0 then
          lp_Sy_clashes_9 x1 x2 k50 k58 n (x4 + 1) V
        else
        k50 V
      else
      lp_Sy_clashes_9 x1 x2 k50 k58 n (x4 + 1) V
    else
    lp_Sy_clashes_9 x1 x2 k50 k58 n (x4 + 1) V
def f_Sy_clashes (V : Sto) (p1 p2 p3 : Int32) : RT :=
  if p3 = 0 then
    some (0, V)
  else
  lp_Sy_clashes_9 p1 p2
    (fun V1 =>
      some (1, V1))
    (fun V2 =>
      some (0, V2)) FU 0 V
def f_Sy_add (V : Sto) (p1 p2 p3 : Int32) : RT :=
  ck (ib (V 3 0) 400) <| nm (sw V 21 (V 3 0).toNatClampNeg p1) fun V1 =>
  ck (ib (V1 3 0) 400) <| nm (sw V1 22 (V1 3 0).toNatClampNeg p2) fun V2 =>
  ck (ib (V2 3 0) 400) <| nm (sw V2 23 (V2 3 0).toNatClampNeg p3) fun V3 =>
  nm (sw V3 3 0 ((V3 3 0) + 1)) fun V4 =>
  some (V3 3 0, V4)
def f_Sy_define (V : Sto) (p1 p2 p3 p4 : Int32) : RT :=
  ck (ib p1 400) <| nm (sw V 24 p1.toNatClampNeg p2) fun V1 =>
  ck (ib p1 400) <| nm (sw V1 25 p1.toNatClampNeg p3) fun V2 =>
  ck (ib p1 400) <| nm (sw V2 26 p1.toNatClampNeg p4) fun V3 =>
  some (0, V3)
def f_Re_add (V : Sto) (p1 p2 p3 p4 p5 : Int32) : RT :=
  ck (ib (V 4 0) 600) <| nm (sw V 27 (V 4 0).toNatClampNeg p1) fun V1 =>
  ck (ib (V1 4 0) 600) <| nm (sw V1 28 (V1 4 0).toNatClampNeg p2) fun V2 =>
  ck (ib (V2 4 0) 600) <| nm (sw V2 29 (V2 4 0).toNatClampNeg p3) fun V3 =>
  ck (ib (V3 4 0) 600) <| nm (sw V3 30 (V3 4 0).toNatClampNeg p4) fun V4 =>
  ck (ib (V4 4 0) 600) <| nm (sw V4 31 (V4 4 0).toNatClampNeg p5) fun V5 =>
  nm (sw V5 4 0 ((V5 4 0) + 1)) fun V6 =>
  some (V5 4 0, V6)
def lp_Fo_countFolded_4 (k32 : Int32 → Sto → RT) : Nat → Int32 → Int32 → Sto → RT
  | 0, _, _, _ => none
  | n + 1, x1, x2, V =>
    if (V 2 0) ≤ x2 then
      k32 x1 V
    else
    cl (f_Fo_isFolded V x2) fun r1 V1 =>
    if r1 = 0 then
      lp_Fo_countFolded_4 k32 n x1 (x2 + 1) V1
    else
    lp_Fo_countFolded_4 k32 n (x1 + 1) (x2 + 1) V1
def f_Fo_countFolded (V : Sto) : RT :=
  lp_Fo_countFolded_4
    (fun y1 V2 =>
      some (y1, V2)) FU 0 0 V
end
section
theorem ki_5 : Int32.ofInt 5 = 5 := by decide
theorem fl_Ly_67 : FL R_Ly 67 0 7 := ⟨R_Ly, F_Ly, N_Ly, rfl, by decide, i_Ly, (mw 546 (by decide +kernel))⟩
theorem ml_Ly_362 : MLb R_Ly 362 y_Fo_settle b_Fo_settle 3 (none) 1 := ⟨(mw 1265 (by decide +kernel)), (mw 1262 (by decide +kernel)), (mw 91 (by decide +kernel)), by decide +kernel⟩
theorem mv_Fo_settle : MLv y_Fo_settle := ⟨(mw 1263 (by decide +kernel)), (mw 1264 (by decide +kernel))⟩
theorem fl_Ly_76 : FL R_Ly 76 0 8 := ⟨R_Ly, F_Ly, N_Ly, rfl, by decide, i_Ly, (mw 547 (by decide +kernel))⟩
theorem ml_Ly_365 : MLb R_Ly 365 y_La_begin b_La_begin 2 (none) 1 := ⟨(mw 1316 (by decide +kernel)), (mw 1313 (by decide +kernel)), (mw 92 (by decide +kernel)), by decide +kernel⟩
theorem mv_La_begin : MLv y_La_begin := ⟨(mw 1314 (by decide +kernel)), (mw 1315 (by decide +kernel))⟩
theorem fl_Ly_85 : FL R_Ly 85 0 9 := ⟨R_Ly, F_Ly, N_Ly, rfl, by decide, i_Ly, (mw 548 (by decide +kernel))⟩
theorem ml_Ly_368 : MLb R_Ly 368 y_Is_settle b_Is_settle 3 (some .boolean) 0 := ⟨(mw 1321 (by decide +kernel)), (mw 1318 (by decide +kernel)), (mw 93 (by decide +kernel)), by decide +kernel⟩
theorem mv_Is_settle : MLv y_Is_settle := ⟨(mw 1319 (by decide +kernel)), (mw 1320 (by decide +kernel))⟩
theorem fl_Ly_94 : FL R_Ly 94 0 10 := ⟨R_Ly, F_Ly, N_Ly, rfl, by decide, i_Ly, (mw 549 (by decide +kernel))⟩
theorem ml_Ly_370 : MLb R_Ly 370 y_Me_firstFar b_Me_firstFar 3 (some .int) 0 := ⟨(mw 1390 (by decide +kernel)), (mw 1387 (by decide +kernel)), (mw 94 (by decide +kernel)), by decide +kernel⟩
theorem mv_Me_firstFar : MLv y_Me_firstFar := ⟨(mw 1388 (by decide +kernel)), (mw 1389 (by decide +kernel))⟩
theorem ml_Ly_373 : MLb R_Ly 373 y_Me_firstMisplacedJump b_Me_firstMisplacedJump 3 (some .int) 0 := ⟨(mw 1405 (by decide +kernel)), (mw 1402 (by decide +kernel)), (mw 94 (by decide +kernel)), by decide +kernel⟩
theorem mv_Me_firstMisplacedJump : MLv y_Me_firstMisplacedJump := ⟨(mw 1403 (by decide +kernel)), (mw 1404 (by decide +kernel))⟩
theorem ks_8192 : (Int16.ofInt 8192).toInt32 = 8192 := by decide
theorem kc_Integer_265 : Cond.constant "java/lang/Integer" 265 1431655765 ∈ ALLW := (mw 730 (by decide +kernel))
theorem kc_Integer_266 : Cond.constant "java/lang/Integer" 266 858993459 ∈ ALLW := (mw 731 (by decide +kernel))
theorem kc_Integer_267 : Cond.constant "java/lang/Integer" 267 252645135 ∈ ALLW := (mw 732 (by decide +kernel))
theorem kb_16 : (Int8.ofInt 16).toInt32 = 16 := by decide
theorem kb_63 : (Int8.ofInt 63).toInt32 = 63 := by decide
theorem ks_4096 : (Int16.ofInt 4096).toInt32 = 4096 := by decide
theorem ml_Ly_376 : MLb R_Ly 376 y_bitCount b_bitCount 1 (some .int) 1 := ⟨(mw 729 (by decide +kernel)), (mw 727 (by decide +kernel)), (mw 101 (by decide +kernel)), by decide +kernel⟩
theorem ms_bitCount : Cond.static y_bitCount ∈ ALLW := (mw 728 (by decide +kernel))
theorem ml_Ly_136 : MLb R_Ly 136 y_Ly_isSize b_Ly_isSize 2 (some .boolean) 2 := ⟨(mw 723 (by decide +kernel)), (mw 721 (by decide +kernel)), (mw 83 (by decide +kernel)), by decide +kernel⟩
theorem ms_Ly_isSize : Cond.static y_Ly_isSize ∈ ALLW := (mw 722 (by decide +kernel))
theorem fl_Un_19 : FL R_Un 19 1 0 := ⟨R_Un, F_Un, N_Un, rfl, by decide, i_Un, (mw 129 (by decide +kernel))⟩
theorem fl_Un_9 : FL R_Un 9 1 1 := ⟨R_Un, F_Un, N_Un, rfl, by decide, i_Un, (mw 132 (by decide +kernel))⟩
theorem fl_Un_15 : FL R_Un 15 1 2 := ⟨R_Un, F_Un, N_Un, rfl, by decide, i_Un, (mw 134 (by decide +kernel))⟩
theorem ml_Se_38 : MLb R_Se 38 y_Se_has b_Se_has 2 (some .boolean) 1 := ⟨(mw 1042 (by decide +kernel)), (mw 1039 (by decide +kernel)), (mw 85 (by decide +kernel)), by decide +kernel⟩
theorem mv_Se_has : MLv y_Se_has := ⟨(mw 1040 (by decide +kernel)), (mw 1041 (by decide +kernel))⟩
theorem fl_Se_18 : FL R_Se 18 2 5 := ⟨R_Se, F_Se, N_Se, rfl, by decide, i_Se, (mw 166 (by decide +kernel))⟩
theorem fl_Se_21 : FL R_Se 21 2 6 := ⟨R_Se, F_Se, N_Se, rfl, by decide, i_Se, (mw 171 (by decide +kernel))⟩
theorem kc_Se_72 : Cond.constant R_Se 72 100000 ∈ ALLW := (mw 747 (by decide +kernel))
theorem mm_Se_73 : Cond.methodLink R_Se 73 Lib.Math.min.name ∈ ALLW := (mw 748 (by decide +kernel))
theorem fl_Sy_30 : FL R_Sy 30 3 0 := ⟨R_Sy, F_Sy, N_Sy, rfl, by decide, i_Sy, (mw 210 (by decide +kernel))⟩
theorem fl_Sy_9 : FL R_Sy 9 3 1 := ⟨R_Sy, F_Sy, N_Sy, rfl, by decide, i_Sy, (mw 214 (by decide +kernel))⟩
theorem fl_Sy_15 : FL R_Sy 15 3 2 := ⟨R_Sy, F_Sy, N_Sy, rfl, by decide, i_Sy, (mw 218 (by decide +kernel))⟩
theorem fl_Sy_24 : FL R_Sy 24 3 5 := ⟨R_Sy, F_Sy, N_Sy, rfl, by decide, i_Sy, (mw 227 (by decide +kernel))⟩
theorem fl_Sy_27 : FL R_Sy 27 3 6 := ⟨R_Sy, F_Sy, N_Sy, rfl, by decide, i_Sy, (mw 229 (by decide +kernel))⟩
theorem fl_Re_15 : FL R_Re 15 4 2 := ⟨R_Re, F_Re, N_Re, rfl, by decide, i_Re, (mw 261 (by decide +kernel))⟩
theorem fl_Re_18 : FL R_Re 18 4 3 := ⟨R_Re, F_Re, N_Re, rfl, by decide, i_Re, (mw 265 (by decide +kernel))⟩
theorem fl_Re_21 : FL R_Re 21 4 4 := ⟨R_Re, F_Re, N_Re, rfl, by decide, i_Re, (mw 269 (by decide +kernel))⟩
theorem fl_Re_24 : FL R_Re 24 4 5 := ⟨R_Re, F_Re, N_Re, rfl, by decide, i_Re, (mw 274 (by decide +kernel))⟩
theorem ml_Fo_52 : MLb R_Fo 52 y_Fo_isFolded b_Fo_isFolded 2 (some .boolean) 1 := ⟨(mw 1334 (by decide +kernel)), (mw 1558 (by decide +kernel)), (mw 91 (by decide +kernel)), by decide +kernel⟩
theorem d_Me_firstMisplacedJump_0 : decode b_Me_firstMisplacedJump 0 = .ok (.iconst 0, 1) := by decide +kernel
theorem d_Me_firstMisplacedJump_1 : decode b_Me_firstMisplacedJump 1 = .ok (.istore_n 1, 1) := by decide +kernel
theorem d_Me_firstMisplacedJump_2 : decode b_Me_firstMisplacedJump 2 = .ok (.iload_n 1, 1) := by decide +kernel
theorem d_Me_firstMisplacedJump_3 : decode b_Me_firstMisplacedJump 3 = .ok (.aload_n 0, 1) := by decide +kernel
theorem d_Me_firstMisplacedJump_4 : decode b_Me_firstMisplacedJump 4 = .ok (.getfield 15, 3) := by decide +kernel
theorem d_Me_firstMisplacedJump_7 : decode b_Me_firstMisplacedJump 7 = .ok (.getfield 27, 3) := by decide +kernel
theorem d_Me_firstMisplacedJump_10 : decode b_Me_firstMisplacedJump 10 = .ok (.if_icmp .ge 43, 3) := by decide +kernel
theorem d_Me_firstMisplacedJump_13 : decode b_Me_firstMisplacedJump 13 = .ok (.aload_n 0, 1) := by decide +kernel
theorem d_Me_firstMisplacedJump_14 : decode b_Me_firstMisplacedJump 14 = .ok (.getfield 15, 3) := by decide +kernel
theorem d_Me_firstMisplacedJump_17 : decode b_Me_firstMisplacedJump 17 = .ok (.getfield 33, 3) := by decide +kernel
theorem d_Me_firstMisplacedJump_20 : decode b_Me_firstMisplacedJump 20 = .ok (.iload_n 1, 1) := by decide +kernel
theorem d_Me_firstMisplacedJump_21 : decode b_Me_firstMisplacedJump 21 = .ok (.iaload, 1) := by decide +kernel
theorem d_Me_firstMisplacedJump_22 : decode b_Me_firstMisplacedJump 22 = .ok (.istore_n 2, 1) := by decide +kernel
theorem d_Me_firstMisplacedJump_23 : decode b_Me_firstMisplacedJump 23 = .ok (.aload_n 0, 1) := by decide +kernel
theorem d_Me_firstMisplacedJump_24 : decode b_Me_firstMisplacedJump 24 = .ok (.iload_n 2, 1) := by decide +kernel
theorem d_Me_firstMisplacedJump_25 : decode b_Me_firstMisplacedJump 25 = .ok (.iconst 5, 1) := by decide +kernel
theorem d_Me_firstMisplacedJump_26 : decode b_Me_firstMisplacedJump 26 = .ok (.invokevirtual 37, 3) := by decide +kernel
theorem d_Me_firstMisplacedJump_29 : decode b_Me_firstMisplacedJump 29 = .ok (.ifCond .eq 18, 3) := by decide +kernel
theorem d_Me_firstMisplacedJump_32 : decode b_Me_firstMisplacedJump 32 = .ok (.aload_n 0, 1) := by decide +kernel
theorem d_Me_firstMisplacedJump_33 : decode b_Me_firstMisplacedJump 33 = .ok (.getfield 23, 3) := by decide +kernel
theorem d_Me_firstMisplacedJump_36 : decode b_Me_firstMisplacedJump 36 = .ok (.iload_n 2, 1) := by decide +kernel
theorem d_Me_firstMisplacedJump_37 : decode b_Me_firstMisplacedJump 37 = .ok (.invokevirtual 41, 3) := by decide +kernel
theorem d_Me_firstMisplacedJump_40 : decode b_Me_firstMisplacedJump 40 = .ok (.iconst 4, 1) := by decide +kernel
theorem d_Me_firstMisplacedJump_41 : decode b_Me_firstMisplacedJump 41 = .ok (.irem, 1) := by decide +kernel
theorem d_Me_firstMisplacedJump_42 : decode b_Me_firstMisplacedJump 42 = .ok (.ifCond .eq 5, 3) := by decide +kernel
theorem d_Me_firstMisplacedJump_45 : decode b_Me_firstMisplacedJump 45 = .ok (.iload_n 2, 1) := by decide +kernel
theorem d_Me_firstMisplacedJump_46 : decode b_Me_firstMisplacedJump 46 = .ok (.ireturn, 1) := by decide +kernel
theorem d_Me_firstMisplacedJump_47 : decode b_Me_firstMisplacedJump 47 = .ok (.iinc 1 1, 3) := by decide +kernel
theorem d_Me_firstMisplacedJump_50 : decode b_Me_firstMisplacedJump 50 = .ok (.goto (-48), 3) := by decide +kernel
theorem d_Me_firstMisplacedJump_53 : decode b_Me_firstMisplacedJump 53 = .ok (.iconst (-1), 1) := by decide +kernel
theorem d_Me_firstMisplacedJump_54 : decode b_Me_firstMisplacedJump 54 = .ok (.ireturn, 1) := by decide +kernel
theorem d_Ly_linksPlaces_0 : decode b_Ly_linksPlaces 0 = .ok (.aload_n 0, 1) := by decide +kernel
theorem d_Ly_linksPlaces_1 : decode b_Ly_linksPlaces 1 = .ok (.getfield 67, 3) := by decide +kernel
theorem d_Ly_linksPlaces_4 : decode b_Ly_linksPlaces 4 = .ok (.aload_n 0, 1) := by decide +kernel
theorem d_Ly_linksPlaces_5 : decode b_Ly_linksPlaces 5 = .ok (.getfield 223, 3) := by decide +kernel
theorem d_Ly_linksPlaces_8 : decode b_Ly_linksPlaces 8 = .ok (.invokevirtual 362, 3) := by decide +kernel
theorem d_Ly_linksPlaces_11 : decode b_Ly_linksPlaces 11 = .ok (.aload_n 0, 1) := by decide +kernel
theorem d_Ly_linksPlaces_12 : decode b_Ly_linksPlaces 12 = .ok (.getfield 76, 3) := by decide +kernel
theorem d_Ly_linksPlaces_15 : decode b_Ly_linksPlaces 15 = .ok (.iload_n 1, 1) := by decide +kernel
theorem d_Ly_linksPlaces_16 : decode b_Ly_linksPlaces 16 = .ok (.invokevirtual 365, 3) := by decide +kernel
theorem d_Ly_linksPlaces_19 : decode b_Ly_linksPlaces 19 = .ok (.aload_n 0, 1) := by decide +kernel
theorem d_Ly_linksPlaces_20 : decode b_Ly_linksPlaces 20 = .ok (.getfield 85, 3) := by decide +kernel
theorem d_Ly_linksPlaces_23 : decode b_Ly_linksPlaces 23 = .ok (.invokevirtual 368, 3) := by decide +kernel
theorem d_Ly_linksPlaces_26 : decode b_Ly_linksPlaces 26 = .ok (.ifCond .ne 11, 3) := by decide +kernel
theorem d_Ly_linksPlaces_29 : decode b_Ly_linksPlaces 29 = .ok (.aload_n 0, 1) := by decide +kernel
theorem d_Ly_linksPlaces_30 : decode b_Ly_linksPlaces 30 = .ok (.iconst 4, 1) := by decide +kernel
theorem d_Ly_linksPlaces_31 : decode b_Ly_linksPlaces 31 = .ok (.iconst (-1), 1) := by decide +kernel
theorem d_Ly_linksPlaces_32 : decode b_Ly_linksPlaces 32 = .ok (.iconst (-1), 1) := by decide +kernel
theorem d_Ly_linksPlaces_33 : decode b_Ly_linksPlaces 33 = .ok (.invokevirtual 341, 3) := by decide +kernel
theorem d_Ly_linksPlaces_36 : decode b_Ly_linksPlaces 36 = .ok (.ireturn, 1) := by decide +kernel
theorem d_Ly_linksPlaces_37 : decode b_Ly_linksPlaces 37 = .ok (.aload_n 0, 1) := by decide +kernel
theorem d_Ly_linksPlaces_38 : decode b_Ly_linksPlaces 38 = .ok (.getfield 94, 3) := by decide +kernel
theorem d_Ly_linksPlaces_41 : decode b_Ly_linksPlaces 41 = .ok (.invokevirtual 370, 3) := by decide +kernel
theorem d_Ly_linksPlaces_44 : decode b_Ly_linksPlaces 44 = .ok (.istore_n 2, 1) := by decide +kernel
theorem d_Ly_linksPlaces_45 : decode b_Ly_linksPlaces 45 = .ok (.iload_n 2, 1) := by decide +kernel
theorem d_Ly_linksPlaces_46 : decode b_Ly_linksPlaces 46 = .ok (.iconst (-1), 1) := by decide +kernel
theorem d_Ly_linksPlaces_47 : decode b_Ly_linksPlaces 47 = .ok (.if_icmp .eq 11, 3) := by decide +kernel
theorem d_Ly_linksPlaces_50 : decode b_Ly_linksPlaces 50 = .ok (.aload_n 0, 1) := by decide +kernel
theorem d_Ly_linksPlaces_51 : decode b_Ly_linksPlaces 51 = .ok (.iconst 3, 1) := by decide +kernel
theorem d_Ly_linksPlaces_52 : decode b_Ly_linksPlaces 52 = .ok (.iconst (-1), 1) := by decide +kernel
theorem d_Ly_linksPlaces_53 : decode b_Ly_linksPlaces 53 = .ok (.iload_n 2, 1) := by decide +kernel
theorem d_Ly_linksPlaces_54 : decode b_Ly_linksPlaces 54 = .ok (.invokevirtual 341, 3) := by decide +kernel
theorem d_Ly_linksPlaces_57 : decode b_Ly_linksPlaces 57 = .ok (.ireturn, 1) := by decide +kernel
theorem d_Ly_linksPlaces_58 : decode b_Ly_linksPlaces 58 = .ok (.aload_n 0, 1) := by decide +kernel
theorem d_Ly_linksPlaces_59 : decode b_Ly_linksPlaces 59 = .ok (.getfield 94, 3) := by decide +kernel
theorem d_Ly_linksPlaces_62 : decode b_Ly_linksPlaces 62 = .ok (.invokevirtual 373, 3) := by decide +kernel
theorem d_Ly_linksPlaces_65 : decode b_Ly_linksPlaces 65 = .ok (.istore_n 3, 1) := by decide +kernel
theorem d_Ly_linksPlaces_66 : decode b_Ly_linksPlaces 66 = .ok (.iload_n 3, 1) := by decide +kernel
theorem d_Ly_linksPlaces_67 : decode b_Ly_linksPlaces 67 = .ok (.iconst (-1), 1) := by decide +kernel
theorem d_Ly_linksPlaces_68 : decode b_Ly_linksPlaces 68 = .ok (.if_icmp .eq 11, 3) := by decide +kernel
theorem d_Ly_linksPlaces_71 : decode b_Ly_linksPlaces 71 = .ok (.aload_n 0, 1) := by decide +kernel
theorem d_Ly_linksPlaces_72 : decode b_Ly_linksPlaces 72 = .ok (.iconst 5, 1) := by decide +kernel
theorem d_Ly_linksPlaces_73 : decode b_Ly_linksPlaces 73 = .ok (.iconst (-1), 1) := by decide +kernel
theorem d_Ly_linksPlaces_74 : decode b_Ly_linksPlaces 74 = .ok (.iload_n 3, 1) := by decide +kernel
theorem d_Ly_linksPlaces_75 : decode b_Ly_linksPlaces 75 = .ok (.invokevirtual 341, 3) := by decide +kernel
theorem d_Ly_linksPlaces_78 : decode b_Ly_linksPlaces 78 = .ok (.ireturn, 1) := by decide +kernel
theorem d_Ly_linksPlaces_79 : decode b_Ly_linksPlaces 79 = .ok (.iconst 1, 1) := by decide +kernel
theorem d_Ly_linksPlaces_80 : decode b_Ly_linksPlaces 80 = .ok (.ireturn, 1) := by decide +kernel
theorem d_Ly_isName_0 : decode b_Ly_isName 0 = .ok (.iload_n 0, 1) := by decide +kernel
theorem d_Ly_isName_1 : decode b_Ly_isName 1 = .ok (.ifCond .lt 14, 3) := by decide +kernel
theorem d_Ly_isName_4 : decode b_Ly_isName 4 = .ok (.iload_n 0, 1) := by decide +kernel
theorem d_Ly_isName_5 : decode b_Ly_isName 5 = .ok (.sipush 200, 3) := by decide +kernel
theorem d_Ly_isName_8 : decode b_Ly_isName 8 = .ok (.if_icmp .ge 7, 3) := by decide +kernel
theorem d_Ly_isName_11 : decode b_Ly_isName 11 = .ok (.iconst 1, 1) := by decide +kernel
theorem d_Ly_isName_12 : decode b_Ly_isName 12 = .ok (.goto 4, 3) := by decide +kernel
theorem d_Ly_isName_15 : decode b_Ly_isName 15 = .ok (.iconst 0, 1) := by decide +kernel
theorem d_Ly_isName_16 : decode b_Ly_isName 16 = .ok (.ireturn, 1) := by decide +kernel
theorem d_Ly_isSize_0 : decode b_Ly_isSize 0 = .ok (.iload_n 0, 1) := by decide +kernel
theorem d_Ly_isSize_1 : decode b_Ly_isSize 1 = .ok (.iload_n 1, 1) := by decide +kernel
theorem d_Ly_isSize_2 : decode b_Ly_isSize 2 = .ok (.if_icmp .lt 20, 3) := by decide +kernel
theorem d_Ly_isSize_5 : decode b_Ly_isSize 5 = .ok (.iload_n 0, 1) := by decide +kernel
theorem d_Ly_isSize_6 : decode b_Ly_isSize 6 = .ok (.sipush 8192, 3) := by decide +kernel
theorem d_Ly_isSize_9 : decode b_Ly_isSize 9 = .ok (.if_icmp .gt 13, 3) := by decide +kernel
theorem d_Ly_isSize_12 : decode b_Ly_isSize 12 = .ok (.iload_n 0, 1) := by decide +kernel
theorem d_Ly_isSize_13 : decode b_Ly_isSize 13 = .ok (.iconst 4, 1) := by decide +kernel
theorem d_Ly_isSize_14 : decode b_Ly_isSize 14 = .ok (.irem, 1) := by decide +kernel
theorem d_Ly_isSize_15 : decode b_Ly_isSize 15 = .ok (.ifCond .ne 7, 3) := by decide +kernel
theorem d_Ly_isSize_18 : decode b_Ly_isSize 18 = .ok (.iconst 1, 1) := by decide +kernel
theorem d_Ly_isSize_19 : decode b_Ly_isSize 19 = .ok (.goto 4, 3) := by decide +kernel
theorem d_Ly_isSize_22 : decode b_Ly_isSize 22 = .ok (.iconst 0, 1) := by decide +kernel
theorem d_Ly_isSize_23 : decode b_Ly_isSize 23 = .ok (.ireturn, 1) := by decide +kernel
theorem d_bitCount_0 : decode b_bitCount 0 = .ok (.iload_n 0, 1) := by decide +kernel
theorem d_bitCount_1 : decode b_bitCount 1 = .ok (.iload_n 0, 1) := by decide +kernel
theorem d_bitCount_2 : decode b_bitCount 2 = .ok (.iconst 1, 1) := by decide +kernel
theorem d_bitCount_3 : decode b_bitCount 3 = .ok (.iushr, 1) := by decide +kernel
theorem d_bitCount_4 : decode b_bitCount 4 = .ok (.ldc_w 265, 3) := by decide +kernel
theorem d_bitCount_7 : decode b_bitCount 7 = .ok (.iand, 1) := by decide +kernel
theorem d_bitCount_8 : decode b_bitCount 8 = .ok (.isub, 1) := by decide +kernel
theorem d_bitCount_9 : decode b_bitCount 9 = .ok (.istore_n 0, 1) := by decide +kernel
theorem d_bitCount_10 : decode b_bitCount 10 = .ok (.iload_n 0, 1) := by decide +kernel
theorem d_bitCount_11 : decode b_bitCount 11 = .ok (.ldc_w 266, 3) := by decide +kernel
theorem d_bitCount_14 : decode b_bitCount 14 = .ok (.iand, 1) := by decide +kernel
theorem d_bitCount_15 : decode b_bitCount 15 = .ok (.iload_n 0, 1) := by decide +kernel
theorem d_bitCount_16 : decode b_bitCount 16 = .ok (.iconst 2, 1) := by decide +kernel
theorem d_bitCount_17 : decode b_bitCount 17 = .ok (.iushr, 1) := by decide +kernel
theorem d_bitCount_18 : decode b_bitCount 18 = .ok (.ldc_w 266, 3) := by decide +kernel
theorem d_bitCount_21 : decode b_bitCount 21 = .ok (.iand, 1) := by decide +kernel
theorem d_bitCount_22 : decode b_bitCount 22 = .ok (.iadd, 1) := by decide +kernel
theorem d_bitCount_23 : decode b_bitCount 23 = .ok (.istore_n 0, 1) := by decide +kernel
theorem d_bitCount_24 : decode b_bitCount 24 = .ok (.iload_n 0, 1) := by decide +kernel
theorem d_bitCount_25 : decode b_bitCount 25 = .ok (.iload_n 0, 1) := by decide +kernel
theorem d_bitCount_26 : decode b_bitCount 26 = .ok (.iconst 4, 1) := by decide +kernel
theorem d_bitCount_27 : decode b_bitCount 27 = .ok (.iushr, 1) := by decide +kernel
theorem d_bitCount_28 : decode b_bitCount 28 = .ok (.iadd, 1) := by decide +kernel
theorem d_bitCount_29 : decode b_bitCount 29 = .ok (.ldc_w 267, 3) := by decide +kernel
theorem d_bitCount_32 : decode b_bitCount 32 = .ok (.iand, 1) := by decide +kernel
theorem d_bitCount_33 : decode b_bitCount 33 = .ok (.istore_n 0, 1) := by decide +kernel
theorem d_bitCount_34 : decode b_bitCount 34 = .ok (.iload_n 0, 1) := by decide +kernel
theorem d_bitCount_35 : decode b_bitCount 35 = .ok (.iload_n 0, 1) := by decide +kernel
theorem d_bitCount_36 : decode b_bitCount 36 = .ok (.bipush 8, 2) := by decide +kernel
theorem d_bitCount_38 : decode b_bitCount 38 = .ok (.iushr, 1) := by decide +kernel
theorem d_bitCount_39 : decode b_bitCount 39 = .ok (.iadd, 1) := by decide +kernel
theorem d_bitCount_40 : decode b_bitCount 40 = .ok (.istore_n 0, 1) := by decide +kernel
theorem d_bitCount_41 : decode b_bitCount 41 = .ok (.iload_n 0, 1) := by decide +kernel
theorem d_bitCount_42 : decode b_bitCount 42 = .ok (.iload_n 0, 1) := by decide +kernel
theorem d_bitCount_43 : decode b_bitCount 43 = .ok (.bipush 16, 2) := by decide +kernel
theorem d_bitCount_45 : decode b_bitCount 45 = .ok (.iushr, 1) := by decide +kernel
theorem d_bitCount_46 : decode b_bitCount 46 = .ok (.iadd, 1) := by decide +kernel
theorem d_bitCount_47 : decode b_bitCount 47 = .ok (.istore_n 0, 1) := by decide +kernel
theorem d_bitCount_48 : decode b_bitCount 48 = .ok (.iload_n 0, 1) := by decide +kernel
theorem d_bitCount_49 : decode b_bitCount 49 = .ok (.bipush 63, 2) := by decide +kernel
theorem d_bitCount_51 : decode b_bitCount 51 = .ok (.iand, 1) := by decide +kernel
theorem d_bitCount_52 : decode b_bitCount 52 = .ok (.ireturn, 1) := by decide +kernel
theorem d_Ly_isAlignment_0 : decode b_Ly_isAlignment 0 = .ok (.iload_n 0, 1) := by decide +kernel
theorem d_Ly_isAlignment_1 : decode b_Ly_isAlignment 1 = .ok (.iconst 4, 1) := by decide +kernel
theorem d_Ly_isAlignment_2 : decode b_Ly_isAlignment 2 = .ok (.if_icmp .lt 22, 3) := by decide +kernel
theorem d_Ly_isAlignment_5 : decode b_Ly_isAlignment 5 = .ok (.iload_n 0, 1) := by decide +kernel
theorem d_Ly_isAlignment_6 : decode b_Ly_isAlignment 6 = .ok (.sipush 4096, 3) := by decide +kernel
theorem d_Ly_isAlignment_9 : decode b_Ly_isAlignment 9 = .ok (.if_icmp .gt 15, 3) := by decide +kernel
theorem d_Ly_isAlignment_12 : decode b_Ly_isAlignment 12 = .ok (.iload_n 0, 1) := by decide +kernel
theorem d_Ly_isAlignment_13 : decode b_Ly_isAlignment 13 = .ok (.invokestatic 376, 3) := by decide +kernel
theorem d_Ly_isAlignment_16 : decode b_Ly_isAlignment 16 = .ok (.iconst 1, 1) := by decide +kernel
theorem d_Ly_isAlignment_17 : decode b_Ly_isAlignment 17 = .ok (.if_icmp .ne 7, 3) := by decide +kernel
theorem d_Ly_isAlignment_20 : decode b_Ly_isAlignment 20 = .ok (.iconst 1, 1) := by decide +kernel
theorem d_Ly_isAlignment_21 : decode b_Ly_isAlignment 21 = .ok (.goto 4, 3) := by decide +kernel
theorem d_Ly_isAlignment_24 : decode b_Ly_isAlignment 24 = .ok (.iconst 0, 1) := by decide +kernel
theorem d_Ly_isAlignment_25 : decode b_Ly_isAlignment 25 = .ok (.ireturn, 1) := by decide +kernel
theorem d_Ly_isOther_0 : decode b_Ly_isOther 0 = .ok (.iload_n 0, 1) := by decide +kernel
theorem d_Ly_isOther_1 : decode b_Ly_isOther 1 = .ok (.tableswitch 77 0 2 #[27, 43, 58], 27) := by decide +kernel
theorem d_Ly_isOther_28 : decode b_Ly_isOther 28 = .ok (.iload_n 2, 1) := by decide +kernel
theorem d_Ly_isOther_29 : decode b_Ly_isOther 29 = .ok (.iconst 1, 1) := by decide +kernel
theorem d_Ly_isOther_30 : decode b_Ly_isOther 30 = .ok (.if_icmp .eq 8, 3) := by decide +kernel
theorem d_Ly_isOther_33 : decode b_Ly_isOther 33 = .ok (.iload_n 2, 1) := by decide +kernel
theorem d_Ly_isOther_34 : decode b_Ly_isOther 34 = .ok (.iconst 2, 1) := by decide +kernel
theorem d_Ly_isOther_35 : decode b_Ly_isOther 35 = .ok (.if_icmp .ne 7, 3) := by decide +kernel
theorem d_Ly_isOther_38 : decode b_Ly_isOther 38 = .ok (.iconst 1, 1) := by decide +kernel
theorem d_Ly_isOther_39 : decode b_Ly_isOther 39 = .ok (.goto 4, 3) := by decide +kernel
theorem d_Ly_isOther_42 : decode b_Ly_isOther 42 = .ok (.iconst 0, 1) := by decide +kernel
theorem d_Ly_isOther_43 : decode b_Ly_isOther 43 = .ok (.ireturn, 1) := by decide +kernel
theorem d_Ly_isOther_44 : decode b_Ly_isOther 44 = .ok (.iload_n 2, 1) := by decide +kernel
theorem d_Ly_isOther_45 : decode b_Ly_isOther 45 = .ok (.ifCond .lt 12, 3) := by decide +kernel
theorem d_Ly_isOther_48 : decode b_Ly_isOther 48 = .ok (.iload_n 2, 1) := by decide +kernel
theorem d_Ly_isOther_49 : decode b_Ly_isOther 49 = .ok (.iconst 2, 1) := by decide +kernel
theorem d_Ly_isOther_50 : decode b_Ly_isOther 50 = .ok (.if_icmp .gt 7, 3) := by decide +kernel
theorem d_Ly_isOther_53 : decode b_Ly_isOther 53 = .ok (.iconst 1, 1) := by decide +kernel
theorem d_Ly_isOther_54 : decode b_Ly_isOther 54 = .ok (.goto 4, 3) := by decide +kernel
theorem d_Ly_isOther_57 : decode b_Ly_isOther 57 = .ok (.iconst 0, 1) := by decide +kernel
theorem d_Ly_isOther_58 : decode b_Ly_isOther 58 = .ok (.ireturn, 1) := by decide +kernel
theorem d_Ly_isOther_59 : decode b_Ly_isOther 59 = .ok (.iload_n 2, 1) := by decide +kernel
theorem d_Ly_isOther_60 : decode b_Ly_isOther 60 = .ok (.iconst 3, 1) := by decide +kernel
theorem d_Ly_isOther_61 : decode b_Ly_isOther 61 = .ok (.if_icmp .ne 15, 3) := by decide +kernel
theorem d_Ly_isOther_64 : decode b_Ly_isOther 64 = .ok (.iload_n 1, 1) := by decide +kernel
theorem d_Ly_isOther_65 : decode b_Ly_isOther 65 = .ok (.iconst 4, 1) := by decide +kernel
theorem d_Ly_isOther_66 : decode b_Ly_isOther 66 = .ok (.invokestatic 136, 3) := by decide +kernel
theorem d_Ly_isOther_69 : decode b_Ly_isOther 69 = .ok (.ifCond .eq 7, 3) := by decide +kernel
theorem d_Ly_isOther_72 : decode b_Ly_isOther 72 = .ok (.iconst 1, 1) := by decide +kernel
theorem d_Ly_isOther_73 : decode b_Ly_isOther 73 = .ok (.goto 4, 3) := by decide +kernel
theorem d_Ly_isOther_76 : decode b_Ly_isOther 76 = .ok (.iconst 0, 1) := by decide +kernel
theorem d_Ly_isOther_77 : decode b_Ly_isOther 77 = .ok (.ireturn, 1) := by decide +kernel
theorem d_Ly_isOther_78 : decode b_Ly_isOther 78 = .ok (.iconst 0, 1) := by decide +kernel
theorem d_Ly_isOther_79 : decode b_Ly_isOther 79 = .ok (.ireturn, 1) := by decide +kernel
theorem d_Ly_formOfOther_0 : decode b_Ly_formOfOther 0 = .ok (.iload_n 0, 1) := by decide +kernel
theorem d_Ly_formOfOther_1 : decode b_Ly_formOfOther 1 = .ok (.lookupswitch 31 #[(1, 27), (2, 29)], 27) := by decide +kernel
theorem d_Ly_formOfOther_28 : decode b_Ly_formOfOther 28 = .ok (.iconst 2, 1) := by decide +kernel
theorem d_Ly_formOfOther_29 : decode b_Ly_formOfOther 29 = .ok (.ireturn, 1) := by decide +kernel
theorem d_Ly_formOfOther_30 : decode b_Ly_formOfOther 30 = .ok (.iconst 3, 1) := by decide +kernel
theorem d_Ly_formOfOther_31 : decode b_Ly_formOfOther 31 = .ok (.ireturn, 1) := by decide +kernel
theorem d_Ly_formOfOther_32 : decode b_Ly_formOfOther 32 = .ok (.iconst 0, 1) := by decide +kernel
theorem d_Ly_formOfOther_33 : decode b_Ly_formOfOther 33 = .ok (.ireturn, 1) := by decide +kernel
theorem d_Un_has_0 : decode b_Un_has 0 = .ok (.iload_n 1, 1) := by decide +kernel
theorem d_Un_has_1 : decode b_Un_has 1 = .ok (.ifCond .lt 15, 3) := by decide +kernel
theorem d_Un_has_4 : decode b_Un_has 4 = .ok (.iload_n 1, 1) := by decide +kernel
theorem d_Un_has_5 : decode b_Un_has 5 = .ok (.aload_n 0, 1) := by decide +kernel
theorem d_Un_has_6 : decode b_Un_has 6 = .ok (.getfield 19, 3) := by decide +kernel
theorem d_Un_has_9 : decode b_Un_has 9 = .ok (.if_icmp .ge 7, 3) := by decide +kernel
theorem d_Un_has_12 : decode b_Un_has 12 = .ok (.iconst 1, 1) := by decide +kernel
theorem d_Un_has_13 : decode b_Un_has 13 = .ok (.goto 4, 3) := by decide +kernel
theorem d_Un_has_16 : decode b_Un_has 16 = .ok (.iconst 0, 1) := by decide +kernel
theorem d_Un_has_17 : decode b_Un_has 17 = .ok (.ireturn, 1) := by decide +kernel
theorem d_Un_add_0 : decode b_Un_add 0 = .ok (.aload_n 0, 1) := by decide +kernel
theorem d_Un_add_1 : decode b_Un_add 1 = .ok (.getfield 9, 3) := by decide +kernel
theorem d_Un_add_4 : decode b_Un_add 4 = .ok (.aload_n 0, 1) := by decide +kernel
theorem d_Un_add_5 : decode b_Un_add 5 = .ok (.getfield 19, 3) := by decide +kernel
theorem d_Un_add_8 : decode b_Un_add 8 = .ok (.iload_n 1, 1) := by decide +kernel
theorem d_Un_add_9 : decode b_Un_add 9 = .ok (.iastore, 1) := by decide +kernel
theorem d_Un_add_10 : decode b_Un_add 10 = .ok (.aload_n 0, 1) := by decide +kernel
theorem d_Un_add_11 : decode b_Un_add 11 = .ok (.getfield 15, 3) := by decide +kernel
theorem d_Un_add_14 : decode b_Un_add 14 = .ok (.aload_n 0, 1) := by decide +kernel
theorem d_Un_add_15 : decode b_Un_add 15 = .ok (.getfield 19, 3) := by decide +kernel
theorem d_Un_add_18 : decode b_Un_add 18 = .ok (.iconst 0, 1) := by decide +kernel
theorem d_Un_add_19 : decode b_Un_add 19 = .ok (.bastore, 1) := by decide +kernel
theorem d_Un_add_20 : decode b_Un_add 20 = .ok (.aload_n 0, 1) := by decide +kernel
theorem d_Un_add_21 : decode b_Un_add 21 = .ok (.dup, 1) := by decide +kernel
theorem d_Un_add_22 : decode b_Un_add 22 = .ok (.getfield 19, 3) := by decide +kernel
theorem d_Un_add_25 : decode b_Un_add 25 = .ok (.dup_x1, 1) := by decide +kernel
theorem d_Un_add_26 : decode b_Un_add 26 = .ok (.iconst 1, 1) := by decide +kernel
theorem d_Un_add_27 : decode b_Un_add 27 = .ok (.iadd, 1) := by decide +kernel
theorem d_Un_add_28 : decode b_Un_add 28 = .ok (.putfield 19, 3) := by decide +kernel
theorem d_Un_add_31 : decode b_Un_add 31 = .ok (.ireturn, 1) := by decide +kernel
theorem d_Un_countIn_0 : decode b_Un_countIn 0 = .ok (.iconst 0, 1) := by decide +kernel
theorem d_Un_countIn_1 : decode b_Un_countIn 1 = .ok (.istore_n 1, 1) := by decide +kernel
theorem d_Un_countIn_2 : decode b_Un_countIn 2 = .ok (.iconst 0, 1) := by decide +kernel
theorem d_Un_countIn_3 : decode b_Un_countIn 3 = .ok (.istore_n 2, 1) := by decide +kernel
theorem d_Un_countIn_4 : decode b_Un_countIn 4 = .ok (.iload_n 2, 1) := by decide +kernel
theorem d_Un_countIn_5 : decode b_Un_countIn 5 = .ok (.aload_n 0, 1) := by decide +kernel
theorem d_Un_countIn_6 : decode b_Un_countIn 6 = .ok (.getfield 19, 3) := by decide +kernel
theorem d_Un_countIn_9 : decode b_Un_countIn 9 = .ok (.if_icmp .ge 21, 3) := by decide +kernel
theorem d_Un_countIn_12 : decode b_Un_countIn 12 = .ok (.aload_n 0, 1) := by decide +kernel
theorem d_Un_countIn_13 : decode b_Un_countIn 13 = .ok (.getfield 15, 3) := by decide +kernel
theorem d_Un_countIn_16 : decode b_Un_countIn 16 = .ok (.iload_n 2, 1) := by decide +kernel
theorem d_Un_countIn_17 : decode b_Un_countIn 17 = .ok (.baload, 1) := by decide +kernel
theorem d_Un_countIn_18 : decode b_Un_countIn 18 = .ok (.ifCond .eq 6, 3) := by decide +kernel
theorem d_Un_countIn_21 : decode b_Un_countIn 21 = .ok (.iinc 1 1, 3) := by decide +kernel
theorem d_Un_countIn_24 : decode b_Un_countIn 24 = .ok (.iinc 2 1, 3) := by decide +kernel
theorem d_Un_countIn_27 : decode b_Un_countIn 27 = .ok (.goto (-23), 3) := by decide +kernel
theorem d_Un_countIn_30 : decode b_Un_countIn 30 = .ok (.iload_n 1, 1) := by decide +kernel
theorem d_Un_countIn_31 : decode b_Un_countIn 31 = .ok (.ireturn, 1) := by decide +kernel
theorem d_Se_has_0 : decode b_Se_has 0 = .ok (.iload_n 1, 1) := by decide +kernel
theorem d_Se_has_1 : decode b_Se_has 1 = .ok (.ifCond .lt 15, 3) := by decide +kernel
theorem d_Se_has_4 : decode b_Se_has 4 = .ok (.iload_n 1, 1) := by decide +kernel
theorem d_Se_has_5 : decode b_Se_has 5 = .ok (.aload_n 0, 1) := by decide +kernel
theorem d_Se_has_6 : decode b_Se_has 6 = .ok (.getfield 34, 3) := by decide +kernel
theorem d_Se_has_9 : decode b_Se_has 9 = .ok (.if_icmp .ge 7, 3) := by decide +kernel
theorem d_Se_has_12 : decode b_Se_has 12 = .ok (.iconst 1, 1) := by decide +kernel
theorem d_Se_has_13 : decode b_Se_has 13 = .ok (.goto 4, 3) := by decide +kernel
theorem d_Se_has_16 : decode b_Se_has 16 = .ok (.iconst 0, 1) := by decide +kernel
theorem d_Se_has_17 : decode b_Se_has 17 = .ok (.ireturn, 1) := by decide +kernel
theorem d_Se_hasWord_0 : decode b_Se_hasWord 0 = .ok (.aload_n 0, 1) := by decide +kernel
theorem d_Se_hasWord_1 : decode b_Se_hasWord 1 = .ok (.iload_n 1, 1) := by decide +kernel
theorem d_Se_hasWord_2 : decode b_Se_hasWord 2 = .ok (.invokevirtual 38, 3) := by decide +kernel
theorem d_Se_hasWord_5 : decode b_Se_hasWord 5 = .ok (.ifCond .eq 37, 3) := by decide +kernel
theorem d_Se_hasWord_8 : decode b_Se_hasWord 8 = .ok (.aload_n 0, 1) := by decide +kernel
theorem d_Se_hasWord_9 : decode b_Se_hasWord 9 = .ok (.getfield 18, 3) := by decide +kernel
theorem d_Se_hasWord_12 : decode b_Se_hasWord 12 = .ok (.iload_n 1, 1) := by decide +kernel
theorem d_Se_hasWord_13 : decode b_Se_hasWord 13 = .ok (.iaload, 1) := by decide +kernel
theorem d_Se_hasWord_14 : decode b_Se_hasWord 14 = .ok (.iconst 2, 1) := by decide +kernel
theorem d_Se_hasWord_15 : decode b_Se_hasWord 15 = .ok (.if_icmp .eq 27, 3) := by decide +kernel
theorem d_Se_hasWord_18 : decode b_Se_hasWord 18 = .ok (.iload_n 2, 1) := by decide +kernel
theorem d_Se_hasWord_19 : decode b_Se_hasWord 19 = .ok (.ifCond .lt 23, 3) := by decide +kernel
theorem d_Se_hasWord_22 : decode b_Se_hasWord 22 = .ok (.iload_n 2, 1) := by decide +kernel
theorem d_Se_hasWord_23 : decode b_Se_hasWord 23 = .ok (.aload_n 0, 1) := by decide +kernel
theorem d_Se_hasWord_24 : decode b_Se_hasWord 24 = .ok (.getfield 21, 3) := by decide +kernel
theorem d_Se_hasWord_27 : decode b_Se_hasWord 27 = .ok (.iload_n 1, 1) := by decide +kernel
theorem d_Se_hasWord_28 : decode b_Se_hasWord 28 = .ok (.iaload, 1) := by decide +kernel
theorem d_Se_hasWord_29 : decode b_Se_hasWord 29 = .ok (.if_icmp .ge 13, 3) := by decide +kernel
theorem d_Se_hasWord_32 : decode b_Se_hasWord 32 = .ok (.iload_n 2, 1) := by decide +kernel
theorem d_Se_hasWord_33 : decode b_Se_hasWord 33 = .ok (.iconst 4, 1) := by decide +kernel
theorem d_Se_hasWord_34 : decode b_Se_hasWord 34 = .ok (.irem, 1) := by decide +kernel
theorem d_Se_hasWord_35 : decode b_Se_hasWord 35 = .ok (.ifCond .ne 7, 3) := by decide +kernel
theorem d_Se_hasWord_38 : decode b_Se_hasWord 38 = .ok (.iconst 1, 1) := by decide +kernel
theorem d_Se_hasWord_39 : decode b_Se_hasWord 39 = .ok (.goto 4, 3) := by decide +kernel
theorem d_Se_hasWord_42 : decode b_Se_hasWord 42 = .ok (.iconst 0, 1) := by decide +kernel
theorem d_Se_hasWord_43 : decode b_Se_hasWord 43 = .ok (.ireturn, 1) := by decide +kernel
theorem d_Se_roomier_0 : decode b_Se_roomier 0 = .ok (.iconst 2, 1) := by decide +kernel
theorem d_Se_roomier_1 : decode b_Se_roomier 1 = .ok (.iload_n 0, 1) := by decide +kernel
theorem d_Se_roomier_2 : decode b_Se_roomier 2 = .ok (.imul, 1) := by decide +kernel
theorem d_Se_roomier_3 : decode b_Se_roomier 3 = .ok (.ldc 72, 2) := by decide +kernel
theorem d_Se_roomier_5 : decode b_Se_roomier 5 = .ok (.invokestatic 73, 3) := by decide +kernel
theorem d_Se_roomier_8 : decode b_Se_roomier 8 = .ok (.ireturn, 1) := by decide +kernel
theorem d_Se_write_0 : decode b_Se_write 0 = .ok (.aload_n 0, 1) := by decide +kernel
theorem d_Se_write_1 : decode b_Se_write 1 = .ok (.getfield 9, 3) := by decide +kernel
theorem d_Se_write_4 : decode b_Se_write 4 = .ok (.aload_n 0, 1) := by decide +kernel
theorem d_Se_write_5 : decode b_Se_write 5 = .ok (.getfield 27, 3) := by decide +kernel
theorem d_Se_write_8 : decode b_Se_write 8 = .ok (.iload_n 1, 1) := by decide +kernel
theorem d_Se_write_9 : decode b_Se_write 9 = .ok (.iaload, 1) := by decide +kernel
theorem d_Se_write_10 : decode b_Se_write 10 = .ok (.iload_n 2, 1) := by decide +kernel
theorem d_Se_write_11 : decode b_Se_write 11 = .ok (.iconst 4, 1) := by decide +kernel
theorem d_Se_write_12 : decode b_Se_write 12 = .ok (.idiv, 1) := by decide +kernel
theorem d_Se_write_13 : decode b_Se_write 13 = .ok (.iadd, 1) := by decide +kernel
theorem d_Se_write_14 : decode b_Se_write 14 = .ok (.iload_n 3, 1) := by decide +kernel
theorem d_Se_write_15 : decode b_Se_write 15 = .ok (.iastore, 1) := by decide +kernel
theorem d_Se_write_16 : decode b_Se_write 16 = .ok (.return_, 1) := by decide +kernel
theorem d_Sy_has_0 : decode b_Sy_has 0 = .ok (.iload_n 1, 1) := by decide +kernel
theorem d_Sy_has_1 : decode b_Sy_has 1 = .ok (.ifCond .lt 15, 3) := by decide +kernel
theorem d_Sy_has_4 : decode b_Sy_has 4 = .ok (.iload_n 1, 1) := by decide +kernel
theorem d_Sy_has_5 : decode b_Sy_has 5 = .ok (.aload_n 0, 1) := by decide +kernel
theorem d_Sy_has_6 : decode b_Sy_has 6 = .ok (.getfield 30, 3) := by decide +kernel
theorem d_Sy_has_9 : decode b_Sy_has 9 = .ok (.if_icmp .ge 7, 3) := by decide +kernel
theorem d_Sy_has_12 : decode b_Sy_has 12 = .ok (.iconst 1, 1) := by decide +kernel
theorem d_Sy_has_13 : decode b_Sy_has 13 = .ok (.goto 4, 3) := by decide +kernel
theorem d_Sy_has_16 : decode b_Sy_has 16 = .ok (.iconst 0, 1) := by decide +kernel
theorem d_Sy_has_17 : decode b_Sy_has 17 = .ok (.ireturn, 1) := by decide +kernel
theorem d_Sy_clashes_0 : decode b_Sy_clashes 0 = .ok (.iload_n 3, 1) := by decide +kernel
theorem d_Sy_clashes_1 : decode b_Sy_clashes 1 = .ok (.ifCond .ne 5, 3) := by decide +kernel
theorem d_Sy_clashes_4 : decode b_Sy_clashes 4 = .ok (.iconst 0, 1) := by decide +kernel
theorem d_Sy_clashes_5 : decode b_Sy_clashes 5 = .ok (.ireturn, 1) := by decide +kernel
theorem d_Sy_clashes_6 : decode b_Sy_clashes 6 = .ok (.iconst 0, 1) := by decide +kernel
theorem d_Sy_clashes_7 : decode b_Sy_clashes 7 = .ok (.istore 4, 2) := by decide +kernel
theorem d_Sy_clashes_9 : decode b_Sy_clashes 9 = .ok (.iload 4, 2) := by decide +kernel
theorem d_Sy_clashes_11 : decode b_Sy_clashes 11 = .ok (.aload_n 0, 1) := by decide +kernel
theorem d_Sy_clashes_12 : decode b_Sy_clashes 12 = .ok (.getfield 30, 3) := by decide +kernel
theorem d_Sy_clashes_15 : decode b_Sy_clashes 15 = .ok (.if_icmp .ge 43, 3) := by decide +kernel
theorem d_Sy_clashes_18 : decode b_Sy_clashes 18 = .ok (.aload_n 0, 1) := by decide +kernel
theorem d_Sy_clashes_19 : decode b_Sy_clashes 19 = .ok (.getfield 9, 3) := by decide +kernel
theorem d_Sy_clashes_22 : decode b_Sy_clashes 22 = .ok (.iload 4, 2) := by decide +kernel
theorem d_Sy_clashes_24 : decode b_Sy_clashes 24 = .ok (.iaload, 1) := by decide +kernel
theorem d_Sy_clashes_25 : decode b_Sy_clashes 25 = .ok (.iload_n 1, 1) := by decide +kernel
theorem d_Sy_clashes_26 : decode b_Sy_clashes 26 = .ok (.if_icmp .ne 26, 3) := by decide +kernel
theorem d_Sy_clashes_29 : decode b_Sy_clashes 29 = .ok (.aload_n 0, 1) := by decide +kernel
theorem d_Sy_clashes_30 : decode b_Sy_clashes 30 = .ok (.getfield 15, 3) := by decide +kernel
theorem d_Sy_clashes_33 : decode b_Sy_clashes 33 = .ok (.iload 4, 2) := by decide +kernel
theorem d_Sy_clashes_35 : decode b_Sy_clashes 35 = .ok (.iaload, 1) := by decide +kernel
theorem d_Sy_clashes_36 : decode b_Sy_clashes 36 = .ok (.iload_n 2, 1) := by decide +kernel
theorem d_Sy_clashes_37 : decode b_Sy_clashes 37 = .ok (.if_icmp .ne 15, 3) := by decide +kernel
theorem d_Sy_clashes_40 : decode b_Sy_clashes 40 = .ok (.aload_n 0, 1) := by decide +kernel
theorem d_Sy_clashes_41 : decode b_Sy_clashes 41 = .ok (.getfield 18, 3) := by decide +kernel
theorem d_Sy_clashes_44 : decode b_Sy_clashes 44 = .ok (.iload 4, 2) := by decide +kernel
theorem d_Sy_clashes_46 : decode b_Sy_clashes 46 = .ok (.iaload, 1) := by decide +kernel
theorem d_Sy_clashes_47 : decode b_Sy_clashes 47 = .ok (.ifCond .eq 5, 3) := by decide +kernel
theorem d_Sy_clashes_50 : decode b_Sy_clashes 50 = .ok (.iconst 1, 1) := by decide +kernel
theorem d_Sy_clashes_51 : decode b_Sy_clashes 51 = .ok (.ireturn, 1) := by decide +kernel
theorem d_Sy_clashes_52 : decode b_Sy_clashes 52 = .ok (.iinc 4 1, 3) := by decide +kernel
theorem d_Sy_clashes_55 : decode b_Sy_clashes 55 = .ok (.goto (-46), 3) := by decide +kernel
theorem d_Sy_clashes_58 : decode b_Sy_clashes 58 = .ok (.iconst 0, 1) := by decide +kernel
theorem d_Sy_clashes_59 : decode b_Sy_clashes 59 = .ok (.ireturn, 1) := by decide +kernel
theorem d_Sy_add_0 : decode b_Sy_add 0 = .ok (.aload_n 0, 1) := by decide +kernel
theorem d_Sy_add_1 : decode b_Sy_add 1 = .ok (.getfield 9, 3) := by decide +kernel
theorem d_Sy_add_4 : decode b_Sy_add 4 = .ok (.aload_n 0, 1) := by decide +kernel
theorem d_Sy_add_5 : decode b_Sy_add 5 = .ok (.getfield 30, 3) := by decide +kernel
theorem d_Sy_add_8 : decode b_Sy_add 8 = .ok (.iload_n 1, 1) := by decide +kernel
theorem d_Sy_add_9 : decode b_Sy_add 9 = .ok (.iastore, 1) := by decide +kernel
theorem d_Sy_add_10 : decode b_Sy_add 10 = .ok (.aload_n 0, 1) := by decide +kernel
theorem d_Sy_add_11 : decode b_Sy_add 11 = .ok (.getfield 15, 3) := by decide +kernel
theorem d_Sy_add_14 : decode b_Sy_add 14 = .ok (.aload_n 0, 1) := by decide +kernel
theorem d_Sy_add_15 : decode b_Sy_add 15 = .ok (.getfield 30, 3) := by decide +kernel
theorem d_Sy_add_18 : decode b_Sy_add 18 = .ok (.iload_n 2, 1) := by decide +kernel
theorem d_Sy_add_19 : decode b_Sy_add 19 = .ok (.iastore, 1) := by decide +kernel
theorem d_Sy_add_20 : decode b_Sy_add 20 = .ok (.aload_n 0, 1) := by decide +kernel
theorem d_Sy_add_21 : decode b_Sy_add 21 = .ok (.getfield 18, 3) := by decide +kernel
theorem d_Sy_add_24 : decode b_Sy_add 24 = .ok (.aload_n 0, 1) := by decide +kernel
theorem d_Sy_add_25 : decode b_Sy_add 25 = .ok (.getfield 30, 3) := by decide +kernel
theorem d_Sy_add_28 : decode b_Sy_add 28 = .ok (.iload_n 3, 1) := by decide +kernel
theorem d_Sy_add_29 : decode b_Sy_add 29 = .ok (.iastore, 1) := by decide +kernel
theorem d_Sy_add_30 : decode b_Sy_add 30 = .ok (.aload_n 0, 1) := by decide +kernel
theorem d_Sy_add_31 : decode b_Sy_add 31 = .ok (.dup, 1) := by decide +kernel
theorem d_Sy_add_32 : decode b_Sy_add 32 = .ok (.getfield 30, 3) := by decide +kernel
theorem d_Sy_add_35 : decode b_Sy_add 35 = .ok (.dup_x1, 1) := by decide +kernel
theorem d_Sy_add_36 : decode b_Sy_add 36 = .ok (.iconst 1, 1) := by decide +kernel
theorem d_Sy_add_37 : decode b_Sy_add 37 = .ok (.iadd, 1) := by decide +kernel
theorem d_Sy_add_38 : decode b_Sy_add 38 = .ok (.putfield 30, 3) := by decide +kernel
theorem d_Sy_add_41 : decode b_Sy_add 41 = .ok (.ireturn, 1) := by decide +kernel
theorem d_Sy_define_0 : decode b_Sy_define 0 = .ok (.aload_n 0, 1) := by decide +kernel
theorem d_Sy_define_1 : decode b_Sy_define 1 = .ok (.getfield 21, 3) := by decide +kernel
theorem d_Sy_define_4 : decode b_Sy_define 4 = .ok (.iload_n 1, 1) := by decide +kernel
theorem d_Sy_define_5 : decode b_Sy_define 5 = .ok (.iload_n 2, 1) := by decide +kernel
theorem d_Sy_define_6 : decode b_Sy_define 6 = .ok (.iastore, 1) := by decide +kernel
theorem d_Sy_define_7 : decode b_Sy_define 7 = .ok (.aload_n 0, 1) := by decide +kernel
theorem d_Sy_define_8 : decode b_Sy_define 8 = .ok (.getfield 24, 3) := by decide +kernel
theorem d_Sy_define_11 : decode b_Sy_define 11 = .ok (.iload_n 1, 1) := by decide +kernel
theorem d_Sy_define_12 : decode b_Sy_define 12 = .ok (.iload_n 3, 1) := by decide +kernel
theorem d_Sy_define_13 : decode b_Sy_define 13 = .ok (.iastore, 1) := by decide +kernel
theorem d_Sy_define_14 : decode b_Sy_define 14 = .ok (.aload_n 0, 1) := by decide +kernel
theorem d_Sy_define_15 : decode b_Sy_define 15 = .ok (.getfield 27, 3) := by decide +kernel
theorem d_Sy_define_18 : decode b_Sy_define 18 = .ok (.iload_n 1, 1) := by decide +kernel
theorem d_Sy_define_19 : decode b_Sy_define 19 = .ok (.iload 4, 2) := by decide +kernel
theorem d_Sy_define_21 : decode b_Sy_define 21 = .ok (.iastore, 1) := by decide +kernel
theorem d_Sy_define_22 : decode b_Sy_define 22 = .ok (.return_, 1) := by decide +kernel
theorem d_Re_add_0 : decode b_Re_add 0 = .ok (.aload_n 0, 1) := by decide +kernel
theorem d_Re_add_1 : decode b_Re_add 1 = .ok (.getfield 9, 3) := by decide +kernel
theorem d_Re_add_4 : decode b_Re_add 4 = .ok (.aload_n 0, 1) := by decide +kernel
theorem d_Re_add_5 : decode b_Re_add 5 = .ok (.getfield 36, 3) := by decide +kernel
theorem d_Re_add_8 : decode b_Re_add 8 = .ok (.iload_n 1, 1) := by decide +kernel
theorem d_Re_add_9 : decode b_Re_add 9 = .ok (.iastore, 1) := by decide +kernel
theorem d_Re_add_10 : decode b_Re_add 10 = .ok (.aload_n 0, 1) := by decide +kernel
theorem d_Re_add_11 : decode b_Re_add 11 = .ok (.getfield 15, 3) := by decide +kernel
theorem d_Re_add_14 : decode b_Re_add 14 = .ok (.aload_n 0, 1) := by decide +kernel
theorem d_Re_add_15 : decode b_Re_add 15 = .ok (.getfield 36, 3) := by decide +kernel
theorem d_Re_add_18 : decode b_Re_add 18 = .ok (.iload_n 2, 1) := by decide +kernel
theorem d_Re_add_19 : decode b_Re_add 19 = .ok (.iastore, 1) := by decide +kernel
theorem d_Re_add_20 : decode b_Re_add 20 = .ok (.aload_n 0, 1) := by decide +kernel
theorem d_Re_add_21 : decode b_Re_add 21 = .ok (.getfield 18, 3) := by decide +kernel
theorem d_Re_add_24 : decode b_Re_add 24 = .ok (.aload_n 0, 1) := by decide +kernel
theorem d_Re_add_25 : decode b_Re_add 25 = .ok (.getfield 36, 3) := by decide +kernel
theorem d_Re_add_28 : decode b_Re_add 28 = .ok (.iload_n 3, 1) := by decide +kernel
theorem d_Re_add_29 : decode b_Re_add 29 = .ok (.iastore, 1) := by decide +kernel
theorem d_Re_add_30 : decode b_Re_add 30 = .ok (.aload_n 0, 1) := by decide +kernel
theorem d_Re_add_31 : decode b_Re_add 31 = .ok (.getfield 21, 3) := by decide +kernel
theorem d_Re_add_34 : decode b_Re_add 34 = .ok (.aload_n 0, 1) := by decide +kernel
theorem d_Re_add_35 : decode b_Re_add 35 = .ok (.getfield 36, 3) := by decide +kernel
theorem d_Re_add_38 : decode b_Re_add 38 = .ok (.iload 4, 2) := by decide +kernel
theorem d_Re_add_40 : decode b_Re_add 40 = .ok (.iastore, 1) := by decide +kernel
theorem d_Re_add_41 : decode b_Re_add 41 = .ok (.aload_n 0, 1) := by decide +kernel
theorem d_Re_add_42 : decode b_Re_add 42 = .ok (.getfield 24, 3) := by decide +kernel
theorem d_Re_add_45 : decode b_Re_add 45 = .ok (.aload_n 0, 1) := by decide +kernel
theorem d_Re_add_46 : decode b_Re_add 46 = .ok (.getfield 36, 3) := by decide +kernel
theorem d_Re_add_49 : decode b_Re_add 49 = .ok (.iload 5, 2) := by decide +kernel
theorem d_Re_add_51 : decode b_Re_add 51 = .ok (.iastore, 1) := by decide +kernel
theorem d_Re_add_52 : decode b_Re_add 52 = .ok (.aload_n 0, 1) := by decide +kernel
theorem d_Re_add_53 : decode b_Re_add 53 = .ok (.dup, 1) := by decide +kernel
theorem d_Re_add_54 : decode b_Re_add 54 = .ok (.getfield 36, 3) := by decide +kernel
theorem d_Re_add_57 : decode b_Re_add 57 = .ok (.dup_x1, 1) := by decide +kernel
theorem d_Re_add_58 : decode b_Re_add 58 = .ok (.iconst 1, 1) := by decide +kernel
theorem d_Re_add_59 : decode b_Re_add 59 = .ok (.iadd, 1) := by decide +kernel
theorem d_Re_add_60 : decode b_Re_add 60 = .ok (.putfield 36, 3) := by decide +kernel
theorem d_Re_add_63 : decode b_Re_add 63 = .ok (.ireturn, 1) := by decide +kernel
theorem d_Fo_countFolded_0 : decode b_Fo_countFolded 0 = .ok (.iconst 0, 1) := by decide +kernel
theorem d_Fo_countFolded_1 : decode b_Fo_countFolded 1 = .ok (.istore_n 1, 1) := by decide +kernel
theorem d_Fo_countFolded_2 : decode b_Fo_countFolded 2 = .ok (.iconst 0, 1) := by decide +kernel
theorem d_Fo_countFolded_3 : decode b_Fo_countFolded 3 = .ok (.istore_n 2, 1) := by decide +kernel
theorem d_Fo_countFolded_4 : decode b_Fo_countFolded 4 = .ok (.iload_n 2, 1) := by decide +kernel
theorem d_Fo_countFolded_5 : decode b_Fo_countFolded 5 = .ok (.aload_n 0, 1) := by decide +kernel
theorem d_Fo_countFolded_6 : decode b_Fo_countFolded 6 = .ok (.getfield 18, 3) := by decide +kernel
theorem d_Fo_countFolded_9 : decode b_Fo_countFolded 9 = .ok (.getfield 34, 3) := by decide +kernel
theorem d_Fo_countFolded_12 : decode b_Fo_countFolded 12 = .ok (.if_icmp .ge 20, 3) := by decide +kernel
theorem d_Fo_countFolded_15 : decode b_Fo_countFolded 15 = .ok (.aload_n 0, 1) := by decide +kernel
theorem d_Fo_countFolded_16 : decode b_Fo_countFolded 16 = .ok (.iload_n 2, 1) := by decide +kernel
theorem d_Fo_countFolded_17 : decode b_Fo_countFolded 17 = .ok (.invokevirtual 52, 3) := by decide +kernel
theorem d_Fo_countFolded_20 : decode b_Fo_countFolded 20 = .ok (.ifCond .eq 6, 3) := by decide +kernel
theorem d_Fo_countFolded_23 : decode b_Fo_countFolded 23 = .ok (.iinc 1 1, 3) := by decide +kernel
theorem d_Fo_countFolded_26 : decode b_Fo_countFolded 26 = .ok (.iinc 2 1, 3) := by decide +kernel
theorem d_Fo_countFolded_29 : decode b_Fo_countFolded 29 = .ok (.goto (-25), 3) := by decide +kernel
theorem d_Fo_countFolded_32 : decode b_Fo_countFolded 32 = .ok (.iload_n 1, 1) := by decide +kernel
theorem d_Fo_countFolded_33 : decode b_Fo_countFolded 33 = .ok (.ireturn, 1) := by decide +kernel
end
section
set_option maxHeartbeats 4000000 in
set_option maxRecDepth 100000 in
theorem ylp_Me_firstMisplacedJump_2 {C : YC} {r : Int32} {V' : Sto} {k45 : Int32 → Sto → RT} {k53 : Sto → RT} (hC : YF C R_Me b_Me_firstMisplacedJump 3 rm_Me_firstMisplacedJump) (hE : YEi C .int shpC r V') (hk45 : ∀ (y2 : Int32) (V1 : Sto), k45 y2 V1 = some (r, V') → Y C shpC 3 45 [(2, .int y2)] [] V1) (hk53 : ∀ (V1 : Sto), k53 V1 = some (r, V') → Y C shpC 3 53 [] [] V1) : ∀ (n : Nat) (x1 : Int32) (V : Sto), lp_Me_firstMisplacedJump_2 k45 k53 n x1 V = some (r, V') → Y C shpC 3 2 [(0, .ref (C.a 11)), (1, .int x1)] [] V := by
  intro n
  induction n with
  | zero =>
    intro x1 V h
    rw [lp_Me_firstMisplacedJump_2] at h
    cases h
  | succ n ih =>
    intro x1 V h
    rw [lp_Me_firstMisplacedJump_2] at h
    refine Y_iload_n (pc := 2) hC d_Me_firstMisplacedJump_2 rfl 1 rfl ?_
    refine Y_aload_n (pc := 3) hC d_Me_firstMisplacedJump_3 rfl 0 rfl ?_
    refine Y_getR (pc := 4) hC sc_11 fl_Me_15 rfl d_Me_firstMisplacedJump_4 ?_
    refine Y_getI (pc := 7) hC sc_4 fl_Me_27 rfl d_Me_firstMisplacedJump_7 ?_
    refine Y_icmp_ge (pc := 10) hC 53 d_Me_firstMisplacedJump_10 rfl (fun cc_10 => ?_) (fun cc_10 => ?_)
    · have h := ifp cc_10 h
      refine Y_sub (pc := 53) [] rfl ?_
      exact hk53 _ h
    · have h := ifn cc_10 h
      refine Y_aload_n (pc := 13) hC d_Me_firstMisplacedJump_13 rfl 0 rfl ?_
      refine Y_getR (pc := 14) hC sc_11 fl_Me_15 rfl d_Me_firstMisplacedJump_14 ?_
      refine Y_getR (pc := 17) hC sc_4 fl_Me_33 rfl d_Me_firstMisplacedJump_17 ?_
      refine Y_iload_n (pc := 20) hC d_Me_firstMisplacedJump_20 rfl 1 rfl ?_
      obtain ⟨hi, h⟩ := ck_some h
      refine Y_iald (pc := 21) hC sc_32 rfl hi d_Me_firstMisplacedJump_21 ?_
      refine Y_istore_n (pc := 22) hC (L' := [(2, .int (V 32 x1.toNatClampNeg)), (0, .ref (C.a 11)), (1, .int x1)]) d_Me_firstMisplacedJump_22 rfl (by decide) rfl ?_
      refine Y_aload_n (pc := 23) hC d_Me_firstMisplacedJump_23 rfl 1 rfl ?_
      refine Y_iload_n (pc := 24) hC d_Me_firstMisplacedJump_24 rfl 0 rfl ?_
      refine Y_iconst (pc := 25) hC d_Me_firstMisplacedJump_25 ki_5 ?_
      obtain ⟨r1, V1, hc_r1, h⟩ := cl_some h
      refine Y_callV (pc := 26) hC (c_Me_isMended C.l C.D C.cI C.cZ C.a hc_r1) sc_11 cls_Me ml_Me_37 mv_Me_isMended (by decide) (Nat.le_of_ble_eq_true rfl) rfl d_Me_firstMisplacedJump_26 ?_
      refine Y_if_eq (pc := 29) hC 47 d_Me_firstMisplacedJump_29 rfl (fun cc_29 => ?_) (fun cc_29 => ?_)
      · have h := ifp cc_29 h
        refine Y_iinc (pc := 47) hC (v := x1 + 1) (L' := [(1, .int (x1 + 1)), (2, .int (V 32 x1.toNatClampNeg)), (0, .ref (C.a 11))]) d_Me_firstMisplacedJump_47 2 rfl rfl (by decide) rfl ?_
        refine Y_goto (pc := 50) hC 2 d_Me_firstMisplacedJump_50 rfl ?_
        refine Y_sub (pc := 2) [2, 0] rfl ?_
        exact ih _ _ h
      · have h := ifn cc_29 h
        refine Y_aload_n (pc := 32) hC d_Me_firstMisplacedJump_32 rfl 1 rfl ?_
        refine Y_getR (pc := 33) hC sc_11 fl_Me_23 rfl d_Me_firstMisplacedJump_33 ?_
        refine Y_iload_n (pc := 36) hC d_Me_firstMisplacedJump_36 rfl 0 rfl ?_
        obtain ⟨r2, V2, hc_r2, h⟩ := cl_some h
        refine Y_callV (pc := 37) hC (c_Is_targetOf C.l C.D C.cI C.cZ C.a hc_r2) sc_10 cls_Is ml_Me_41 mv_Is_targetOf (by decide) (Nat.le_of_ble_eq_true rfl) rfl d_Me_firstMisplacedJump_37 ?_
        refine Y_iconst (pc := 40) hC d_Me_firstMisplacedJump_40 ki_4 ?_
        refine Y_irem (pc := 41) hC d_Me_firstMisplacedJump_41 (by decide) ?_
        refine Y_if_eq (pc := 42) hC 47 d_Me_firstMisplacedJump_42 rfl (fun cc_42 => ?_) (fun cc_42 => ?_)
        · have h := ifp cc_42 h
          refine Y_iinc (pc := 47) hC (v := x1 + 1) (L' := [(1, .int (x1 + 1)), (2, .int (V 32 x1.toNatClampNeg)), (0, .ref (C.a 11))]) d_Me_firstMisplacedJump_47 2 rfl rfl (by decide) rfl ?_
          refine Y_goto (pc := 50) hC 2 d_Me_firstMisplacedJump_50 rfl ?_
          refine Y_sub (pc := 2) [2, 0] rfl ?_
          exact ih _ _ h
        · have h := ifn cc_42 h
          refine Y_sub (pc := 45) [0] rfl ?_
          exact hk45 _ _ h
set_option maxHeartbeats 4000000 in
set_option maxRecDepth 100000 in
theorem c_Me_firstMisplacedJump (l : Launch) (D : va_G) (cI cZ : ClassId) (a : Nat → Nat) {V : Sto} {r : Int32} {V' : Sto} (h : f_Me_firstMisplacedJump V = some (r, V')) : YMi l D cI cZ a shpC y_Me_firstMisplacedJump b_Me_firstMisplacedJump 3 (some .int) rm_Me_firstMisplacedJump [.ref (a 11)] V r V' := by
  refine YMi_of (by decide) (Nat.le_of_ble_eq_true rfl) ?_
  intro C hl hDD hcI hcZ ha hC hE
  subst hl hDD hcI hcZ ha
  show Y C shpC 3 0 [(0, .ref (C.a 11))] [] V
  rw [f_Me_firstMisplacedJump] at h
  refine Y_iconst (pc := 0) hC d_Me_firstMisplacedJump_0 ki_0 ?_
  refine Y_istore_n (pc := 1) hC (L' := [(1, .int 0), (0, .ref (C.a 11))]) d_Me_firstMisplacedJump_1 rfl (by decide) rfl ?_
  refine Y_sub (pc := 2) [1, 0] rfl ?_
  refine ylp_Me_firstMisplacedJump_2 hC hE (fun y1 V3 h => ?_) (fun V4 h => ?_) FU _ _ h
  · have h := h
    refine Y_iload_n (pc := 45) hC d_Me_firstMisplacedJump_45 rfl 0 rfl ?_
    exact Y_iret (pc := 46) hC hE d_Me_firstMisplacedJump_46 h
  · have h := h
    refine Y_iconst (pc := 53) hC d_Me_firstMisplacedJump_53 ki_m1 ?_
    exact Y_iret (pc := 54) hC hE d_Me_firstMisplacedJump_54 h
set_option maxHeartbeats 4000000 in
set_option maxRecDepth 100000 in
theorem c_Ly_linksPlaces (l : Launch) (D : va_G) (cI cZ : ClassId) (a : Nat → Nat) {V : Sto} {p1 : Int32} {r : Int32} {V' : Sto} (h : f_Ly_linksPlaces V p1 = some (r, V')) : YMi l D cI cZ a shpC y_Ly_linksPlaces b_Ly_linksPlaces 4 (some .boolean) rm_Ly_linksPlaces [.ref (a 0), .int p1] V r V' := by
  refine YMi_of (by decide) (Nat.le_of_ble_eq_true rfl) ?_
  intro C hl hDD hcI hcZ ha hC hE
  subst hl hDD hcI hcZ ha
  show Y C shpC 4 0 [(0, .ref (C.a 0)), (1, .int p1)] [] V
  rw [f_Ly_linksPlaces] at h
  refine Y_aload_n (pc := 0) hC d_Ly_linksPlaces_0 rfl 0 rfl ?_
  refine Y_getR (pc := 1) hC sc_0 fl_Ly_67 rfl d_Ly_linksPlaces_1 ?_
  refine Y_aload_n (pc := 4) hC d_Ly_linksPlaces_4 rfl 0 rfl ?_
  refine Y_getI (pc := 5) hC sc_0 fl_Ly_223 rfl d_Ly_linksPlaces_5 ?_
  obtain ⟨r1, V1, hc_r1, h⟩ := cl_some h
  refine Y_callVv (pc := 8) hC (c_Fo_settle C.l C.D C.cI C.cZ C.a hc_r1) sc_8 cls_Fo ml_Ly_362 mv_Fo_settle (by decide) (Nat.le_of_ble_eq_true rfl) rfl d_Ly_linksPlaces_8 ?_
  refine Y_aload_n (pc := 11) hC d_Ly_linksPlaces_11 rfl 0 rfl ?_
  refine Y_getR (pc := 12) hC sc_0 fl_Ly_76 rfl d_Ly_linksPlaces_12 ?_
  refine Y_iload_n (pc := 15) hC d_Ly_linksPlaces_15 rfl 1 rfl ?_
  obtain ⟨r2, V2, hc_r2, h⟩ := cl_some h
  refine Y_callVv (pc := 16) hC (c_La_begin C.l C.D C.cI C.cZ C.a hc_r2) sc_9 cls_La ml_Ly_365 mv_La_begin (by decide) (Nat.le_of_ble_eq_true rfl) rfl d_Ly_linksPlaces_16 ?_
  refine Y_aload_n (pc := 19) hC d_Ly_linksPlaces_19 rfl 0 rfl ?_
  refine Y_getR (pc := 20) hC sc_0 fl_Ly_85 rfl d_Ly_linksPlaces_20 ?_
  obtain ⟨r3, V3, hc_r3, h⟩ := cl_some h
  refine Y_callV (pc := 23) hC (c_Is_settle C.l C.D C.cI C.cZ C.a hc_r3) sc_10 cls_Is ml_Ly_368 mv_Is_settle (by decide) (Nat.le_of_ble_eq_true rfl) rfl d_Ly_linksPlaces_23 ?_
  refine Y_if_ne (pc := 26) hC 37 d_Ly_linksPlaces_26 rfl (fun cc_26 => ?_) (fun cc_26 => ?_)
  · have h := ifn cc_26 h
    refine Y_aload_n (pc := 37) hC d_Ly_linksPlaces_37 rfl 0 rfl ?_
    refine Y_getR (pc := 38) hC sc_0 fl_Ly_94 rfl d_Ly_linksPlaces_38 ?_
    obtain ⟨r4, V4, hc_r4, h⟩ := cl_some h
    refine Y_callV (pc := 41) hC (c_Me_firstFar C.l C.D C.cI C.cZ C.a hc_r4) sc_11 cls_Me ml_Ly_370 mv_Me_firstFar (by decide) (Nat.le_of_ble_eq_true rfl) rfl d_Ly_linksPlaces_41 ?_
    refine Y_istore_n (pc := 44) hC (L' := [(2, .int r4), (0, .ref (C.a 0)), (1, .int p1)]) d_Ly_linksPlaces_44 rfl (by decide) rfl ?_
    refine Y_iload_n (pc := 45) hC d_Ly_linksPlaces_45 rfl 0 rfl ?_
    refine Y_iconst (pc := 46) hC d_Ly_linksPlaces_46 ki_m1 ?_
    refine Y_icmp_eq (pc := 47) hC 58 d_Ly_linksPlaces_47 rfl (fun cc_47 => ?_) (fun cc_47 => ?_)
    · have h := ifp cc_47 h
      refine Y_aload_n (pc := 58) hC d_Ly_linksPlaces_58 rfl 1 rfl ?_
      refine Y_getR (pc := 59) hC sc_0 fl_Ly_94 rfl d_Ly_linksPlaces_59 ?_
      obtain ⟨r5, V5, hc_r5, h⟩ := cl_some h
      refine Y_callV (pc := 62) hC (c_Me_firstMisplacedJump C.l C.D C.cI C.cZ C.a hc_r5) sc_11 cls_Me ml_Ly_373 mv_Me_firstMisplacedJump (by decide) (Nat.le_of_ble_eq_true rfl) rfl d_Ly_linksPlaces_62 ?_
      refine Y_istore_n (pc := 65) hC (L' := [(3, .int r5), (2, .int r4), (0, .ref (C.a 0)), (1, .int p1)]) d_Ly_linksPlaces_65 rfl (by decide) rfl ?_
      refine Y_iload_n (pc := 66) hC d_Ly_linksPlaces_66 rfl 0 rfl ?_
      refine Y_iconst (pc := 67) hC d_Ly_linksPlaces_67 ki_m1 ?_
      refine Y_icmp_eq (pc := 68) hC 79 d_Ly_linksPlaces_68 rfl (fun cc_68 => ?_) (fun cc_68 => ?_)
      · have h := ifp cc_68 h
        refine Y_iconst (pc := 79) hC d_Ly_linksPlaces_79 ki_1 ?_
        exact Y_zret (pc := 80) hC hE d_Ly_linksPlaces_80 rfl h
      · have h := ifn cc_68 h
        refine Y_aload_n (pc := 71) hC d_Ly_linksPlaces_71 rfl 2 rfl ?_
        refine Y_iconst (pc := 72) hC d_Ly_linksPlaces_72 ki_5 ?_
        refine Y_iconst (pc := 73) hC d_Ly_linksPlaces_73 ki_m1 ?_
        refine Y_iload_n (pc := 74) hC d_Ly_linksPlaces_74 rfl 0 rfl ?_
        obtain ⟨r6, V6, hc_r6, h⟩ := cl_some h
        refine Y_callV (pc := 75) hC (c_Ly_fails C.l C.D C.cI C.cZ C.a hc_r6) sc_0 cls_Ly ml_Ly_341 mv_Ly_fails (by decide) (Nat.le_of_ble_eq_true rfl) rfl d_Ly_linksPlaces_75 ?_
        obtain ⟨hbb, h⟩ := ck_some h
        exact Y_zret (pc := 78) hC hE d_Ly_linksPlaces_78 hbb h
    · have h := ifn cc_47 h
      refine Y_aload_n (pc := 50) hC d_Ly_linksPlaces_50 rfl 1 rfl ?_
      refine Y_iconst (pc := 51) hC d_Ly_linksPlaces_51 ki_3 ?_
      refine Y_iconst (pc := 52) hC d_Ly_linksPlaces_52 ki_m1 ?_
      refine Y_iload_n (pc := 53) hC d_Ly_linksPlaces_53 rfl 0 rfl ?_
      obtain ⟨r7, V7, hc_r7, h⟩ := cl_some h
      refine Y_callV (pc := 54) hC (c_Ly_fails C.l C.D C.cI C.cZ C.a hc_r7) sc_0 cls_Ly ml_Ly_341 mv_Ly_fails (by decide) (Nat.le_of_ble_eq_true rfl) rfl d_Ly_linksPlaces_54 ?_
      obtain ⟨hbb, h⟩ := ck_some h
      exact Y_zret (pc := 57) hC hE d_Ly_linksPlaces_57 hbb h
  · have h := ifp cc_26 h
    refine Y_aload_n (pc := 29) hC d_Ly_linksPlaces_29 rfl 0 rfl ?_
    refine Y_iconst (pc := 30) hC d_Ly_linksPlaces_30 ki_4 ?_
    refine Y_iconst (pc := 31) hC d_Ly_linksPlaces_31 ki_m1 ?_
    refine Y_iconst (pc := 32) hC d_Ly_linksPlaces_32 ki_m1 ?_
    obtain ⟨r8, V8, hc_r8, h⟩ := cl_some h
    refine Y_callV (pc := 33) hC (c_Ly_fails C.l C.D C.cI C.cZ C.a hc_r8) sc_0 cls_Ly ml_Ly_341 mv_Ly_fails (by decide) (Nat.le_of_ble_eq_true rfl) rfl d_Ly_linksPlaces_33 ?_
    obtain ⟨hbb, h⟩ := ck_some h
    exact Y_zret (pc := 36) hC hE d_Ly_linksPlaces_36 hbb h
set_option maxHeartbeats 4000000 in
set_option maxRecDepth 100000 in
theorem c_Ly_isName (l : Launch) (D : va_G) (cI cZ : ClassId) (a : Nat → Nat) {V : Sto} {p0 : Int32} {r : Int32} {V' : Sto} (h : f_Ly_isName V p0 = some (r, V')) : YMi l D cI cZ a shpC y_Ly_isName b_Ly_isName 1 (some .boolean) rm_Ly_isName [.int p0] V r V' := by
  refine YMi_of (by decide) (Nat.le_of_ble_eq_true rfl) ?_
  intro C hl hDD hcI hcZ ha hC hE
  subst hl hDD hcI hcZ ha
  show Y C shpC 1 0 [(0, .int p0)] [] V
  rw [f_Ly_isName] at h
  refine Y_iload_n (pc := 0) hC d_Ly_isName_0 rfl 0 rfl ?_
  refine Y_if_lt (pc := 1) hC 15 d_Ly_isName_1 rfl (fun cc_1 => ?_) (fun cc_1 => ?_)
  · have h := ifp cc_1 h
    refine Y_iconst (pc := 15) hC d_Ly_isName_15 ki_0 ?_
    exact Y_zret (pc := 16) hC hE d_Ly_isName_16 rfl h
  · have h := ifn cc_1 h
    refine Y_iload_n (pc := 4) hC d_Ly_isName_4 rfl 0 rfl ?_
    refine Y_sipush (pc := 5) hC d_Ly_isName_5 ks_200 ?_
    refine Y_icmp_ge (pc := 8) hC 15 d_Ly_isName_8 rfl (fun cc_8 => ?_) (fun cc_8 => ?_)
    · have h := ifp cc_8 h
      refine Y_iconst (pc := 15) hC d_Ly_isName_15 ki_0 ?_
      exact Y_zret (pc := 16) hC hE d_Ly_isName_16 rfl h
    · have h := ifn cc_8 h
      refine Y_iconst (pc := 11) hC d_Ly_isName_11 ki_1 ?_
      refine Y_goto (pc := 12) hC 16 d_Ly_isName_12 rfl ?_
      exact Y_zret (pc := 16) hC hE d_Ly_isName_16 rfl h
set_option maxHeartbeats 4000000 in
set_option maxRecDepth 100000 in
theorem c_Ly_isSize (l : Launch) (D : va_G) (cI cZ : ClassId) (a : Nat → Nat) {V : Sto} {p0 p1 : Int32} {r : Int32} {V' : Sto} (h : f_Ly_isSize V p0 p1 = some (r, V')) : YMi l D cI cZ a shpC y_Ly_isSize b_Ly_isSize 2 (some .boolean) rm_Ly_isSize [.int p0, .int p1] V r V' := by
  refine YMi_of (by decide) (Nat.le_of_ble_eq_true rfl) ?_
  intro C hl hDD hcI hcZ ha hC hE
  subst hl hDD hcI hcZ ha
  show Y C shpC 2 0 [(0, .int p0), (1, .int p1)] [] V
  rw [f_Ly_isSize] at h
  refine Y_iload_n (pc := 0) hC d_Ly_isSize_0 rfl 0 rfl ?_
  refine Y_iload_n (pc := 1) hC d_Ly_isSize_1 rfl 1 rfl ?_
  refine Y_icmp_lt (pc := 2) hC 22 d_Ly_isSize_2 rfl (fun cc_2 => ?_) (fun cc_2 => ?_)
  · have h := ifp cc_2 h
    refine Y_iconst (pc := 22) hC d_Ly_isSize_22 ki_0 ?_
    exact Y_zret (pc := 23) hC hE d_Ly_isSize_23 rfl h
  · have h := ifn cc_2 h
    refine Y_iload_n (pc := 5) hC d_Ly_isSize_5 rfl 0 rfl ?_
    refine Y_sipush (pc := 6) hC d_Ly_isSize_6 ks_8192 ?_
    refine Y_icmp_gt (pc := 9) hC 22 d_Ly_isSize_9 rfl (fun cc_9 => ?_) (fun cc_9 => ?_)
    · have h := ifp cc_9 h
      refine Y_iconst (pc := 22) hC d_Ly_isSize_22 ki_0 ?_
      exact Y_zret (pc := 23) hC hE d_Ly_isSize_23 rfl h
    · have h := ifn cc_9 h
      refine Y_iload_n (pc := 12) hC d_Ly_isSize_12 rfl 0 rfl ?_
      refine Y_iconst (pc := 13) hC d_Ly_isSize_13 ki_4 ?_
      refine Y_irem (pc := 14) hC d_Ly_isSize_14 (by decide) ?_
      refine Y_if_ne (pc := 15) hC 22 d_Ly_isSize_15 rfl (fun cc_15 => ?_) (fun cc_15 => ?_)
      · have h := ifn cc_15 h
        refine Y_iconst (pc := 22) hC d_Ly_isSize_22 ki_0 ?_
        exact Y_zret (pc := 23) hC hE d_Ly_isSize_23 rfl h
      · have h := ifp cc_15 h
        refine Y_iconst (pc := 18) hC d_Ly_isSize_18 ki_1 ?_
        refine Y_goto (pc := 19) hC 23 d_Ly_isSize_19 rfl ?_
        exact Y_zret (pc := 23) hC hE d_Ly_isSize_23 rfl h
set_option maxHeartbeats 4000000 in
set_option maxRecDepth 100000 in
theorem c_bitCount (l : Launch) (D : va_G) (cI cZ : ClassId) (a : Nat → Nat) {V : Sto} {p0 : Int32} {r : Int32} {V' : Sto} (h : f_bitCount V p0 = some (r, V')) : YMi l D cI cZ a shpC y_bitCount b_bitCount 1 (some .int) rm_bitCount [.int p0] V r V' := by
  refine YMi_of (by decide) (Nat.le_of_ble_eq_true rfl) ?_
  intro C hl hDD hcI hcZ ha hC hE
  subst hl hDD hcI hcZ ha
  show Y C shpC 1 0 [(0, .int p0)] [] V
  rw [f_bitCount] at h
  refine Y_iload_n (pc := 0) hC d_bitCount_0 rfl 0 rfl ?_
  refine Y_iload_n (pc := 1) hC d_bitCount_1 rfl 0 rfl ?_
  refine Y_iconst (pc := 2) hC d_bitCount_2 ki_1 ?_
  refine Y_iushr (pc := 3) hC d_bitCount_3 rfl ?_
  refine Y_ldcw (pc := 4) hC kc_Integer_265 d_bitCount_4 ?_
  refine Y_iand (pc := 7) hC d_bitCount_7 ?_
  refine Y_isub (pc := 8) hC d_bitCount_8 ?_
  refine Y_istore_n (pc := 9) hC (L' := [(0, .int (p0 - (((p0.toUInt32 >>> (Int32.toUInt32 1 &&& Int32.toUInt32 31)).toInt32) &&& 1431655765)))]) d_bitCount_9 rfl (by decide) rfl ?_
  refine Y_iload_n (pc := 10) hC d_bitCount_10 rfl 0 rfl ?_
  refine Y_ldcw (pc := 11) hC kc_Integer_266 d_bitCount_11 ?_
  refine Y_iand (pc := 14) hC d_bitCount_14 ?_
  refine Y_iload_n (pc := 15) hC d_bitCount_15 rfl 0 rfl ?_
  refine Y_iconst (pc := 16) hC d_bitCount_16 ki_2 ?_
  refine Y_iushr (pc := 17) hC d_bitCount_17 rfl ?_
  refine Y_ldcw (pc := 18) hC kc_Integer_266 d_bitCount_18 ?_
  refine Y_iand (pc := 21) hC d_bitCount_21 ?_
  refine Y_iadd (pc := 22) hC d_bitCount_22 ?_
  refine Y_istore_n (pc := 23) hC (L' := [(0, .int (((p0 - (((p0.toUInt32 >>> (Int32.toUInt32 1 &&& Int32.toUInt32 31)).toInt32) &&& 1431655765)) &&& 858993459) + ((((p0 - (((p0.toUInt32 >>> (Int32.toUInt32 1 &&& Int32.toUInt32 31)).toInt32) &&& 1431655765)).toUInt32 >>> (Int32.toUInt32 2 &&& Int32.toUInt32 31)).toInt32) &&& 858993459)))]) d_bitCount_23 rfl (by decide) rfl ?_
  refine Y_iload_n (pc := 24) hC d_bitCount_24 rfl 0 rfl ?_
  refine Y_iload_n (pc := 25) hC d_bitCount_25 rfl 0 rfl ?_
  refine Y_iconst (pc := 26) hC d_bitCount_26 ki_4 ?_
  refine Y_iushr (pc := 27) hC d_bitCount_27 rfl ?_
  refine Y_iadd (pc := 28) hC d_bitCount_28 ?_
  refine Y_ldcw (pc := 29) hC kc_Integer_267 d_bitCount_29 ?_
  refine Y_iand (pc := 32) hC d_bitCount_32 ?_
  refine Y_istore_n (pc := 33) hC (L' := [(0, .int (((((p0 - (((p0.toUInt32 >>> (Int32.toUInt32 1 &&& Int32.toUInt32 31)).toInt32) &&& 1431655765)) &&& 858993459) + ((((p0 - (((p0.toUInt32 >>> (Int32.toUInt32 1 &&& Int32.toUInt32 31)).toInt32) &&& 1431655765)).toUInt32 >>> (Int32.toUInt32 2 &&& Int32.toUInt32 31)).toInt32) &&& 858993459)) + (((((p0 - (((p0.toUInt32 >>> (Int32.toUInt32 1 &&& Int32.toUInt32 31)).toInt32) &&& 1431655765)) &&& 858993459) + ((((p0 - (((p0.toUInt32 >>> (Int32.toUInt32 1 &&& Int32.toUInt32 31)).toInt32) &&& 1431655765)).toUInt32 >>> (Int32.toUInt32 2 &&& Int32.toUInt32 31)).toInt32) &&& 858993459)).toUInt32 >>> (Int32.toUInt32 4 &&& Int32.toUInt32 31)).toInt32)) &&& 252645135))]) d_bitCount_33 rfl (by decide) rfl ?_
  refine Y_iload_n (pc := 34) hC d_bitCount_34 rfl 0 rfl ?_
  refine Y_iload_n (pc := 35) hC d_bitCount_35 rfl 0 rfl ?_
  refine Y_bipush (pc := 36) hC d_bitCount_36 kb_8 ?_
  refine Y_iushr (pc := 38) hC d_bitCount_38 rfl ?_
  refine Y_iadd (pc := 39) hC d_bitCount_39 ?_
  refine Y_istore_n (pc := 40) hC (L' := [(0, .int ((((((p0 - (((p0.toUInt32 >>> (Int32.toUInt32 1 &&& Int32.toUInt32 31)).toInt32) &&& 1431655765)) &&& 858993459) + ((((p0 - (((p0.toUInt32 >>> (Int32.toUInt32 1 &&& Int32.toUInt32 31)).toInt32) &&& 1431655765)).toUInt32 >>> (Int32.toUInt32 2 &&& Int32.toUInt32 31)).toInt32) &&& 858993459)) + (((((p0 - (((p0.toUInt32 >>> (Int32.toUInt32 1 &&& Int32.toUInt32 31)).toInt32) &&& 1431655765)) &&& 858993459) + ((((p0 - (((p0.toUInt32 >>> (Int32.toUInt32 1 &&& Int32.toUInt32 31)).toInt32) &&& 1431655765)).toUInt32 >>> (Int32.toUInt32 2 &&& Int32.toUInt32 31)).toInt32) &&& 858993459)).toUInt32 >>> (Int32.toUInt32 4 &&& Int32.toUInt32 31)).toInt32)) &&& 252645135) + (((((((p0 - (((p0.toUInt32 >>> (Int32.toUInt32 1 &&& Int32.toUInt32 31)).toInt32) &&& 1431655765)) &&& 858993459) + ((((p0 - (((p0.toUInt32 >>> (Int32.toUInt32 1 &&& Int32.toUInt32 31)).toInt32) &&& 1431655765)).toUInt32 >>> (Int32.toUInt32 2 &&& Int32.toUInt32 31)).toInt32) &&& 858993459)) + (((((p0 - (((p0.toUInt32 >>> (Int32.toUInt32 1 &&& Int32.toUInt32 31)).toInt32) &&& 1431655765)) &&& 858993459) + ((((p0 - (((p0.toUInt32 >>> (Int32.toUInt32 1 &&& Int32.toUInt32 31)).toInt32) &&& 1431655765)).toUInt32 >>> (Int32.toUInt32 2 &&& Int32.toUInt32 31)).toInt32) &&& 858993459)).toUInt32 >>> (Int32.toUInt32 4 &&& Int32.toUInt32 31)).toInt32)) &&& 252645135).toUInt32 >>> (Int32.toUInt32 8 &&& Int32.toUInt32 31)).toInt32)))]) d_bitCount_40 rfl (by decide) rfl ?_
  refine Y_iload_n (pc := 41) hC d_bitCount_41 rfl 0 rfl ?_
  refine Y_iload_n (pc := 42) hC d_bitCount_42 rfl 0 rfl ?_
  refine Y_bipush (pc := 43) hC d_bitCount_43 kb_16 ?_
  refine Y_iushr (pc := 45) hC d_bitCount_45 rfl ?_
  refine Y_iadd (pc := 46) hC d_bitCount_46 ?_
  refine Y_istore_n (pc := 47) hC (L' := [(0, .int (((((((p0 - (((p0.toUInt32 >>> (Int32.toUInt32 1 &&& Int32.toUInt32 31)).toInt32) &&& 1431655765)) &&& 858993459) + ((((p0 - (((p0.toUInt32 >>> (Int32.toUInt32 1 &&& Int32.toUInt32 31)).toInt32) &&& 1431655765)).toUInt32 >>> (Int32.toUInt32 2 &&& Int32.toUInt32 31)).toInt32) &&& 858993459)) + (((((p0 - (((p0.toUInt32 >>> (Int32.toUInt32 1 &&& Int32.toUInt32 31)).toInt32) &&& 1431655765)) &&& 858993459) + ((((p0 - (((p0.toUInt32 >>> (Int32.toUInt32 1 &&& Int32.toUInt32 31)).toInt32) &&& 1431655765)).toUInt32 >>> (Int32.toUInt32 2 &&& Int32.toUInt32 31)).toInt32) &&& 858993459)).toUInt32 >>> (Int32.toUInt32 4 &&& Int32.toUInt32 31)).toInt32)) &&& 252645135) + (((((((p0 - (((p0.toUInt32 >>> (Int32.toUInt32 1 &&& Int32.toUInt32 31)).toInt32) &&& 1431655765)) &&& 858993459) + ((((p0 - (((p0.toUInt32 >>> (Int32.toUInt32 1 &&& Int32.toUInt32 31)).toInt32) &&& 1431655765)).toUInt32 >>> (Int32.toUInt32 2 &&& Int32.toUInt32 31)).toInt32) &&& 858993459)) + (((((p0 - (((p0.toUInt32 >>> (Int32.toUInt32 1 &&& Int32.toUInt32 31)).toInt32) &&& 1431655765)) &&& 858993459) + ((((p0 - (((p0.toUInt32 >>> (Int32.toUInt32 1 &&& Int32.toUInt32 31)).toInt32) &&& 1431655765)).toUInt32 >>> (Int32.toUInt32 2 &&& Int32.toUInt32 31)).toInt32) &&& 858993459)).toUInt32 >>> (Int32.toUInt32 4 &&& Int32.toUInt32 31)).toInt32)) &&& 252645135).toUInt32 >>> (Int32.toUInt32 8 &&& Int32.toUInt32 31)).toInt32)) + ((((((((p0 - (((p0.toUInt32 >>> (Int32.toUInt32 1 &&& Int32.toUInt32 31)).toInt32) &&& 1431655765)) &&& 858993459) + ((((p0 - (((p0.toUInt32 >>> (Int32.toUInt32 1 &&& Int32.toUInt32 31)).toInt32) &&& 1431655765)).toUInt32 >>> (Int32.toUInt32 2 &&& Int32.toUInt32 31)).toInt32) &&& 858993459)) + (((((p0 - (((p0.toUInt32 >>> (Int32.toUInt32 1 &&& Int32.toUInt32 31)).toInt32) &&& 1431655765)) &&& 858993459) + ((((p0 - (((p0.toUInt32 >>> (Int32.toUInt32 1 &&& Int32.toUInt32 31)).toInt32) &&& 1431655765)).toUInt32 >>> (Int32.toUInt32 2 &&& Int32.toUInt32 31)).toInt32) &&& 858993459)).toUInt32 >>> (Int32.toUInt32 4 &&& Int32.toUInt32 31)).toInt32)) &&& 252645135) + (((((((p0 - (((p0.toUInt32 >>> (Int32.toUInt32 1 &&& Int32.toUInt32 31)).toInt32) &&& 1431655765)) &&& 858993459) + ((((p0 - (((p0.toUInt32 >>> (Int32.toUInt32 1 &&& Int32.toUInt32 31)).toInt32) &&& 1431655765)).toUInt32 >>> (Int32.toUInt32 2 &&& Int32.toUInt32 31)).toInt32) &&& 858993459)) + (((((p0 - (((p0.toUInt32 >>> (Int32.toUInt32 1 &&& Int32.toUInt32 31)).toInt32) &&& 1431655765)) &&& 858993459) + ((((p0 - (((p0.toUInt32 >>> (Int32.toUInt32 1 &&& Int32.toUInt32 31)).toInt32) &&& 1431655765)).toUInt32 >>> (Int32.toUInt32 2 &&& Int32.toUInt32 31)).toInt32) &&& 858993459)).toUInt32 >>> (Int32.toUInt32 4 &&& Int32.toUInt32 31)).toInt32)) &&& 252645135).toUInt32 >>> (Int32.toUInt32 8 &&& Int32.toUInt32 31)).toInt32)).toUInt32 >>> (Int32.toUInt32 16 &&& Int32.toUInt32 31)).toInt32)))]) d_bitCount_47 rfl (by decide) rfl ?_
  refine Y_iload_n (pc := 48) hC d_bitCount_48 rfl 0 rfl ?_
  refine Y_bipush (pc := 49) hC d_bitCount_49 kb_63 ?_
  refine Y_iand (pc := 51) hC d_bitCount_51 ?_
  exact Y_iret (pc := 52) hC hE d_bitCount_52 h
set_option maxHeartbeats 4000000 in
set_option maxRecDepth 100000 in
theorem c_Ly_isAlignment (l : Launch) (D : va_G) (cI cZ : ClassId) (a : Nat → Nat) {V : Sto} {p0 : Int32} {r : Int32} {V' : Sto} (h : f_Ly_isAlignment V p0 = some (r, V')) : YMi l D cI cZ a shpC y_Ly_isAlignment b_Ly_isAlignment 1 (some .boolean) rm_Ly_isAlignment [.int p0] V r V' := by
  refine YMi_of (by decide) (Nat.le_of_ble_eq_true rfl) ?_
  intro C hl hDD hcI hcZ ha hC hE
  subst hl hDD hcI hcZ ha
  show Y C shpC 1 0 [(0, .int p0)] [] V
  rw [f_Ly_isAlignment] at h
  refine Y_iload_n (pc := 0) hC d_Ly_isAlignment_0 rfl 0 rfl ?_
  refine Y_iconst (pc := 1) hC d_Ly_isAlignment_1 ki_4 ?_
  refine Y_icmp_lt (pc := 2) hC 24 d_Ly_isAlignment_2 rfl (fun cc_2 => ?_) (fun cc_2 => ?_)
  · have h := ifp cc_2 h
    refine Y_iconst (pc := 24) hC d_Ly_isAlignment_24 ki_0 ?_
    exact Y_zret (pc := 25) hC hE d_Ly_isAlignment_25 rfl h
  · have h := ifn cc_2 h
    refine Y_iload_n (pc := 5) hC d_Ly_isAlignment_5 rfl 0 rfl ?_
    refine Y_sipush (pc := 6) hC d_Ly_isAlignment_6 ks_4096 ?_
    refine Y_icmp_gt (pc := 9) hC 24 d_Ly_isAlignment_9 rfl (fun cc_9 => ?_) (fun cc_9 => ?_)
    · have h := ifp cc_9 h
      refine Y_iconst (pc := 24) hC d_Ly_isAlignment_24 ki_0 ?_
      exact Y_zret (pc := 25) hC hE d_Ly_isAlignment_25 rfl h
    · have h := ifn cc_9 h
      refine Y_iload_n (pc := 12) hC d_Ly_isAlignment_12 rfl 0 rfl ?_
      obtain ⟨r1, V1, hc_r1, h⟩ := cl_some h
      refine Y_callS (pc := 13) hC (c_bitCount C.l C.D C.cI C.cZ C.a hc_r1) ml_Ly_376 ms_bitCount (by decide) (Nat.le_of_ble_eq_true rfl) rfl d_Ly_isAlignment_13 ?_
      refine Y_iconst (pc := 16) hC d_Ly_isAlignment_16 ki_1 ?_
      refine Y_icmp_ne (pc := 17) hC 24 d_Ly_isAlignment_17 rfl (fun cc_17 => ?_) (fun cc_17 => ?_)
      · have h := ifn cc_17 h
        refine Y_iconst (pc := 24) hC d_Ly_isAlignment_24 ki_0 ?_
        exact Y_zret (pc := 25) hC hE d_Ly_isAlignment_25 rfl h
      · have h := ifp cc_17 h
        refine Y_iconst (pc := 20) hC d_Ly_isAlignment_20 ki_1 ?_
        refine Y_goto (pc := 21) hC 25 d_Ly_isAlignment_21 rfl ?_
        exact Y_zret (pc := 25) hC hE d_Ly_isAlignment_25 rfl h
set_option maxHeartbeats 4000000 in
set_option maxRecDepth 100000 in
theorem c_Ly_isOther (l : Launch) (D : va_G) (cI cZ : ClassId) (a : Nat → Nat) {V : Sto} {p0 p1 p2 : Int32} {r : Int32} {V' : Sto} (h : f_Ly_isOther V p0 p1 p2 = some (r, V')) : YMi l D cI cZ a shpC y_Ly_isOther b_Ly_isOther 3 (some .boolean) rm_Ly_isOther [.int p0, .int p1, .int p2] V r V' := by
  refine YMi_of (by decide) (Nat.le_of_ble_eq_true rfl) ?_
  intro C hl hDD hcI hcZ ha hC hE
  subst hl hDD hcI hcZ ha
  show Y C shpC 3 0 [(0, .int p0), (1, .int p1), (2, .int p2)] [] V
  rw [f_Ly_isOther] at h
  refine Y_iload_n (pc := 0) hC d_Ly_isOther_0 rfl 0 rfl ?_
  by_cases cs_1_0 : p0 = 0
  · have h := ifp cs_1_0 h
    refine Y_tableIn (pc := 1) hC (off := 27) 28 d_Ly_isOther_1 (by rw [cs_1_0]; decide) (by rw [cs_1_0]; decide) (by rw [cs_1_0]; try rfl) rfl ?_
    refine Y_iload_n (pc := 28) hC d_Ly_isOther_28 rfl 2 rfl ?_
    refine Y_iconst (pc := 29) hC d_Ly_isOther_29 ki_1 ?_
    refine Y_icmp_eq (pc := 30) hC 38 d_Ly_isOther_30 rfl (fun cc_30 => ?_) (fun cc_30 => ?_)
    · have h := ifp cc_30 h
      refine Y_iconst (pc := 38) hC d_Ly_isOther_38 ki_1 ?_
      refine Y_goto (pc := 39) hC 43 d_Ly_isOther_39 rfl ?_
      exact Y_zret (pc := 43) hC hE d_Ly_isOther_43 rfl h
    · have h := ifn cc_30 h
      refine Y_iload_n (pc := 33) hC d_Ly_isOther_33 rfl 2 rfl ?_
      refine Y_iconst (pc := 34) hC d_Ly_isOther_34 ki_2 ?_
      refine Y_icmp_ne (pc := 35) hC 42 d_Ly_isOther_35 rfl (fun cc_35 => ?_) (fun cc_35 => ?_)
      · have h := ifn cc_35 h
        refine Y_iconst (pc := 42) hC d_Ly_isOther_42 ki_0 ?_
        exact Y_zret (pc := 43) hC hE d_Ly_isOther_43 rfl h
      · have h := ifp cc_35 h
        refine Y_iconst (pc := 38) hC d_Ly_isOther_38 ki_1 ?_
        refine Y_goto (pc := 39) hC 43 d_Ly_isOther_39 rfl ?_
        exact Y_zret (pc := 43) hC hE d_Ly_isOther_43 rfl h
  · have h := ifn cs_1_0 h
    by_cases cs_1_1 : p0 = 1
    · have h := ifp cs_1_1 h
      refine Y_tableIn (pc := 1) hC (off := 43) 44 d_Ly_isOther_1 (by rw [cs_1_1]; decide) (by rw [cs_1_1]; decide) (by rw [cs_1_1]; try rfl) rfl ?_
      refine Y_iload_n (pc := 44) hC d_Ly_isOther_44 rfl 2 rfl ?_
      refine Y_if_lt (pc := 45) hC 57 d_Ly_isOther_45 rfl (fun cc_45 => ?_) (fun cc_45 => ?_)
      · have h := ifp cc_45 h
        refine Y_iconst (pc := 57) hC d_Ly_isOther_57 ki_0 ?_
        exact Y_zret (pc := 58) hC hE d_Ly_isOther_58 rfl h
      · have h := ifn cc_45 h
        refine Y_iload_n (pc := 48) hC d_Ly_isOther_48 rfl 2 rfl ?_
        refine Y_iconst (pc := 49) hC d_Ly_isOther_49 ki_2 ?_
        refine Y_icmp_gt (pc := 50) hC 57 d_Ly_isOther_50 rfl (fun cc_50 => ?_) (fun cc_50 => ?_)
        · have h := ifp cc_50 h
          refine Y_iconst (pc := 57) hC d_Ly_isOther_57 ki_0 ?_
          exact Y_zret (pc := 58) hC hE d_Ly_isOther_58 rfl h
        · have h := ifn cc_50 h
          refine Y_iconst (pc := 53) hC d_Ly_isOther_53 ki_1 ?_
          refine Y_goto (pc := 54) hC 58 d_Ly_isOther_54 rfl ?_
          exact Y_zret (pc := 58) hC hE d_Ly_isOther_58 rfl h
    · have h := ifn cs_1_1 h
      by_cases cs_1_2 : p0 = 2
      · have h := ifp cs_1_2 h
        refine Y_tableIn (pc := 1) hC (off := 58) 59 d_Ly_isOther_1 (by rw [cs_1_2]; decide) (by rw [cs_1_2]; decide) (by rw [cs_1_2]; try rfl) rfl ?_
        refine Y_iload_n (pc := 59) hC d_Ly_isOther_59 rfl 2 rfl ?_
        refine Y_iconst (pc := 60) hC d_Ly_isOther_60 ki_3 ?_
        refine Y_icmp_ne (pc := 61) hC 76 d_Ly_isOther_61 rfl (fun cc_61 => ?_) (fun cc_61 => ?_)
        · have h := ifn cc_61 h
          refine Y_iconst (pc := 76) hC d_Ly_isOther_76 ki_0 ?_
          exact Y_zret (pc := 77) hC hE d_Ly_isOther_77 rfl h
        · have h := ifp cc_61 h
          refine Y_iload_n (pc := 64) hC d_Ly_isOther_64 rfl 1 rfl ?_
          refine Y_iconst (pc := 65) hC d_Ly_isOther_65 ki_4 ?_
          obtain ⟨r1, V1, hc_r1, h⟩ := cl_some h
          refine Y_callS (pc := 66) hC (c_Ly_isSize C.l C.D C.cI C.cZ C.a hc_r1) ml_Ly_136 ms_Ly_isSize (by decide) (Nat.le_of_ble_eq_true rfl) rfl d_Ly_isOther_66 ?_
          refine Y_if_eq (pc := 69) hC 76 d_Ly_isOther_69 rfl (fun cc_69 => ?_) (fun cc_69 => ?_)
          · have h := ifp cc_69 h
            refine Y_iconst (pc := 76) hC d_Ly_isOther_76 ki_0 ?_
            exact Y_zret (pc := 77) hC hE d_Ly_isOther_77 rfl h
          · have h := ifn cc_69 h
            refine Y_iconst (pc := 72) hC d_Ly_isOther_72 ki_1 ?_
            refine Y_goto (pc := 73) hC 77 d_Ly_isOther_73 rfl ?_
            exact Y_zret (pc := 77) hC hE d_Ly_isOther_77 rfl h
      · have h := ifn cs_1_2 h
        have cn_0 := i32_ne cs_1_0
        have cn_1 := i32_ne cs_1_1
        have cn_2 := i32_ne cs_1_2
        simp only [i32lit_0, i32lit_1, i32lit_2] at cn_0 cn_1 cn_2
        refine Y_tableOut (pc := 1) hC 78 d_Ly_isOther_1 (by omega) rfl ?_
        refine Y_iconst (pc := 78) hC d_Ly_isOther_78 ki_0 ?_
        exact Y_zret (pc := 79) hC hE d_Ly_isOther_79 rfl h
set_option maxHeartbeats 4000000 in
set_option maxRecDepth 100000 in
theorem c_Ly_formOfOther (l : Launch) (D : va_G) (cI cZ : ClassId) (a : Nat → Nat) {V : Sto} {p0 : Int32} {r : Int32} {V' : Sto} (h : f_Ly_formOfOther V p0 = some (r, V')) : YMi l D cI cZ a shpC y_Ly_formOfOther b_Ly_formOfOther 1 (some .int) rm_Ly_formOfOther [.int p0] V r V' := by
  refine YMi_of (by decide) (Nat.le_of_ble_eq_true rfl) ?_
  intro C hl hDD hcI hcZ ha hC hE
  subst hl hDD hcI hcZ ha
  show Y C shpC 1 0 [(0, .int p0)] [] V
  rw [f_Ly_formOfOther] at h
  refine Y_iload_n (pc := 0) hC d_Ly_formOfOther_0 rfl 0 rfl ?_
  by_cases cs_1_0 : p0 = 1
  · have h := ifp cs_1_0 h
    refine Y_lookup (pc := 1) hC (off := 27) 28 d_Ly_formOfOther_1 (by decide) (by rw [cs_1_0]; try rfl) rfl ?_
    refine Y_iconst (pc := 28) hC d_Ly_formOfOther_28 ki_2 ?_
    exact Y_iret (pc := 29) hC hE d_Ly_formOfOther_29 h
  · have h := ifn cs_1_0 h
    by_cases cs_1_1 : p0 = 2
    · have h := ifp cs_1_1 h
      refine Y_lookup (pc := 1) hC (off := 29) 30 d_Ly_formOfOther_1 (by decide) (by rw [cs_1_1]; try rfl) rfl ?_
      refine Y_iconst (pc := 30) hC d_Ly_formOfOther_30 ki_3 ?_
      exact Y_iret (pc := 31) hC hE d_Ly_formOfOther_31 h
    · have h := ifn cs_1_1 h
      have cn_0 := i32_ne cs_1_0
      have cn_1 := i32_ne cs_1_1
      simp only [i32lit_1, i32lit_2] at cn_0 cn_1
      refine Y_lookup (pc := 1) hC (off := 31) 32 d_Ly_formOfOther_1 (by decide) (by simp [Op.lookupswitch.offset, Ne.symm cn_0, cn_0, Ne.symm cn_1, cn_1]) rfl ?_
      refine Y_iconst (pc := 32) hC d_Ly_formOfOther_32 ki_0 ?_
      exact Y_iret (pc := 33) hC hE d_Ly_formOfOther_33 h
set_option maxHeartbeats 4000000 in
set_option maxRecDepth 100000 in
theorem c_Un_has (l : Launch) (D : va_G) (cI cZ : ClassId) (a : Nat → Nat) {V : Sto} {p1 : Int32} {r : Int32} {V' : Sto} (h : f_Un_has V p1 = some (r, V')) : YMi l D cI cZ a shpC y_Un_has b_Un_has 2 (some .boolean) rm_Un_has [.ref (a 1), .int p1] V r V' := by
  refine YMi_of (by decide) (Nat.le_of_ble_eq_true rfl) ?_
  intro C hl hDD hcI hcZ ha hC hE
  subst hl hDD hcI hcZ ha
  show Y C shpC 2 0 [(0, .ref (C.a 1)), (1, .int p1)] [] V
  rw [f_Un_has] at h
  refine Y_iload_n (pc := 0) hC d_Un_has_0 rfl 1 rfl ?_
  refine Y_if_lt (pc := 1) hC 16 d_Un_has_1 rfl (fun cc_1 => ?_) (fun cc_1 => ?_)
  · have h := ifp cc_1 h
    refine Y_iconst (pc := 16) hC d_Un_has_16 ki_0 ?_
    exact Y_zret (pc := 17) hC hE d_Un_has_17 rfl h
  · have h := ifn cc_1 h
    refine Y_iload_n (pc := 4) hC d_Un_has_4 rfl 1 rfl ?_
    refine Y_aload_n (pc := 5) hC d_Un_has_5 rfl 0 rfl ?_
    refine Y_getI (pc := 6) hC sc_1 fl_Un_19 rfl d_Un_has_6 ?_
    refine Y_icmp_ge (pc := 9) hC 16 d_Un_has_9 rfl (fun cc_9 => ?_) (fun cc_9 => ?_)
    · have h := ifp cc_9 h
      refine Y_iconst (pc := 16) hC d_Un_has_16 ki_0 ?_
      exact Y_zret (pc := 17) hC hE d_Un_has_17 rfl h
    · have h := ifn cc_9 h
      refine Y_iconst (pc := 12) hC d_Un_has_12 ki_1 ?_
      refine Y_goto (pc := 13) hC 17 d_Un_has_13 rfl ?_
      exact Y_zret (pc := 17) hC hE d_Un_has_17 rfl h
set_option maxHeartbeats 4000000 in
set_option maxRecDepth 100000 in
theorem c_Un_add (l : Launch) (D : va_G) (cI cZ : ClassId) (a : Nat → Nat) {V : Sto} {p1 : Int32} {r : Int32} {V' : Sto} (h : f_Un_add V p1 = some (r, V')) : YMi l D cI cZ a shpC y_Un_add b_Un_add 2 (some .int) rm_Un_add [.ref (a 1), .int p1] V r V' := by
  refine YMi_of (by decide) (Nat.le_of_ble_eq_true rfl) ?_
  intro C hl hDD hcI hcZ ha hC hE
  subst hl hDD hcI hcZ ha
  show Y C shpC 2 0 [(0, .ref (C.a 1)), (1, .int p1)] [] V
  rw [f_Un_add] at h
  refine Y_aload_n (pc := 0) hC d_Un_add_0 rfl 0 rfl ?_
  refine Y_getR (pc := 1) hC sc_1 fl_Un_9 rfl d_Un_add_1 ?_
  refine Y_aload_n (pc := 4) hC d_Un_add_4 rfl 0 rfl ?_
  refine Y_getI (pc := 5) hC sc_1 fl_Un_19 rfl d_Un_add_5 ?_
  refine Y_iload_n (pc := 8) hC d_Un_add_8 rfl 1 rfl ?_
  obtain ⟨hi, h⟩ := ck_some h
  obtain ⟨V1, hV1, h⟩ := nm_some h
  refine Y_iast (pc := 9) hC sc_12 (by decide) rfl hi rfl hV1 d_Un_add_9 ?_
  refine Y_aload_n (pc := 10) hC d_Un_add_10 rfl 0 rfl ?_
  refine Y_getR (pc := 11) hC sc_1 fl_Un_15 rfl d_Un_add_11 ?_
  refine Y_aload_n (pc := 14) hC d_Un_add_14 rfl 0 rfl ?_
  refine Y_getI (pc := 15) hC sc_1 fl_Un_19 rfl d_Un_add_15 ?_
  refine Y_iconst (pc := 18) hC d_Un_add_18 ki_0 ?_
  obtain ⟨hi, h⟩ := ck_some h
  obtain ⟨V2, hV2, h⟩ := nm_some h
  refine Y_zast (pc := 19) hC sc_13 (by decide) rfl hi rfl hV2 d_Un_add_19 ?_
  refine Y_aload_n (pc := 20) hC d_Un_add_20 rfl 0 rfl ?_
  refine Y_dup (pc := 21) hC d_Un_add_21 rfl ?_
  refine Y_getI (pc := 22) hC sc_1 fl_Un_19 rfl d_Un_add_22 ?_
  refine Y_dup_x1 (pc := 25) hC d_Un_add_25 rfl rfl ?_
  refine Y_iconst (pc := 26) hC d_Un_add_26 ki_1 ?_
  refine Y_iadd (pc := 27) hC d_Un_add_27 ?_
  obtain ⟨V3, hV3, h⟩ := nm_some h
  refine Y_put (pc := 28) hC sc_1 fl_Un_19 rfl (by decide) fp_Un ft_Un_0 rfl rfl hV3 d_Un_add_28 ?_
  exact Y_iret (pc := 31) hC hE d_Un_add_31 h
set_option maxHeartbeats 4000000 in
set_option maxRecDepth 100000 in
theorem ylp_Un_countIn_4 {C : YC} {r : Int32} {V' : Sto} {k30 : Int32 → Sto → RT} (hC : YF C R_Un b_Un_countIn 3 rm_Un_countIn) (hE : YEi C .int shpC r V') (hk30 : ∀ (y1 : Int32) (V1 : Sto), k30 y1 V1 = some (r, V') → Y C shpC 3 30 [(1, .int y1)] [] V1) : ∀ (n : Nat) (x1 x2 : Int32) (V : Sto), lp_Un_countIn_4 k30 n x1 x2 V = some (r, V') → Y C shpC 3 4 [(0, .ref (C.a 1)), (1, .int x1), (2, .int x2)] [] V := by
  intro n
  induction n with
  | zero =>
    intro x1 x2 V h
    rw [lp_Un_countIn_4] at h
    cases h
  | succ n ih =>
    intro x1 x2 V h
    rw [lp_Un_countIn_4] at h
    refine Y_iload_n (pc := 4) hC d_Un_countIn_4 rfl 2 rfl ?_
    refine Y_aload_n (pc := 5) hC d_Un_countIn_5 rfl 0 rfl ?_
    refine Y_getI (pc := 6) hC sc_1 fl_Un_19 rfl d_Un_countIn_6 ?_
    refine Y_icmp_ge (pc := 9) hC 30 d_Un_countIn_9 rfl (fun cc_9 => ?_) (fun cc_9 => ?_)
    · have h := ifp cc_9 h
      refine Y_sub (pc := 30) [1] rfl ?_
      exact hk30 _ _ h
    · have h := ifn cc_9 h
      refine Y_aload_n (pc := 12) hC d_Un_countIn_12 rfl 0 rfl ?_
      refine Y_getR (pc := 13) hC sc_1 fl_Un_15 rfl d_Un_countIn_13 ?_
      refine Y_iload_n (pc := 16) hC d_Un_countIn_16 rfl 2 rfl ?_
      obtain ⟨hi, h⟩ := ck_some h
      refine Y_zald (pc := 17) hC sc_13 rfl hi d_Un_countIn_17 ?_
      refine Y_if_eq (pc := 18) hC 24 d_Un_countIn_18 rfl (fun cc_18 => ?_) (fun cc_18 => ?_)
      · have h := ifp cc_18 h
        refine Y_iinc (pc := 24) hC (v := x2 + 1) (L' := [(2, .int (x2 + 1)), (0, .ref (C.a 1)), (1, .int x1)]) d_Un_countIn_24 2 rfl rfl (by decide) rfl ?_
        refine Y_goto (pc := 27) hC 4 d_Un_countIn_27 rfl ?_
        refine Y_sub (pc := 4) [1, 2, 0] rfl ?_
        exact ih _ _ _ h
      · have h := ifn cc_18 h
        refine Y_iinc (pc := 21) hC (v := x1 + 1) (L' := [(1, .int (x1 + 1)), (0, .ref (C.a 1)), (2, .int x2)]) d_Un_countIn_21 1 rfl rfl (by decide) rfl ?_
        refine Y_iinc (pc := 24) hC (v := x2 + 1) (L' := [(2, .int (x2 + 1)), (1, .int (x1 + 1)), (0, .ref (C.a 1))]) d_Un_countIn_24 2 rfl rfl (by decide) rfl ?_
        refine Y_goto (pc := 27) hC 4 d_Un_countIn_27 rfl ?_
        refine Y_sub (pc := 4) [2, 1, 0] rfl ?_
        exact ih _ _ _ h
set_option maxHeartbeats 4000000 in
set_option maxRecDepth 100000 in
theorem c_Un_countIn (l : Launch) (D : va_G) (cI cZ : ClassId) (a : Nat → Nat) {V : Sto} {r : Int32} {V' : Sto} (h : f_Un_countIn V = some (r, V')) : YMi l D cI cZ a shpC y_Un_countIn b_Un_countIn 3 (some .int) rm_Un_countIn [.ref (a 1)] V r V' := by
  refine YMi_of (by decide) (Nat.le_of_ble_eq_true rfl) ?_
  intro C hl hDD hcI hcZ ha hC hE
  subst hl hDD hcI hcZ ha
  show Y C shpC 3 0 [(0, .ref (C.a 1))] [] V
  rw [f_Un_countIn] at h
  refine Y_iconst (pc := 0) hC d_Un_countIn_0 ki_0 ?_
  refine Y_istore_n (pc := 1) hC (L' := [(1, .int 0), (0, .ref (C.a 1))]) d_Un_countIn_1 rfl (by decide) rfl ?_
  refine Y_iconst (pc := 2) hC d_Un_countIn_2 ki_0 ?_
  refine Y_istore_n (pc := 3) hC (L' := [(2, .int 0), (1, .int 0), (0, .ref (C.a 1))]) d_Un_countIn_3 rfl (by decide) rfl ?_
  refine Y_sub (pc := 4) [2, 1, 0] rfl ?_
  refine ylp_Un_countIn_4 hC hE (fun y1 V1 h => ?_) FU _ _ _ h
  refine Y_iload_n (pc := 30) hC d_Un_countIn_30 rfl 0 rfl ?_
  exact Y_iret (pc := 31) hC hE d_Un_countIn_31 h
set_option maxHeartbeats 4000000 in
set_option maxRecDepth 100000 in
theorem c_Se_has (l : Launch) (D : va_G) (cI cZ : ClassId) (a : Nat → Nat) {V : Sto} {p1 : Int32} {r : Int32} {V' : Sto} (h : f_Se_has V p1 = some (r, V')) : YMi l D cI cZ a shpC y_Se_has b_Se_has 2 (some .boolean) rm_Se_has [.ref (a 2), .int p1] V r V' := by
  refine YMi_of (by decide) (Nat.le_of_ble_eq_true rfl) ?_
  intro C hl hDD hcI hcZ ha hC hE
  subst hl hDD hcI hcZ ha
  show Y C shpC 2 0 [(0, .ref (C.a 2)), (1, .int p1)] [] V
  rw [f_Se_has] at h
  refine Y_iload_n (pc := 0) hC d_Se_has_0 rfl 1 rfl ?_
  refine Y_if_lt (pc := 1) hC 16 d_Se_has_1 rfl (fun cc_1 => ?_) (fun cc_1 => ?_)
  · have h := ifp cc_1 h
    refine Y_iconst (pc := 16) hC d_Se_has_16 ki_0 ?_
    exact Y_zret (pc := 17) hC hE d_Se_has_17 rfl h
  · have h := ifn cc_1 h
    refine Y_iload_n (pc := 4) hC d_Se_has_4 rfl 1 rfl ?_
    refine Y_aload_n (pc := 5) hC d_Se_has_5 rfl 0 rfl ?_
    refine Y_getI (pc := 6) hC sc_2 fl_Se_34 rfl d_Se_has_6 ?_
    refine Y_icmp_ge (pc := 9) hC 16 d_Se_has_9 rfl (fun cc_9 => ?_) (fun cc_9 => ?_)
    · have h := ifp cc_9 h
      refine Y_iconst (pc := 16) hC d_Se_has_16 ki_0 ?_
      exact Y_zret (pc := 17) hC hE d_Se_has_17 rfl h
    · have h := ifn cc_9 h
      refine Y_iconst (pc := 12) hC d_Se_has_12 ki_1 ?_
      refine Y_goto (pc := 13) hC 17 d_Se_has_13 rfl ?_
      exact Y_zret (pc := 17) hC hE d_Se_has_17 rfl h
set_option maxHeartbeats 4000000 in
set_option maxRecDepth 100000 in
theorem c_Se_hasWord (l : Launch) (D : va_G) (cI cZ : ClassId) (a : Nat → Nat) {V : Sto} {p1 p2 : Int32} {r : Int32} {V' : Sto} (h : f_Se_hasWord V p1 p2 = some (r, V')) : YMi l D cI cZ a shpC y_Se_hasWord b_Se_hasWord 3 (some .boolean) rm_Se_hasWord [.ref (a 2), .int p1, .int p2] V r V' := by
  refine YMi_of (by decide) (Nat.le_of_ble_eq_true rfl) ?_
  intro C hl hDD hcI hcZ ha hC hE
  subst hl hDD hcI hcZ ha
  show Y C shpC 3 0 [(0, .ref (C.a 2)), (1, .int p1), (2, .int p2)] [] V
  rw [f_Se_hasWord] at h
  refine Y_aload_n (pc := 0) hC d_Se_hasWord_0 rfl 0 rfl ?_
  refine Y_iload_n (pc := 1) hC d_Se_hasWord_1 rfl 1 rfl ?_
  obtain ⟨r1, V1, hc_r1, h⟩ := cl_some h
  refine Y_callV (pc := 2) hC (c_Se_has C.l C.D C.cI C.cZ C.a hc_r1) sc_2 cls_Se ml_Se_38 mv_Se_has (by decide) (Nat.le_of_ble_eq_true rfl) rfl d_Se_hasWord_2 ?_
  refine Y_if_eq (pc := 5) hC 42 d_Se_hasWord_5 rfl (fun cc_5 => ?_) (fun cc_5 => ?_)
  · have h := ifp cc_5 h
    refine Y_iconst (pc := 42) hC d_Se_hasWord_42 ki_0 ?_
    exact Y_zret (pc := 43) hC hE d_Se_hasWord_43 rfl h
  · have h := ifn cc_5 h
    refine Y_aload_n (pc := 8) hC d_Se_hasWord_8 rfl 0 rfl ?_
    refine Y_getR (pc := 9) hC sc_2 fl_Se_18 rfl d_Se_hasWord_9 ?_
    refine Y_iload_n (pc := 12) hC d_Se_hasWord_12 rfl 1 rfl ?_
    obtain ⟨hi, h⟩ := ck_some h
    refine Y_iald (pc := 13) hC sc_16 rfl hi d_Se_hasWord_13 ?_
    refine Y_iconst (pc := 14) hC d_Se_hasWord_14 ki_2 ?_
    refine Y_icmp_eq (pc := 15) hC 42 d_Se_hasWord_15 rfl (fun cc_15 => ?_) (fun cc_15 => ?_)
    · have h := ifp cc_15 h
      refine Y_iconst (pc := 42) hC d_Se_hasWord_42 ki_0 ?_
      exact Y_zret (pc := 43) hC hE d_Se_hasWord_43 rfl h
    · have h := ifn cc_15 h
      refine Y_iload_n (pc := 18) hC d_Se_hasWord_18 rfl 2 rfl ?_
      refine Y_if_lt (pc := 19) hC 42 d_Se_hasWord_19 rfl (fun cc_19 => ?_) (fun cc_19 => ?_)
      · have h := ifp cc_19 h
        refine Y_iconst (pc := 42) hC d_Se_hasWord_42 ki_0 ?_
        exact Y_zret (pc := 43) hC hE d_Se_hasWord_43 rfl h
      · have h := ifn cc_19 h
        refine Y_iload_n (pc := 22) hC d_Se_hasWord_22 rfl 2 rfl ?_
        refine Y_aload_n (pc := 23) hC d_Se_hasWord_23 rfl 0 rfl ?_
        refine Y_getR (pc := 24) hC sc_2 fl_Se_21 rfl d_Se_hasWord_24 ?_
        refine Y_iload_n (pc := 27) hC d_Se_hasWord_27 rfl 1 rfl ?_
        obtain ⟨hi, h⟩ := ck_some h
        refine Y_iald (pc := 28) hC sc_17 rfl hi d_Se_hasWord_28 ?_
        refine Y_icmp_ge (pc := 29) hC 42 d_Se_hasWord_29 rfl (fun cc_29 => ?_) (fun cc_29 => ?_)
        · have h := ifp cc_29 h
          refine Y_iconst (pc := 42) hC d_Se_hasWord_42 ki_0 ?_
          exact Y_zret (pc := 43) hC hE d_Se_hasWord_43 rfl h
        · have h := ifn cc_29 h
          refine Y_iload_n (pc := 32) hC d_Se_hasWord_32 rfl 2 rfl ?_
          refine Y_iconst (pc := 33) hC d_Se_hasWord_33 ki_4 ?_
          refine Y_irem (pc := 34) hC d_Se_hasWord_34 (by decide) ?_
          refine Y_if_ne (pc := 35) hC 42 d_Se_hasWord_35 rfl (fun cc_35 => ?_) (fun cc_35 => ?_)
          · have h := ifn cc_35 h
            refine Y_iconst (pc := 42) hC d_Se_hasWord_42 ki_0 ?_
            exact Y_zret (pc := 43) hC hE d_Se_hasWord_43 rfl h
          · have h := ifp cc_35 h
            refine Y_iconst (pc := 38) hC d_Se_hasWord_38 ki_1 ?_
            refine Y_goto (pc := 39) hC 43 d_Se_hasWord_39 rfl ?_
            exact Y_zret (pc := 43) hC hE d_Se_hasWord_43 rfl h
set_option maxHeartbeats 4000000 in
set_option maxRecDepth 100000 in
theorem c_Se_roomier (l : Launch) (D : va_G) (cI cZ : ClassId) (a : Nat → Nat) {V : Sto} {p0 : Int32} {r : Int32} {V' : Sto} (h : f_Se_roomier V p0 = some (r, V')) : YMi l D cI cZ a shpC y_Se_roomier b_Se_roomier 1 (some .int) rm_Se_roomier [.int p0] V r V' := by
  refine YMi_of (by decide) (Nat.le_of_ble_eq_true rfl) ?_
  intro C hl hDD hcI hcZ ha hC hE
  subst hl hDD hcI hcZ ha
  show Y C shpC 1 0 [(0, .int p0)] [] V
  rw [f_Se_roomier] at h
  refine Y_iconst (pc := 0) hC d_Se_roomier_0 ki_2 ?_
  refine Y_iload_n (pc := 1) hC d_Se_roomier_1 rfl 0 rfl ?_
  refine Y_imul (pc := 2) hC d_Se_roomier_2 ?_
  refine Y_ldc (pc := 3) hC kc_Se_72 d_Se_roomier_3 ?_
  refine Y_mmin (pc := 5) hC mm_Se_73 (by decide) (Nat.le_of_ble_eq_true rfl) d_Se_roomier_5 ?_
  exact Y_iret (pc := 8) hC hE d_Se_roomier_8 h
set_option maxHeartbeats 4000000 in
set_option maxRecDepth 100000 in
theorem c_Se_write (l : Launch) (D : va_G) (cI cZ : ClassId) (a : Nat → Nat) {V : Sto} {p1 p2 p3 : Int32} {r : Int32} {V' : Sto} (h : f_Se_write V p1 p2 p3 = some (r, V')) : YMv l D cI cZ a shpC y_Se_write b_Se_write 4 rm_Se_write [.ref (a 2), .int p1, .int p2, .int p3] V V' := by
  refine YMv_of (by decide) (Nat.le_of_ble_eq_true rfl) ?_
  intro C hl hDD hcI hcZ ha hC hE
  subst hl hDD hcI hcZ ha
  show Y C shpC 4 0 [(0, .ref (C.a 2)), (1, .int p1), (2, .int p2), (3, .int p3)] [] V
  rw [f_Se_write] at h
  refine Y_aload_n (pc := 0) hC d_Se_write_0 rfl 0 rfl ?_
  refine Y_getR (pc := 1) hC sc_2 fl_Se_9 rfl d_Se_write_1 ?_
  refine Y_aload_n (pc := 4) hC d_Se_write_4 rfl 0 rfl ?_
  refine Y_getR (pc := 5) hC sc_2 fl_Se_27 rfl d_Se_write_5 ?_
  refine Y_iload_n (pc := 8) hC d_Se_write_8 rfl 1 rfl ?_
  obtain ⟨hi, h⟩ := ck_some h
  refine Y_iald (pc := 9) hC sc_19 rfl hi d_Se_write_9 ?_
  refine Y_iload_n (pc := 10) hC d_Se_write_10 rfl 2 rfl ?_
  refine Y_iconst (pc := 11) hC d_Se_write_11 ki_4 ?_
  refine Y_idiv (pc := 12) hC d_Se_write_12 (by decide) ?_
  refine Y_iadd (pc := 13) hC d_Se_write_13 ?_
  refine Y_iload_n (pc := 14) hC d_Se_write_14 rfl 3 rfl ?_
  obtain ⟨hi, h⟩ := ck_some h
  obtain ⟨V1, hV1, h⟩ := nm_some h
  refine Y_iast (pc := 15) hC sc_14 (by decide) rfl hi rfl hV1 d_Se_write_15 ?_
  exact Y_vret (pc := 16) hC hE d_Se_write_16 h
set_option maxHeartbeats 4000000 in
set_option maxRecDepth 100000 in
theorem c_Sy_has (l : Launch) (D : va_G) (cI cZ : ClassId) (a : Nat → Nat) {V : Sto} {p1 : Int32} {r : Int32} {V' : Sto} (h : f_Sy_has V p1 = some (r, V')) : YMi l D cI cZ a shpC y_Sy_has b_Sy_has 2 (some .boolean) rm_Sy_has [.ref (a 3), .int p1] V r V' := by
  refine YMi_of (by decide) (Nat.le_of_ble_eq_true rfl) ?_
  intro C hl hDD hcI hcZ ha hC hE
  subst hl hDD hcI hcZ ha
  show Y C shpC 2 0 [(0, .ref (C.a 3)), (1, .int p1)] [] V
  rw [f_Sy_has] at h
  refine Y_iload_n (pc := 0) hC d_Sy_has_0 rfl 1 rfl ?_
  refine Y_if_lt (pc := 1) hC 16 d_Sy_has_1 rfl (fun cc_1 => ?_) (fun cc_1 => ?_)
  · have h := ifp cc_1 h
    refine Y_iconst (pc := 16) hC d_Sy_has_16 ki_0 ?_
    exact Y_zret (pc := 17) hC hE d_Sy_has_17 rfl h
  · have h := ifn cc_1 h
    refine Y_iload_n (pc := 4) hC d_Sy_has_4 rfl 1 rfl ?_
    refine Y_aload_n (pc := 5) hC d_Sy_has_5 rfl 0 rfl ?_
    refine Y_getI (pc := 6) hC sc_3 fl_Sy_30 rfl d_Sy_has_6 ?_
    refine Y_icmp_ge (pc := 9) hC 16 d_Sy_has_9 rfl (fun cc_9 => ?_) (fun cc_9 => ?_)
    · have h := ifp cc_9 h
      refine Y_iconst (pc := 16) hC d_Sy_has_16 ki_0 ?_
      exact Y_zret (pc := 17) hC hE d_Sy_has_17 rfl h
    · have h := ifn cc_9 h
      refine Y_iconst (pc := 12) hC d_Sy_has_12 ki_1 ?_
      refine Y_goto (pc := 13) hC 17 d_Sy_has_13 rfl ?_
      exact Y_zret (pc := 17) hC hE d_Sy_has_17 rfl h
set_option maxHeartbeats 4000000 in
set_option maxRecDepth 100000 in
theorem ylp_Sy_clashes_9 {C : YC} {r : Int32} {V' : Sto} {x1 : Int32} {x2 : Int32} {k50 : Sto → RT} {k58 : Sto → RT} (hC : YF C R_Sy b_Sy_clashes 5 rm_Sy_clashes) (hE : YEi C .boolean shpC r V') (hk50 : ∀ (V1 : Sto), k50 V1 = some (r, V') → Y C shpC 5 50 [] [] V1) (hk58 : ∀ (V1 : Sto), k58 V1 = some (r, V') → Y C shpC 5 58 [] [] V1) : ∀ (n : Nat) (x4 : Int32) (V : Sto), lp_Sy_clashes_9 x1 x2 k50 k58 n x4 V = some (r, V') → Y C shpC 5 9 [(0, .ref (C.a 3)), (1, .int x1), (2, .int x2), (4, .int x4)] [] V := by
  intro n
  induction n with
  | zero =>
    intro x4 V h
    rw [lp_Sy_clashes_9] at h
    cases h
  | succ n ih =>
    intro x4 V h
    rw [lp_Sy_clashes_9] at h
    refine Y_iload (pc := 9) hC d_Sy_clashes_9 3 rfl ?_
    refine Y_aload_n (pc := 11) hC d_Sy_clashes_11 rfl 0 rfl ?_
    refine Y_getI (pc := 12) hC sc_3 fl_Sy_30 rfl d_Sy_clashes_12 ?_
    refine Y_icmp_ge (pc := 15) hC 58 d_Sy_clashes_15 rfl (fun cc_15 => ?_) (fun cc_15 => ?_)
    · have h := ifp cc_15 h
      refine Y_sub (pc := 58) [] rfl ?_
      exact hk58 _ h
    · have h := ifn cc_15 h
      refine Y_aload_n (pc := 18) hC d_Sy_clashes_18 rfl 0 rfl ?_
      refine Y_getR (pc := 19) hC sc_3 fl_Sy_9 rfl d_Sy_clashes_19 ?_
      refine Y_iload (pc := 22) hC d_Sy_clashes_22 3 rfl ?_
      obtain ⟨hi, h⟩ := ck_some h
      refine Y_iald (pc := 24) hC sc_21 rfl hi d_Sy_clashes_24 ?_
      refine Y_iload_n (pc := 25) hC d_Sy_clashes_25 rfl 1 rfl ?_
      refine Y_icmp_ne (pc := 26) hC 52 d_Sy_clashes_26 rfl (fun cc_26 => ?_) (fun cc_26 => ?_)
      · have h := ifn cc_26 h
        refine Y_iinc (pc := 52) hC (v := x4 + 1) (L' := [(4, .int (x4 + 1)), (0, .ref (C.a 3)), (1, .int x1), (2, .int x2)]) d_Sy_clashes_52 3 rfl rfl (by decide) rfl ?_
        refine Y_goto (pc := 55) hC 9 d_Sy_clashes_55 rfl ?_
        refine Y_sub (pc := 9) [1, 2, 3, 0] rfl ?_
        exact ih _ _ h
      · have h := ifp cc_26 h
        refine Y_aload_n (pc := 29) hC d_Sy_clashes_29 rfl 0 rfl ?_
        refine Y_getR (pc := 30) hC sc_3 fl_Sy_15 rfl d_Sy_clashes_30 ?_
        refine Y_iload (pc := 33) hC d_Sy_clashes_33 3 rfl ?_
        obtain ⟨hi, h⟩ := ck_some h
        refine Y_iald (pc := 35) hC sc_22 rfl hi d_Sy_clashes_35 ?_
        refine Y_iload_n (pc := 36) hC d_Sy_clashes_36 rfl 2 rfl ?_
        refine Y_icmp_ne (pc := 37) hC 52 d_Sy_clashes_37 rfl (fun cc_37 => ?_) (fun cc_37 => ?_)
        · have h := ifn cc_37 h
          refine Y_iinc (pc := 52) hC (v := x4 + 1) (L' := [(4, .int (x4 + 1)), (0, .ref (C.a 3)), (1, .int x1), (2, .int x2)]) d_Sy_clashes_52 3 rfl rfl (by decide) rfl ?_
          refine Y_goto (pc := 55) hC 9 d_Sy_clashes_55 rfl ?_
          refine Y_sub (pc := 9) [1, 2, 3, 0] rfl ?_
          exact ih _ _ h
        · have h := ifp cc_37 h
          refine Y_aload_n (pc := 40) hC d_Sy_clashes_40 rfl 0 rfl ?_
          refine Y_getR (pc := 41) hC sc_3 fl_Sy_18 rfl d_Sy_clashes_41 ?_
          refine Y_iload (pc := 44) hC d_Sy_clashes_44 3 rfl ?_
          obtain ⟨hi, h⟩ := ck_some h
          refine Y_iald (pc := 46) hC sc_23 rfl hi d_Sy_clashes_46 ?_
          refine Y_if_eq (pc := 47) hC 52 d_Sy_clashes_47 rfl (fun cc_47 => ?_) (fun cc_47 => ?_)
          · have h := ifp cc_47 h
            refine Y_iinc (pc := 52) hC (v := x4 + 1) (L' := [(4, .int (x4 + 1)), (0, .ref (C.a 3)), (1, .int x1), (2, .int x2)]) d_Sy_clashes_52 3 rfl rfl (by decide) rfl ?_
            refine Y_goto (pc := 55) hC 9 d_Sy_clashes_55 rfl ?_
            refine Y_sub (pc := 9) [1, 2, 3, 0] rfl ?_
            exact ih _ _ h
          · have h := ifn cc_47 h
            refine Y_sub (pc := 50) [] rfl ?_
            exact hk50 _ h
set_option maxHeartbeats 4000000 in
set_option maxRecDepth 100000 in
theorem c_Sy_clashes (l : Launch) (D : va_G) (cI cZ : ClassId) (a : Nat → Nat) {V : Sto} {p1 p2 p3 : Int32} {r : Int32} {V' : Sto} (h : f_Sy_clashes V p1 p2 p3 = some (r, V')) : YMi l D cI cZ a shpC y_Sy_clashes b_Sy_clashes 5 (some .boolean) rm_Sy_clashes [.ref (a 3), .int p1, .int p2, .int p3] V r V' := by
  refine YMi_of (by decide) (Nat.le_of_ble_eq_true rfl) ?_
  intro C hl hDD hcI hcZ ha hC hE
  subst hl hDD hcI hcZ ha
  show Y C shpC 5 0 [(0, .ref (C.a 3)), (1, .int p1), (2, .int p2), (3, .int p3)] [] V
  rw [f_Sy_clashes] at h
  refine Y_iload_n (pc := 0) hC d_Sy_clashes_0 rfl 3 rfl ?_
  refine Y_if_ne (pc := 1) hC 6 d_Sy_clashes_1 rfl (fun cc_1 => ?_) (fun cc_1 => ?_)
  · have h := ifn cc_1 h
    refine Y_iconst (pc := 6) hC d_Sy_clashes_6 ki_0 ?_
    refine Y_istore (pc := 7) hC (L' := [(4, .int 0), (0, .ref (C.a 3)), (1, .int p1), (2, .int p2), (3, .int p3)]) d_Sy_clashes_7 (by decide) rfl ?_
    refine Y_sub (pc := 9) [1, 2, 3, 0] rfl ?_
    refine ylp_Sy_clashes_9 hC hE (fun V1 h => ?_) (fun V2 h => ?_) FU _ _ h
    · have h := h
      refine Y_iconst (pc := 50) hC d_Sy_clashes_50 ki_1 ?_
      exact Y_zret (pc := 51) hC hE d_Sy_clashes_51 rfl h
    · have h := h
      refine Y_iconst (pc := 58) hC d_Sy_clashes_58 ki_0 ?_
      exact Y_zret (pc := 59) hC hE d_Sy_clashes_59 rfl h
  · have h := ifp cc_1 h
    refine Y_iconst (pc := 4) hC d_Sy_clashes_4 ki_0 ?_
    exact Y_zret (pc := 5) hC hE d_Sy_clashes_5 rfl h
set_option maxHeartbeats 4000000 in
set_option maxRecDepth 100000 in
theorem c_Sy_add (l : Launch) (D : va_G) (cI cZ : ClassId) (a : Nat → Nat) {V : Sto} {p1 p2 p3 : Int32} {r : Int32} {V' : Sto} (h : f_Sy_add V p1 p2 p3 = some (r, V')) : YMi l D cI cZ a shpC y_Sy_add b_Sy_add 4 (some .int) rm_Sy_add [.ref (a 3), .int p1, .int p2, .int p3] V r V' := by
  refine YMi_of (by decide) (Nat.le_of_ble_eq_true rfl) ?_
  intro C hl hDD hcI hcZ ha hC hE
  subst hl hDD hcI hcZ ha
  show Y C shpC 4 0 [(0, .ref (C.a 3)), (1, .int p1), (2, .int p2), (3, .int p3)] [] V
  rw [f_Sy_add] at h
  refine Y_aload_n (pc := 0) hC d_Sy_add_0 rfl 0 rfl ?_
  refine Y_getR (pc := 1) hC sc_3 fl_Sy_9 rfl d_Sy_add_1 ?_
  refine Y_aload_n (pc := 4) hC d_Sy_add_4 rfl 0 rfl ?_
  refine Y_getI (pc := 5) hC sc_3 fl_Sy_30 rfl d_Sy_add_5 ?_
  refine Y_iload_n (pc := 8) hC d_Sy_add_8 rfl 1 rfl ?_
  obtain ⟨hi, h⟩ := ck_some h
  obtain ⟨V1, hV1, h⟩ := nm_some h
  refine Y_iast (pc := 9) hC sc_21 (by decide) rfl hi rfl hV1 d_Sy_add_9 ?_
  refine Y_aload_n (pc := 10) hC d_Sy_add_10 rfl 0 rfl ?_
  refine Y_getR (pc := 11) hC sc_3 fl_Sy_15 rfl d_Sy_add_11 ?_
  refine Y_aload_n (pc := 14) hC d_Sy_add_14 rfl 0 rfl ?_
  refine Y_getI (pc := 15) hC sc_3 fl_Sy_30 rfl d_Sy_add_15 ?_
  refine Y_iload_n (pc := 18) hC d_Sy_add_18 rfl 2 rfl ?_
  obtain ⟨hi, h⟩ := ck_some h
  obtain ⟨V2, hV2, h⟩ := nm_some h
  refine Y_iast (pc := 19) hC sc_22 (by decide) rfl hi rfl hV2 d_Sy_add_19 ?_
  refine Y_aload_n (pc := 20) hC d_Sy_add_20 rfl 0 rfl ?_
  refine Y_getR (pc := 21) hC sc_3 fl_Sy_18 rfl d_Sy_add_21 ?_
  refine Y_aload_n (pc := 24) hC d_Sy_add_24 rfl 0 rfl ?_
  refine Y_getI (pc := 25) hC sc_3 fl_Sy_30 rfl d_Sy_add_25 ?_
  refine Y_iload_n (pc := 28) hC d_Sy_add_28 rfl 3 rfl ?_
  obtain ⟨hi, h⟩ := ck_some h
  obtain ⟨V3, hV3, h⟩ := nm_some h
  refine Y_iast (pc := 29) hC sc_23 (by decide) rfl hi rfl hV3 d_Sy_add_29 ?_
  refine Y_aload_n (pc := 30) hC d_Sy_add_30 rfl 0 rfl ?_
  refine Y_dup (pc := 31) hC d_Sy_add_31 rfl ?_
  refine Y_getI (pc := 32) hC sc_3 fl_Sy_30 rfl d_Sy_add_32 ?_
  refine Y_dup_x1 (pc := 35) hC d_Sy_add_35 rfl rfl ?_
  refine Y_iconst (pc := 36) hC d_Sy_add_36 ki_1 ?_
  refine Y_iadd (pc := 37) hC d_Sy_add_37 ?_
  obtain ⟨V4, hV4, h⟩ := nm_some h
  refine Y_put (pc := 38) hC sc_3 fl_Sy_30 rfl (by decide) fp_Sy ft_Sy_0 rfl rfl hV4 d_Sy_add_38 ?_
  exact Y_iret (pc := 41) hC hE d_Sy_add_41 h
set_option maxHeartbeats 4000000 in
set_option maxRecDepth 100000 in
theorem c_Sy_define (l : Launch) (D : va_G) (cI cZ : ClassId) (a : Nat → Nat) {V : Sto} {p1 p2 p3 p4 : Int32} {r : Int32} {V' : Sto} (h : f_Sy_define V p1 p2 p3 p4 = some (r, V')) : YMv l D cI cZ a shpC y_Sy_define b_Sy_define 5 rm_Sy_define [.ref (a 3), .int p1, .int p2, .int p3, .int p4] V V' := by
  refine YMv_of (by decide) (Nat.le_of_ble_eq_true rfl) ?_
  intro C hl hDD hcI hcZ ha hC hE
  subst hl hDD hcI hcZ ha
  show Y C shpC 5 0 [(0, .ref (C.a 3)), (1, .int p1), (2, .int p2), (3, .int p3), (4, .int p4)] [] V
  rw [f_Sy_define] at h
  refine Y_aload_n (pc := 0) hC d_Sy_define_0 rfl 0 rfl ?_
  refine Y_getR (pc := 1) hC sc_3 fl_Sy_21 rfl d_Sy_define_1 ?_
  refine Y_iload_n (pc := 4) hC d_Sy_define_4 rfl 1 rfl ?_
  refine Y_iload_n (pc := 5) hC d_Sy_define_5 rfl 2 rfl ?_
  obtain ⟨hi, h⟩ := ck_some h
  obtain ⟨V1, hV1, h⟩ := nm_some h
  refine Y_iast (pc := 6) hC sc_24 (by decide) rfl hi rfl hV1 d_Sy_define_6 ?_
  refine Y_aload_n (pc := 7) hC d_Sy_define_7 rfl 0 rfl ?_
  refine Y_getR (pc := 8) hC sc_3 fl_Sy_24 rfl d_Sy_define_8 ?_
  refine Y_iload_n (pc := 11) hC d_Sy_define_11 rfl 1 rfl ?_
  refine Y_iload_n (pc := 12) hC d_Sy_define_12 rfl 3 rfl ?_
  obtain ⟨hi, h⟩ := ck_some h
  obtain ⟨V2, hV2, h⟩ := nm_some h
  refine Y_iast (pc := 13) hC sc_25 (by decide) rfl hi rfl hV2 d_Sy_define_13 ?_
  refine Y_aload_n (pc := 14) hC d_Sy_define_14 rfl 0 rfl ?_
  refine Y_getR (pc := 15) hC sc_3 fl_Sy_27 rfl d_Sy_define_15 ?_
  refine Y_iload_n (pc := 18) hC d_Sy_define_18 rfl 1 rfl ?_
  refine Y_iload (pc := 19) hC d_Sy_define_19 4 rfl ?_
  obtain ⟨hi, h⟩ := ck_some h
  obtain ⟨V3, hV3, h⟩ := nm_some h
  refine Y_iast (pc := 21) hC sc_26 (by decide) rfl hi rfl hV3 d_Sy_define_21 ?_
  exact Y_vret (pc := 22) hC hE d_Sy_define_22 h
set_option maxHeartbeats 4000000 in
set_option maxRecDepth 100000 in
theorem c_Re_add (l : Launch) (D : va_G) (cI cZ : ClassId) (a : Nat → Nat) {V : Sto} {p1 p2 p3 p4 p5 : Int32} {r : Int32} {V' : Sto} (h : f_Re_add V p1 p2 p3 p4 p5 = some (r, V')) : YMi l D cI cZ a shpC y_Re_add b_Re_add 6 (some .int) rm_Re_add [.ref (a 4), .int p1, .int p2, .int p3, .int p4, .int p5] V r V' := by
  refine YMi_of (by decide) (Nat.le_of_ble_eq_true rfl) ?_
  intro C hl hDD hcI hcZ ha hC hE
  subst hl hDD hcI hcZ ha
  show Y C shpC 6 0 [(0, .ref (C.a 4)), (1, .int p1), (2, .int p2), (3, .int p3), (4, .int p4), (5, .int p5)] [] V
  rw [f_Re_add] at h
  refine Y_aload_n (pc := 0) hC d_Re_add_0 rfl 0 rfl ?_
  refine Y_getR (pc := 1) hC sc_4 fl_Re_9 rfl d_Re_add_1 ?_
  refine Y_aload_n (pc := 4) hC d_Re_add_4 rfl 0 rfl ?_
  refine Y_getI (pc := 5) hC sc_4 fl_Re_36 rfl d_Re_add_5 ?_
  refine Y_iload_n (pc := 8) hC d_Re_add_8 rfl 1 rfl ?_
  obtain ⟨hi, h⟩ := ck_some h
  obtain ⟨V1, hV1, h⟩ := nm_some h
  refine Y_iast (pc := 9) hC sc_27 (by decide) rfl hi rfl hV1 d_Re_add_9 ?_
  refine Y_aload_n (pc := 10) hC d_Re_add_10 rfl 0 rfl ?_
  refine Y_getR (pc := 11) hC sc_4 fl_Re_15 rfl d_Re_add_11 ?_
  refine Y_aload_n (pc := 14) hC d_Re_add_14 rfl 0 rfl ?_
  refine Y_getI (pc := 15) hC sc_4 fl_Re_36 rfl d_Re_add_15 ?_
  refine Y_iload_n (pc := 18) hC d_Re_add_18 rfl 2 rfl ?_
  obtain ⟨hi, h⟩ := ck_some h
  obtain ⟨V2, hV2, h⟩ := nm_some h
  refine Y_iast (pc := 19) hC sc_28 (by decide) rfl hi rfl hV2 d_Re_add_19 ?_
  refine Y_aload_n (pc := 20) hC d_Re_add_20 rfl 0 rfl ?_
  refine Y_getR (pc := 21) hC sc_4 fl_Re_18 rfl d_Re_add_21 ?_
  refine Y_aload_n (pc := 24) hC d_Re_add_24 rfl 0 rfl ?_
  refine Y_getI (pc := 25) hC sc_4 fl_Re_36 rfl d_Re_add_25 ?_
  refine Y_iload_n (pc := 28) hC d_Re_add_28 rfl 3 rfl ?_
  obtain ⟨hi, h⟩ := ck_some h
  obtain ⟨V3, hV3, h⟩ := nm_some h
  refine Y_iast (pc := 29) hC sc_29 (by decide) rfl hi rfl hV3 d_Re_add_29 ?_
  refine Y_aload_n (pc := 30) hC d_Re_add_30 rfl 0 rfl ?_
  refine Y_getR (pc := 31) hC sc_4 fl_Re_21 rfl d_Re_add_31 ?_
  refine Y_aload_n (pc := 34) hC d_Re_add_34 rfl 0 rfl ?_
  refine Y_getI (pc := 35) hC sc_4 fl_Re_36 rfl d_Re_add_35 ?_
  refine Y_iload (pc := 38) hC d_Re_add_38 4 rfl ?_
  obtain ⟨hi, h⟩ := ck_some h
  obtain ⟨V4, hV4, h⟩ := nm_some h
  refine Y_iast (pc := 40) hC sc_30 (by decide) rfl hi rfl hV4 d_Re_add_40 ?_
  refine Y_aload_n (pc := 41) hC d_Re_add_41 rfl 0 rfl ?_
  refine Y_getR (pc := 42) hC sc_4 fl_Re_24 rfl d_Re_add_42 ?_
  refine Y_aload_n (pc := 45) hC d_Re_add_45 rfl 0 rfl ?_
  refine Y_getI (pc := 46) hC sc_4 fl_Re_36 rfl d_Re_add_46 ?_
  refine Y_iload (pc := 49) hC d_Re_add_49 5 rfl ?_
  obtain ⟨hi, h⟩ := ck_some h
  obtain ⟨V5, hV5, h⟩ := nm_some h
  refine Y_iast (pc := 51) hC sc_31 (by decide) rfl hi rfl hV5 d_Re_add_51 ?_
  refine Y_aload_n (pc := 52) hC d_Re_add_52 rfl 0 rfl ?_
  refine Y_dup (pc := 53) hC d_Re_add_53 rfl ?_
  refine Y_getI (pc := 54) hC sc_4 fl_Re_36 rfl d_Re_add_54 ?_
  refine Y_dup_x1 (pc := 57) hC d_Re_add_57 rfl rfl ?_
  refine Y_iconst (pc := 58) hC d_Re_add_58 ki_1 ?_
  refine Y_iadd (pc := 59) hC d_Re_add_59 ?_
  obtain ⟨V6, hV6, h⟩ := nm_some h
  refine Y_put (pc := 60) hC sc_4 fl_Re_36 rfl (by decide) fp_Re ft_Re_0 rfl rfl hV6 d_Re_add_60 ?_
  exact Y_iret (pc := 63) hC hE d_Re_add_63 h
set_option maxHeartbeats 4000000 in
set_option maxRecDepth 100000 in
theorem ylp_Fo_countFolded_4 {C : YC} {r : Int32} {V' : Sto} {k32 : Int32 → Sto → RT} (hC : YF C R_Fo b_Fo_countFolded 3 rm_Fo_countFolded) (hE : YEi C .int shpC r V') (hk32 : ∀ (y1 : Int32) (V1 : Sto), k32 y1 V1 = some (r, V') → Y C shpC 3 32 [(1, .int y1)] [] V1) : ∀ (n : Nat) (x1 x2 : Int32) (V : Sto), lp_Fo_countFolded_4 k32 n x1 x2 V = some (r, V') → Y C shpC 3 4 [(0, .ref (C.a 8)), (1, .int x1), (2, .int x2)] [] V := by
  intro n
  induction n with
  | zero =>
    intro x1 x2 V h
    rw [lp_Fo_countFolded_4] at h
    cases h
  | succ n ih =>
    intro x1 x2 V h
    rw [lp_Fo_countFolded_4] at h
    refine Y_iload_n (pc := 4) hC d_Fo_countFolded_4 rfl 2 rfl ?_
    refine Y_aload_n (pc := 5) hC d_Fo_countFolded_5 rfl 0 rfl ?_
    refine Y_getR (pc := 6) hC sc_8 fl_Fo_18 rfl d_Fo_countFolded_6 ?_
    refine Y_getI (pc := 9) hC sc_2 fl_Fo_34 rfl d_Fo_countFolded_9 ?_
    refine Y_icmp_ge (pc := 12) hC 32 d_Fo_countFolded_12 rfl (fun cc_12 => ?_) (fun cc_12 => ?_)
    · have h := ifp cc_12 h
      refine Y_sub (pc := 32) [1] rfl ?_
      exact hk32 _ _ h
    · have h := ifn cc_12 h
      refine Y_aload_n (pc := 15) hC d_Fo_countFolded_15 rfl 0 rfl ?_
      refine Y_iload_n (pc := 16) hC d_Fo_countFolded_16 rfl 2 rfl ?_
      obtain ⟨r1, V1, hc_r1, h⟩ := cl_some h
      refine Y_callV (pc := 17) hC (c_Fo_isFolded C.l C.D C.cI C.cZ C.a hc_r1) sc_8 cls_Fo ml_Fo_52 mv_Fo_isFolded (by decide) (Nat.le_of_ble_eq_true rfl) rfl d_Fo_countFolded_17 ?_
      refine Y_if_eq (pc := 20) hC 26 d_Fo_countFolded_20 rfl (fun cc_20 => ?_) (fun cc_20 => ?_)
      · have h := ifp cc_20 h
        refine Y_iinc (pc := 26) hC (v := x2 + 1) (L' := [(2, .int (x2 + 1)), (0, .ref (C.a 8)), (1, .int x1)]) d_Fo_countFolded_26 2 rfl rfl (by decide) rfl ?_
        refine Y_goto (pc := 29) hC 4 d_Fo_countFolded_29 rfl ?_
        refine Y_sub (pc := 4) [1, 2, 0] rfl ?_
        exact ih _ _ _ h
      · have h := ifn cc_20 h
        refine Y_iinc (pc := 23) hC (v := x1 + 1) (L' := [(1, .int (x1 + 1)), (0, .ref (C.a 8)), (2, .int x2)]) d_Fo_countFolded_23 1 rfl rfl (by decide) rfl ?_
        refine Y_iinc (pc := 26) hC (v := x2 + 1) (L' := [(2, .int (x2 + 1)), (1, .int (x1 + 1)), (0, .ref (C.a 8))]) d_Fo_countFolded_26 2 rfl rfl (by decide) rfl ?_
        refine Y_goto (pc := 29) hC 4 d_Fo_countFolded_29 rfl ?_
        refine Y_sub (pc := 4) [2, 1, 0] rfl ?_
        exact ih _ _ _ h
set_option maxHeartbeats 4000000 in
set_option maxRecDepth 100000 in
theorem c_Fo_countFolded (l : Launch) (D : va_G) (cI cZ : ClassId) (a : Nat → Nat) {V : Sto} {r : Int32} {V' : Sto} (h : f_Fo_countFolded V = some (r, V')) : YMi l D cI cZ a shpC y_Fo_countFolded b_Fo_countFolded 3 (some .int) rm_Fo_countFolded [.ref (a 8)] V r V' := by
  refine YMi_of (by decide) (Nat.le_of_ble_eq_true rfl) ?_
  intro C hl hDD hcI hcZ ha hC hE
  subst hl hDD hcI hcZ ha
  show Y C shpC 3 0 [(0, .ref (C.a 8))] [] V
  rw [f_Fo_countFolded] at h
  refine Y_iconst (pc := 0) hC d_Fo_countFolded_0 ki_0 ?_
  refine Y_istore_n (pc := 1) hC (L' := [(1, .int 0), (0, .ref (C.a 8))]) d_Fo_countFolded_1 rfl (by decide) rfl ?_
  refine Y_iconst (pc := 2) hC d_Fo_countFolded_2 ki_0 ?_
  refine Y_istore_n (pc := 3) hC (L' := [(2, .int 0), (1, .int 0), (0, .ref (C.a 8))]) d_Fo_countFolded_3 rfl (by decide) rfl ?_
  refine Y_sub (pc := 4) [2, 1, 0] rfl ?_
  refine ylp_Fo_countFolded_4 hC hE (fun y1 V2 h => ?_) FU _ _ _ h
  refine Y_iload_n (pc := 32) hC d_Fo_countFolded_32 rfl 0 rfl ?_
  exact Y_iret (pc := 33) hC hE d_Fo_countFolded_33 h
end
section
def f_La_isLaid (V : Sto) (p1 : Int32) : RT :=
  ck (ib p1 400) <|
  if (V 40 p1.toNatClampNeg) = 1 then
    ck (ib p1 400) <|
    ck (ib (V 41 p1.toNatClampNeg) 96) <|
    ck (bb (V 43 (V 41 p1.toNatClampNeg).toNatClampNeg)) <| some (V 43 (V 41 p1.toNatClampNeg).toNatClampNeg, V)
  else
  if (V 40 p1.toNatClampNeg) = 3 then
    ck (ib p1 400) <|
    ck (ib (V 41 p1.toNatClampNeg) 200) <|
    ck (bb (V 44 (V 41 p1.toNatClampNeg).toNatClampNeg)) <| some (V 44 (V 41 p1.toNatClampNeg).toNatClampNeg, V)
  else
  ck (ib p1 400) <|
  if (V 40 p1.toNatClampNeg) = 2 then
    some (1, V)
  else
  some (0, V)
def lp_La_sectionAt_2 (x1 : Int32) (k51 : Int32 → Sto → RT) (k59 : Sto → RT) : Nat → Int32 → Sto → RT
  | 0, _, _ => none
  | n + 1, x2, V =>
    if (V 2 0) ≤ x2 then
      k59 V
    else
    cl (f_La_isStanding V x2) fun r1 V1 =>
    if r1 = 0 then
      lp_La_sectionAt_2 x1 k51 k59 n (x2 + 1) V1
    else
    ck (ib x2 96) <|
    if x1 < (V1 48 x2.toNatClampNeg) then
      lp_La_sectionAt_2 x1 k51 k59 n (x2 + 1) V1
    else
    ck (ib x2 96) <|
    ck (ib x2 96) <|
    if ((V1 48 x2.toNatClampNeg) + (V1 17 x2.toNatClampNeg)) ≤ x1 then
      lp_La_sectionAt_2 x1 k51 k59 n (x2 + 1) V1
    else
    k51 x2 V1
def f_La_sectionAt (V : Sto) (p1 : Int32) : RT :=
  lp_La_sectionAt_2 p1
    (fun y1 V2 =>
      some (y1, V2))
    (fun V3 =>
      some ((-1), V3)) FU 0 V
def f_Is_covers (V : Sto) (p1 : Int32) : RT :=
  if p1 < (V 9 7) then
    some (0, V)
  else
  if ((V 9 7) + ((V 10 5) * 8)) ≤ p1 then
    some (0, V)
  else
  some (1, V)
def f_Is_read (V : Sto) (p1 : Int32) : RT :=
  if ((p1 - (V 9 7)) - (p1 - (V 9 7)) / 8 * 8) = 0 then
    ck (ib ((p1 - (V 9 7)) / 8) 32) <|
    ck (ib ((p1 - (V 9 7)) / 8) 32) <|
    cl (f_La_startOf V (V 50 ((p1 - (V 9 7)) / 8).toNatClampNeg) (V 51 ((p1 - (V 9 7)) / 8).toNatClampNeg)) fun r1 V1 =>
    ck (ib ((p1 - (V 9 7)) / 8) 32) <|
    some (r1 + (V1 52 ((p1 - (V 9 7)) / 8).toNatClampNeg), V1)
  else
  some (0, V)
def f_Me_withLowerHalf (V : Sto) (p0 p1 : Int32) : RT :=
  some ((p0 &&& (-65536)) ||| (p1 &&& 65535), V)
def f_Me_wordsBetween (V : Sto) (p0 p1 : Int32) : RT :=
  some ((p1 - p0) / 4, V)
def f_Me_mend (V : Sto) (p1 p2 : Int32) : RT :=
  cl (f_Is_targetOf V p2) fun r1 V1 =>
  cl (f_Is_placeOf V1 p2) fun r2 V2 =>
  ck (ib p2 600) <|
  if (V2 29 p2.toNatClampNeg) = 0 then
    some (p1 + r1, V2)
  else
  if (V2 29 p2.toNatClampNeg) = 1 then
    some ((p1 + r1) - r2, V2)
  else
  if (V2 29 p2.toNatClampNeg) = 2 then
    cl (f_Me_withLowerHalf V2 p1 (((r1 + 32768).toUInt32 >>> (Int32.toUInt32 16 &&& Int32.toUInt32 31)).toInt32)) fun r3 V3 =>
    some (r3, V3)
  else
  if (V2 29 p2.toNatClampNeg) = 3 then
    cl (f_Me_withLowerHalf V2 p1 r1) fun r4 V4 =>
    some (r4, V4)
  else
  if (V2 29 p2.toNatClampNeg) = 4 then
    cl (f_Is_goalOf V2 p2 r1) fun r5 V5 =>
    cl (f_Me_wordsBetween V5 (r2 + 4) r5) fun r6 V6 =>
    cl (f_Me_withLowerHalf V6 p1 r6) fun r7 V7 =>
    some (r7, V7)
  else
  some ((p1 &&& (-67108864)) ||| (((r1.toUInt32 >>> (Int32.toUInt32 2 &&& Int32.toUInt32 31)).toInt32) &&& 67108863), V2)
def lp_Me_mended_13 (x1 : Int32) (x2 : Int32) (k66 : Int32 → Sto → RT) : Nat → Int32 → Int32 → Sto → RT
  | 0, _, _, _ => none
  | n + 1, x3, x4, V =>
    cl (f_Re_countOf V x1) fun r2 V2 =>
    if r2 ≤ x4 then
      k66 x3 V2
    else
    cl (f_Re_pick V2 x1 x4) fun r3 V3 =>
    ck (ib r3 600) <|
    if (V3 28 r3.toNatClampNeg) = x2 then
      cl (f_Me_mend V3 x3 r3) fun r4 V4 =>
      lp_Me_mended_13 x1 x2 k66 n r4 (x4 + 1) V4
    else
    lp_Me_mended_13 x1 x2 k66 n x3 (x4 + 1) V3
def f_Me_mended (V : Sto) (p1 p2 : Int32) : RT :=
  cl (f_Se_read V p1 p2) fun r1 V1 =>
  lp_Me_mended_13 p1 p2
    (fun y1 V5 =>
      some (y1, V5)) FU r1 0 V1
def f_Me_read (V : Sto) (p1 : Int32) : RT :=
  cl (f_La_sectionAt V p1) fun r1 V1 =>
  if r1 = (-1) then
    cl (f_Is_covers V1 p1) fun r3 V3 =>
    if r3 = 0 then
      some (0, V3)
    else
    cl (f_Is_read V3 p1) fun r4 V4 =>
    some (r4, V4)
  else
  ck (ib r1 96) <|
  if (V1 16 r1.toNatClampNeg) = 2 then
    some (0, V1)
  else
  ck (ib r1 96) <|
  cl (f_Me_mended V1 r1 (p1 - (V1 48 r1.toNatClampNeg))) fun r2 V2 =>
  some (r2, V2)
end
section
theorem ml_La_110 : MLb R_La 110 y_La_isStanding b_La_isStanding 2 (some .boolean) 1 := ⟨(mw 1350 (by decide +kernel)), (mw 1510 (by decide +kernel)), (mw 92 (by decide +kernel)), by decide +kernel⟩
theorem ml_Is_146 : MLb R_Is 146 y_La_startOf b_La_startOf 3 (some .int) 2 := ⟨(mw 1362 (by decide +kernel)), (mw 1519 (by decide +kernel)), (mw 92 (by decide +kernel)), by decide +kernel⟩
theorem kc_Me_112 : Cond.constant R_Me 112 (-65536) ∈ ALLW := (mw 1536 (by decide +kernel))
theorem kc_Me_113 : Cond.constant R_Me 113 65535 ∈ ALLW := (mw 1537 (by decide +kernel))
theorem ml_Me_100 : MLb R_Me 100 y_Is_placeOf b_Is_placeOf 2 (some .int) 1 := ⟨(mw 1370 (by decide +kernel)), (mw 1531 (by decide +kernel)), (mw 93 (by decide +kernel)), by decide +kernel⟩
theorem kc_Me_103 : Cond.constant R_Me 103 32768 ∈ ALLW := (mw 1532 (by decide +kernel))
theorem ml_Me_104 : MLb R_Me 104 y_Me_withLowerHalf b_Me_withLowerHalf 2 (some .int) 2 := ⟨(mw 1535 (by decide +kernel)), (mw 1533 (by decide +kernel)), (mw 94 (by decide +kernel)), by decide +kernel⟩
theorem ms_Me_withLowerHalf : Cond.static y_Me_withLowerHalf ∈ ALLW := (mw 1534 (by decide +kernel))
theorem ml_Me_107 : MLb R_Me 107 y_Me_wordsBetween b_Me_wordsBetween 2 (some .int) 2 := ⟨(mw 1540 (by decide +kernel)), (mw 1538 (by decide +kernel)), (mw 94 (by decide +kernel)), by decide +kernel⟩
theorem ms_Me_wordsBetween : Cond.static y_Me_wordsBetween ∈ ALLW := (mw 1539 (by decide +kernel))
theorem kc_Me_110 : Cond.constant R_Me 110 (-67108864) ∈ ALLW := (mw 1541 (by decide +kernel))
theorem kc_Me_111 : Cond.constant R_Me 111 67108863 ∈ ALLW := (mw 1542 (by decide +kernel))
theorem ml_Me_88 : MLb R_Me 88 y_Re_countOf b_Re_countOf 2 (some .int) 1 := ⟨(mw 1249 (by decide +kernel)), (mw 1525 (by decide +kernel)), (mw 87 (by decide +kernel)), by decide +kernel⟩
theorem ml_Me_91 : MLb R_Me 91 y_Re_pick b_Re_pick 3 (some .int) 2 := ⟨(mw 1253 (by decide +kernel)), (mw 1526 (by decide +kernel)), (mw 87 (by decide +kernel)), by decide +kernel⟩
theorem fl_Me_94 : FL R_Me 94 4 2 := ⟨R_Re, F_Re, N_Re, rfl, by decide, i_Re, (mw 262 (by decide +kernel))⟩
theorem ml_Me_97 : MLb R_Me 97 y_Me_mend b_Me_mend 5 (some .int) 2 := ⟨(mw 1530 (by decide +kernel)), (mw 1527 (by decide +kernel)), (mw 94 (by decide +kernel)), by decide +kernel⟩
theorem mv_Me_mend : MLv y_Me_mend := ⟨(mw 1529 (by decide +kernel)), (mw 43 (by decide +kernel))⟩
theorem fl_Me_9 : FL R_Me 9 11 0 := ⟨R_Me, F_Me, N_Me, rfl, by decide, i_Me, (mw 526 (by decide +kernel))⟩
theorem ml_Me_86 : MLb R_Me 86 y_Se_read b_Se_read 3 (some .int) 2 := ⟨(mw 1285 (by decide +kernel)), (mw 1524 (by decide +kernel)), (mw 85 (by decide +kernel)), by decide +kernel⟩
theorem ml_Me_66 : MLb R_Me 66 y_La_sectionAt b_La_sectionAt 3 (some .int) 1 := ⟨(mw 1509 (by decide +kernel)), (mw 1506 (by decide +kernel)), (mw 92 (by decide +kernel)), by decide +kernel⟩
theorem mv_La_sectionAt : MLv y_La_sectionAt := ⟨(mw 1507 (by decide +kernel)), (mw 1508 (by decide +kernel))⟩
theorem fl_Me_75 : FL R_Me 75 2 5 := ⟨R_Se, F_Se, N_Se, rfl, by decide, i_Se, (mw 170 (by decide +kernel))⟩
theorem fl_Me_80 : FL R_Me 80 9 8 := ⟨R_La, F_La, N_La, rfl, by decide, i_La, (mw 452 (by decide +kernel))⟩
theorem ml_Me_83 : MLb R_Me 83 y_Me_mended b_Me_mended 6 (some .int) 2 := ⟨(mw 1523 (by decide +kernel)), (mw 1520 (by decide +kernel)), (mw 94 (by decide +kernel)), by decide +kernel⟩
theorem mv_Me_mended : MLv y_Me_mended := ⟨(mw 1522 (by decide +kernel)), (mw 42 (by decide +kernel))⟩
theorem ml_Me_69 : MLb R_Me 69 y_Is_covers b_Is_covers 2 (some .boolean) 1 := ⟨(mw 1514 (by decide +kernel)), (mw 1511 (by decide +kernel)), (mw 93 (by decide +kernel)), by decide +kernel⟩
theorem mv_Is_covers : MLv y_Is_covers := ⟨(mw 1512 (by decide +kernel)), (mw 1513 (by decide +kernel))⟩
theorem ml_Me_72 : MLb R_Me 72 y_Is_read b_Is_read 4 (some .int) 1 := ⟨(mw 1518 (by decide +kernel)), (mw 1515 (by decide +kernel)), (mw 93 (by decide +kernel)), by decide +kernel⟩
theorem mv_Is_read : MLv y_Is_read := ⟨(mw 1516 (by decide +kernel)), (mw 1517 (by decide +kernel))⟩
theorem d_La_isLaid_0 : decode b_La_isLaid 0 = .ok (.aload_n 0, 1) := by decide +kernel
theorem d_La_isLaid_1 : decode b_La_isLaid 1 = .ok (.getfield 22, 3) := by decide +kernel
theorem d_La_isLaid_4 : decode b_La_isLaid 4 = .ok (.getfield 98, 3) := by decide +kernel
theorem d_La_isLaid_7 : decode b_La_isLaid 7 = .ok (.iload_n 1, 1) := by decide +kernel
theorem d_La_isLaid_8 : decode b_La_isLaid 8 = .ok (.iaload, 1) := by decide +kernel
theorem d_La_isLaid_9 : decode b_La_isLaid 9 = .ok (.lookupswitch 63 #[(1, 27), (3, 45)], 27) := by decide +kernel
theorem d_La_isLaid_36 : decode b_La_isLaid 36 = .ok (.aload_n 0, 1) := by decide +kernel
theorem d_La_isLaid_37 : decode b_La_isLaid 37 = .ok (.getfield 26, 3) := by decide +kernel
theorem d_La_isLaid_40 : decode b_La_isLaid 40 = .ok (.getfield 77, 3) := by decide +kernel
theorem d_La_isLaid_43 : decode b_La_isLaid 43 = .ok (.aload_n 0, 1) := by decide +kernel
theorem d_La_isLaid_44 : decode b_La_isLaid 44 = .ok (.getfield 22, 3) := by decide +kernel
theorem d_La_isLaid_47 : decode b_La_isLaid 47 = .ok (.getfield 101, 3) := by decide +kernel
theorem d_La_isLaid_50 : decode b_La_isLaid 50 = .ok (.iload_n 1, 1) := by decide +kernel
theorem d_La_isLaid_51 : decode b_La_isLaid 51 = .ok (.iaload, 1) := by decide +kernel
theorem d_La_isLaid_52 : decode b_La_isLaid 52 = .ok (.baload, 1) := by decide +kernel
theorem d_La_isLaid_53 : decode b_La_isLaid 53 = .ok (.ireturn, 1) := by decide +kernel
theorem d_La_isLaid_54 : decode b_La_isLaid 54 = .ok (.aload_n 0, 1) := by decide +kernel
theorem d_La_isLaid_55 : decode b_La_isLaid 55 = .ok (.getfield 26, 3) := by decide +kernel
theorem d_La_isLaid_58 : decode b_La_isLaid 58 = .ok (.getfield 61, 3) := by decide +kernel
theorem d_La_isLaid_61 : decode b_La_isLaid 61 = .ok (.aload_n 0, 1) := by decide +kernel
theorem d_La_isLaid_62 : decode b_La_isLaid 62 = .ok (.getfield 22, 3) := by decide +kernel
theorem d_La_isLaid_65 : decode b_La_isLaid 65 = .ok (.getfield 101, 3) := by decide +kernel
theorem d_La_isLaid_68 : decode b_La_isLaid 68 = .ok (.iload_n 1, 1) := by decide +kernel
theorem d_La_isLaid_69 : decode b_La_isLaid 69 = .ok (.iaload, 1) := by decide +kernel
theorem d_La_isLaid_70 : decode b_La_isLaid 70 = .ok (.baload, 1) := by decide +kernel
theorem d_La_isLaid_71 : decode b_La_isLaid 71 = .ok (.ireturn, 1) := by decide +kernel
theorem d_La_isLaid_72 : decode b_La_isLaid 72 = .ok (.aload_n 0, 1) := by decide +kernel
theorem d_La_isLaid_73 : decode b_La_isLaid 73 = .ok (.getfield 22, 3) := by decide +kernel
theorem d_La_isLaid_76 : decode b_La_isLaid 76 = .ok (.getfield 98, 3) := by decide +kernel
theorem d_La_isLaid_79 : decode b_La_isLaid 79 = .ok (.iload_n 1, 1) := by decide +kernel
theorem d_La_isLaid_80 : decode b_La_isLaid 80 = .ok (.iaload, 1) := by decide +kernel
theorem d_La_isLaid_81 : decode b_La_isLaid 81 = .ok (.iconst 2, 1) := by decide +kernel
theorem d_La_isLaid_82 : decode b_La_isLaid 82 = .ok (.if_icmp .ne 7, 3) := by decide +kernel
theorem d_La_isLaid_85 : decode b_La_isLaid 85 = .ok (.iconst 1, 1) := by decide +kernel
theorem d_La_isLaid_86 : decode b_La_isLaid 86 = .ok (.goto 4, 3) := by decide +kernel
theorem d_La_isLaid_89 : decode b_La_isLaid 89 = .ok (.iconst 0, 1) := by decide +kernel
theorem d_La_isLaid_90 : decode b_La_isLaid 90 = .ok (.ireturn, 1) := by decide +kernel
theorem d_La_sectionAt_0 : decode b_La_sectionAt 0 = .ok (.iconst 0, 1) := by decide +kernel
theorem d_La_sectionAt_1 : decode b_La_sectionAt 1 = .ok (.istore_n 2, 1) := by decide +kernel
theorem d_La_sectionAt_2 : decode b_La_sectionAt 2 = .ok (.iload_n 2, 1) := by decide +kernel
theorem d_La_sectionAt_3 : decode b_La_sectionAt 3 = .ok (.aload_n 0, 1) := by decide +kernel
theorem d_La_sectionAt_4 : decode b_La_sectionAt 4 = .ok (.getfield 18, 3) := by decide +kernel
theorem d_La_sectionAt_7 : decode b_La_sectionAt 7 = .ok (.getfield 72, 3) := by decide +kernel
theorem d_La_sectionAt_10 : decode b_La_sectionAt 10 = .ok (.if_icmp .ge 49, 3) := by decide +kernel
theorem d_La_sectionAt_13 : decode b_La_sectionAt 13 = .ok (.aload_n 0, 1) := by decide +kernel
theorem d_La_sectionAt_14 : decode b_La_sectionAt 14 = .ok (.iload_n 2, 1) := by decide +kernel
theorem d_La_sectionAt_15 : decode b_La_sectionAt 15 = .ok (.invokevirtual 110, 3) := by decide +kernel
theorem d_La_sectionAt_18 : decode b_La_sectionAt 18 = .ok (.ifCond .eq 35, 3) := by decide +kernel
theorem d_La_sectionAt_21 : decode b_La_sectionAt 21 = .ok (.iload_n 1, 1) := by decide +kernel
theorem d_La_sectionAt_22 : decode b_La_sectionAt 22 = .ok (.aload_n 0, 1) := by decide +kernel
theorem d_La_sectionAt_23 : decode b_La_sectionAt 23 = .ok (.getfield 9, 3) := by decide +kernel
theorem d_La_sectionAt_26 : decode b_La_sectionAt 26 = .ok (.iload_n 2, 1) := by decide +kernel
theorem d_La_sectionAt_27 : decode b_La_sectionAt 27 = .ok (.iaload, 1) := by decide +kernel
theorem d_La_sectionAt_28 : decode b_La_sectionAt 28 = .ok (.if_icmp .lt 25, 3) := by decide +kernel
theorem d_La_sectionAt_31 : decode b_La_sectionAt 31 = .ok (.iload_n 1, 1) := by decide +kernel
theorem d_La_sectionAt_32 : decode b_La_sectionAt 32 = .ok (.aload_n 0, 1) := by decide +kernel
theorem d_La_sectionAt_33 : decode b_La_sectionAt 33 = .ok (.getfield 9, 3) := by decide +kernel
theorem d_La_sectionAt_36 : decode b_La_sectionAt 36 = .ok (.iload_n 2, 1) := by decide +kernel
theorem d_La_sectionAt_37 : decode b_La_sectionAt 37 = .ok (.iaload, 1) := by decide +kernel
theorem d_La_sectionAt_38 : decode b_La_sectionAt 38 = .ok (.aload_n 0, 1) := by decide +kernel
theorem d_La_sectionAt_39 : decode b_La_sectionAt 39 = .ok (.getfield 18, 3) := by decide +kernel
theorem d_La_sectionAt_42 : decode b_La_sectionAt 42 = .ok (.getfield 92, 3) := by decide +kernel
theorem d_La_sectionAt_45 : decode b_La_sectionAt 45 = .ok (.iload_n 2, 1) := by decide +kernel
theorem d_La_sectionAt_46 : decode b_La_sectionAt 46 = .ok (.iaload, 1) := by decide +kernel
theorem d_La_sectionAt_47 : decode b_La_sectionAt 47 = .ok (.iadd, 1) := by decide +kernel
theorem d_La_sectionAt_48 : decode b_La_sectionAt 48 = .ok (.if_icmp .ge 5, 3) := by decide +kernel
theorem d_La_sectionAt_51 : decode b_La_sectionAt 51 = .ok (.iload_n 2, 1) := by decide +kernel
theorem d_La_sectionAt_52 : decode b_La_sectionAt 52 = .ok (.ireturn, 1) := by decide +kernel
theorem d_La_sectionAt_53 : decode b_La_sectionAt 53 = .ok (.iinc 2 1, 3) := by decide +kernel
theorem d_La_sectionAt_56 : decode b_La_sectionAt 56 = .ok (.goto (-54), 3) := by decide +kernel
theorem d_La_sectionAt_59 : decode b_La_sectionAt 59 = .ok (.iconst (-1), 1) := by decide +kernel
theorem d_La_sectionAt_60 : decode b_La_sectionAt 60 = .ok (.ireturn, 1) := by decide +kernel
theorem d_Is_covers_0 : decode b_Is_covers 0 = .ok (.iload_n 1, 1) := by decide +kernel
theorem d_Is_covers_1 : decode b_Is_covers 1 = .ok (.aload_n 0, 1) := by decide +kernel
theorem d_Is_covers_2 : decode b_Is_covers 2 = .ok (.getfield 40, 3) := by decide +kernel
theorem d_Is_covers_5 : decode b_Is_covers 5 = .ok (.getfield 134, 3) := by decide +kernel
theorem d_Is_covers_8 : decode b_Is_covers 8 = .ok (.if_icmp .lt 26, 3) := by decide +kernel
theorem d_Is_covers_11 : decode b_Is_covers 11 = .ok (.iload_n 1, 1) := by decide +kernel
theorem d_Is_covers_12 : decode b_Is_covers 12 = .ok (.aload_n 0, 1) := by decide +kernel
theorem d_Is_covers_13 : decode b_Is_covers 13 = .ok (.getfield 40, 3) := by decide +kernel
theorem d_Is_covers_16 : decode b_Is_covers 16 = .ok (.getfield 134, 3) := by decide +kernel
theorem d_Is_covers_19 : decode b_Is_covers 19 = .ok (.aload_n 0, 1) := by decide +kernel
theorem d_Is_covers_20 : decode b_Is_covers 20 = .ok (.getfield 44, 3) := by decide +kernel
theorem d_Is_covers_23 : decode b_Is_covers 23 = .ok (.bipush 8, 2) := by decide +kernel
theorem d_Is_covers_25 : decode b_Is_covers 25 = .ok (.imul, 1) := by decide +kernel
theorem d_Is_covers_26 : decode b_Is_covers 26 = .ok (.iadd, 1) := by decide +kernel
theorem d_Is_covers_27 : decode b_Is_covers 27 = .ok (.if_icmp .ge 7, 3) := by decide +kernel
theorem d_Is_covers_30 : decode b_Is_covers 30 = .ok (.iconst 1, 1) := by decide +kernel
theorem d_Is_covers_31 : decode b_Is_covers 31 = .ok (.goto 4, 3) := by decide +kernel
theorem d_Is_covers_34 : decode b_Is_covers 34 = .ok (.iconst 0, 1) := by decide +kernel
theorem d_Is_covers_35 : decode b_Is_covers 35 = .ok (.ireturn, 1) := by decide +kernel
theorem d_Is_read_0 : decode b_Is_read 0 = .ok (.iload_n 1, 1) := by decide +kernel
theorem d_Is_read_1 : decode b_Is_read 1 = .ok (.aload_n 0, 1) := by decide +kernel
theorem d_Is_read_2 : decode b_Is_read 2 = .ok (.getfield 40, 3) := by decide +kernel
theorem d_Is_read_5 : decode b_Is_read 5 = .ok (.getfield 134, 3) := by decide +kernel
theorem d_Is_read_8 : decode b_Is_read 8 = .ok (.isub, 1) := by decide +kernel
theorem d_Is_read_9 : decode b_Is_read 9 = .ok (.istore_n 2, 1) := by decide +kernel
theorem d_Is_read_10 : decode b_Is_read 10 = .ok (.iload_n 2, 1) := by decide +kernel
theorem d_Is_read_11 : decode b_Is_read 11 = .ok (.bipush 8, 2) := by decide +kernel
theorem d_Is_read_13 : decode b_Is_read 13 = .ok (.irem, 1) := by decide +kernel
theorem d_Is_read_14 : decode b_Is_read 14 = .ok (.ifCond .eq 5, 3) := by decide +kernel
theorem d_Is_read_17 : decode b_Is_read 17 = .ok (.iconst 0, 1) := by decide +kernel
theorem d_Is_read_18 : decode b_Is_read 18 = .ok (.ireturn, 1) := by decide +kernel
theorem d_Is_read_19 : decode b_Is_read 19 = .ok (.iload_n 2, 1) := by decide +kernel
theorem d_Is_read_20 : decode b_Is_read 20 = .ok (.bipush 8, 2) := by decide +kernel
theorem d_Is_read_22 : decode b_Is_read 22 = .ok (.idiv, 1) := by decide +kernel
theorem d_Is_read_23 : decode b_Is_read 23 = .ok (.istore_n 3, 1) := by decide +kernel
theorem d_Is_read_24 : decode b_Is_read 24 = .ok (.aload_n 0, 1) := by decide +kernel
theorem d_Is_read_25 : decode b_Is_read 25 = .ok (.getfield 40, 3) := by decide +kernel
theorem d_Is_read_28 : decode b_Is_read 28 = .ok (.aload_n 0, 1) := by decide +kernel
theorem d_Is_read_29 : decode b_Is_read 29 = .ok (.getfield 9, 3) := by decide +kernel
theorem d_Is_read_32 : decode b_Is_read 32 = .ok (.iload_n 3, 1) := by decide +kernel
theorem d_Is_read_33 : decode b_Is_read 33 = .ok (.iaload, 1) := by decide +kernel
theorem d_Is_read_34 : decode b_Is_read 34 = .ok (.aload_n 0, 1) := by decide +kernel
theorem d_Is_read_35 : decode b_Is_read 35 = .ok (.getfield 15, 3) := by decide +kernel
theorem d_Is_read_38 : decode b_Is_read 38 = .ok (.iload_n 3, 1) := by decide +kernel
theorem d_Is_read_39 : decode b_Is_read 39 = .ok (.iaload, 1) := by decide +kernel
theorem d_Is_read_40 : decode b_Is_read 40 = .ok (.invokevirtual 146, 3) := by decide +kernel
theorem d_Is_read_43 : decode b_Is_read 43 = .ok (.aload_n 0, 1) := by decide +kernel
theorem d_Is_read_44 : decode b_Is_read 44 = .ok (.getfield 18, 3) := by decide +kernel
theorem d_Is_read_47 : decode b_Is_read 47 = .ok (.iload_n 3, 1) := by decide +kernel
theorem d_Is_read_48 : decode b_Is_read 48 = .ok (.iaload, 1) := by decide +kernel
theorem d_Is_read_49 : decode b_Is_read 49 = .ok (.iadd, 1) := by decide +kernel
theorem d_Is_read_50 : decode b_Is_read 50 = .ok (.ireturn, 1) := by decide +kernel
theorem d_Me_withLowerHalf_0 : decode b_Me_withLowerHalf 0 = .ok (.iload_n 0, 1) := by decide +kernel
theorem d_Me_withLowerHalf_1 : decode b_Me_withLowerHalf 1 = .ok (.ldc 112, 2) := by decide +kernel
theorem d_Me_withLowerHalf_3 : decode b_Me_withLowerHalf 3 = .ok (.iand, 1) := by decide +kernel
theorem d_Me_withLowerHalf_4 : decode b_Me_withLowerHalf 4 = .ok (.iload_n 1, 1) := by decide +kernel
theorem d_Me_withLowerHalf_5 : decode b_Me_withLowerHalf 5 = .ok (.ldc 113, 2) := by decide +kernel
theorem d_Me_withLowerHalf_7 : decode b_Me_withLowerHalf 7 = .ok (.iand, 1) := by decide +kernel
theorem d_Me_withLowerHalf_8 : decode b_Me_withLowerHalf 8 = .ok (.ior, 1) := by decide +kernel
theorem d_Me_withLowerHalf_9 : decode b_Me_withLowerHalf 9 = .ok (.ireturn, 1) := by decide +kernel
theorem d_Me_wordsBetween_0 : decode b_Me_wordsBetween 0 = .ok (.iload_n 1, 1) := by decide +kernel
theorem d_Me_wordsBetween_1 : decode b_Me_wordsBetween 1 = .ok (.iload_n 0, 1) := by decide +kernel
theorem d_Me_wordsBetween_2 : decode b_Me_wordsBetween 2 = .ok (.isub, 1) := by decide +kernel
theorem d_Me_wordsBetween_3 : decode b_Me_wordsBetween 3 = .ok (.iconst 4, 1) := by decide +kernel
theorem d_Me_wordsBetween_4 : decode b_Me_wordsBetween 4 = .ok (.idiv, 1) := by decide +kernel
theorem d_Me_wordsBetween_5 : decode b_Me_wordsBetween 5 = .ok (.ireturn, 1) := by decide +kernel
theorem d_Me_mend_0 : decode b_Me_mend 0 = .ok (.aload_n 0, 1) := by decide +kernel
theorem d_Me_mend_1 : decode b_Me_mend 1 = .ok (.getfield 23, 3) := by decide +kernel
theorem d_Me_mend_4 : decode b_Me_mend 4 = .ok (.iload_n 2, 1) := by decide +kernel
theorem d_Me_mend_5 : decode b_Me_mend 5 = .ok (.invokevirtual 41, 3) := by decide +kernel
theorem d_Me_mend_8 : decode b_Me_mend 8 = .ok (.istore_n 3, 1) := by decide +kernel
theorem d_Me_mend_9 : decode b_Me_mend 9 = .ok (.aload_n 0, 1) := by decide +kernel
theorem d_Me_mend_10 : decode b_Me_mend 10 = .ok (.getfield 23, 3) := by decide +kernel
theorem d_Me_mend_13 : decode b_Me_mend 13 = .ok (.iload_n 2, 1) := by decide +kernel
theorem d_Me_mend_14 : decode b_Me_mend 14 = .ok (.invokevirtual 100, 3) := by decide +kernel
theorem d_Me_mend_17 : decode b_Me_mend 17 = .ok (.istore 4, 2) := by decide +kernel
theorem d_Me_mend_19 : decode b_Me_mend 19 = .ok (.aload_n 0, 1) := by decide +kernel
theorem d_Me_mend_20 : decode b_Me_mend 20 = .ok (.getfield 15, 3) := by decide +kernel
theorem d_Me_mend_23 : decode b_Me_mend 23 = .ok (.getfield 54, 3) := by decide +kernel
theorem d_Me_mend_26 : decode b_Me_mend 26 = .ok (.iload_n 2, 1) := by decide +kernel
theorem d_Me_mend_27 : decode b_Me_mend 27 = .ok (.iaload, 1) := by decide +kernel
theorem d_Me_mend_28 : decode b_Me_mend 28 = .ok (.tableswitch 86 0 4 #[36, 40, 47, 59, 65], 36) := by decide +kernel
theorem d_Me_mend_64 : decode b_Me_mend 64 = .ok (.iload_n 1, 1) := by decide +kernel
theorem d_Me_mend_65 : decode b_Me_mend 65 = .ok (.iload_n 3, 1) := by decide +kernel
theorem d_Me_mend_66 : decode b_Me_mend 66 = .ok (.iadd, 1) := by decide +kernel
theorem d_Me_mend_67 : decode b_Me_mend 67 = .ok (.ireturn, 1) := by decide +kernel
theorem d_Me_mend_68 : decode b_Me_mend 68 = .ok (.iload_n 1, 1) := by decide +kernel
theorem d_Me_mend_69 : decode b_Me_mend 69 = .ok (.iload_n 3, 1) := by decide +kernel
theorem d_Me_mend_70 : decode b_Me_mend 70 = .ok (.iadd, 1) := by decide +kernel
theorem d_Me_mend_71 : decode b_Me_mend 71 = .ok (.iload 4, 2) := by decide +kernel
theorem d_Me_mend_73 : decode b_Me_mend 73 = .ok (.isub, 1) := by decide +kernel
theorem d_Me_mend_74 : decode b_Me_mend 74 = .ok (.ireturn, 1) := by decide +kernel
theorem d_Me_mend_75 : decode b_Me_mend 75 = .ok (.iload_n 1, 1) := by decide +kernel
theorem d_Me_mend_76 : decode b_Me_mend 76 = .ok (.iload_n 3, 1) := by decide +kernel
theorem d_Me_mend_77 : decode b_Me_mend 77 = .ok (.ldc 103, 2) := by decide +kernel
theorem d_Me_mend_79 : decode b_Me_mend 79 = .ok (.iadd, 1) := by decide +kernel
theorem d_Me_mend_80 : decode b_Me_mend 80 = .ok (.bipush 16, 2) := by decide +kernel
theorem d_Me_mend_82 : decode b_Me_mend 82 = .ok (.iushr, 1) := by decide +kernel
theorem d_Me_mend_83 : decode b_Me_mend 83 = .ok (.invokestatic 104, 3) := by decide +kernel
theorem d_Me_mend_86 : decode b_Me_mend 86 = .ok (.ireturn, 1) := by decide +kernel
theorem d_Me_mend_87 : decode b_Me_mend 87 = .ok (.iload_n 1, 1) := by decide +kernel
theorem d_Me_mend_88 : decode b_Me_mend 88 = .ok (.iload_n 3, 1) := by decide +kernel
theorem d_Me_mend_89 : decode b_Me_mend 89 = .ok (.invokestatic 104, 3) := by decide +kernel
theorem d_Me_mend_92 : decode b_Me_mend 92 = .ok (.ireturn, 1) := by decide +kernel
theorem d_Me_mend_93 : decode b_Me_mend 93 = .ok (.iload_n 1, 1) := by decide +kernel
theorem d_Me_mend_94 : decode b_Me_mend 94 = .ok (.iload 4, 2) := by decide +kernel
theorem d_Me_mend_96 : decode b_Me_mend 96 = .ok (.iconst 4, 1) := by decide +kernel
theorem d_Me_mend_97 : decode b_Me_mend 97 = .ok (.iadd, 1) := by decide +kernel
theorem d_Me_mend_98 : decode b_Me_mend 98 = .ok (.aload_n 0, 1) := by decide +kernel
theorem d_Me_mend_99 : decode b_Me_mend 99 = .ok (.getfield 23, 3) := by decide +kernel
theorem d_Me_mend_102 : decode b_Me_mend 102 = .ok (.iload_n 2, 1) := by decide +kernel
theorem d_Me_mend_103 : decode b_Me_mend 103 = .ok (.iload_n 3, 1) := by decide +kernel
theorem d_Me_mend_104 : decode b_Me_mend 104 = .ok (.invokevirtual 47, 3) := by decide +kernel
theorem d_Me_mend_107 : decode b_Me_mend 107 = .ok (.invokestatic 107, 3) := by decide +kernel
theorem d_Me_mend_110 : decode b_Me_mend 110 = .ok (.invokestatic 104, 3) := by decide +kernel
theorem d_Me_mend_113 : decode b_Me_mend 113 = .ok (.ireturn, 1) := by decide +kernel
theorem d_Me_mend_114 : decode b_Me_mend 114 = .ok (.iload_n 1, 1) := by decide +kernel
theorem d_Me_mend_115 : decode b_Me_mend 115 = .ok (.ldc 110, 2) := by decide +kernel
theorem d_Me_mend_117 : decode b_Me_mend 117 = .ok (.iand, 1) := by decide +kernel
theorem d_Me_mend_118 : decode b_Me_mend 118 = .ok (.iload_n 3, 1) := by decide +kernel
theorem d_Me_mend_119 : decode b_Me_mend 119 = .ok (.iconst 2, 1) := by decide +kernel
theorem d_Me_mend_120 : decode b_Me_mend 120 = .ok (.iushr, 1) := by decide +kernel
theorem d_Me_mend_121 : decode b_Me_mend 121 = .ok (.ldc 111, 2) := by decide +kernel
theorem d_Me_mend_123 : decode b_Me_mend 123 = .ok (.iand, 1) := by decide +kernel
theorem d_Me_mend_124 : decode b_Me_mend 124 = .ok (.ior, 1) := by decide +kernel
theorem d_Me_mend_125 : decode b_Me_mend 125 = .ok (.ireturn, 1) := by decide +kernel
theorem d_Me_mended_0 : decode b_Me_mended 0 = .ok (.aload_n 0, 1) := by decide +kernel
theorem d_Me_mended_1 : decode b_Me_mended 1 = .ok (.getfield 9, 3) := by decide +kernel
theorem d_Me_mended_4 : decode b_Me_mended 4 = .ok (.iload_n 1, 1) := by decide +kernel
theorem d_Me_mended_5 : decode b_Me_mended 5 = .ok (.iload_n 2, 1) := by decide +kernel
theorem d_Me_mended_6 : decode b_Me_mended 6 = .ok (.invokevirtual 86, 3) := by decide +kernel
theorem d_Me_mended_9 : decode b_Me_mended 9 = .ok (.istore_n 3, 1) := by decide +kernel
theorem d_Me_mended_10 : decode b_Me_mended 10 = .ok (.iconst 0, 1) := by decide +kernel
theorem d_Me_mended_11 : decode b_Me_mended 11 = .ok (.istore 4, 2) := by decide +kernel
theorem d_Me_mended_13 : decode b_Me_mended 13 = .ok (.iload 4, 2) := by decide +kernel
theorem d_Me_mended_15 : decode b_Me_mended 15 = .ok (.aload_n 0, 1) := by decide +kernel
theorem d_Me_mended_16 : decode b_Me_mended 16 = .ok (.getfield 15, 3) := by decide +kernel
theorem d_Me_mended_19 : decode b_Me_mended 19 = .ok (.iload_n 1, 1) := by decide +kernel
theorem d_Me_mended_20 : decode b_Me_mended 20 = .ok (.invokevirtual 88, 3) := by decide +kernel
theorem d_Me_mended_23 : decode b_Me_mended 23 = .ok (.if_icmp .ge 43, 3) := by decide +kernel
theorem d_Me_mended_26 : decode b_Me_mended 26 = .ok (.aload_n 0, 1) := by decide +kernel
theorem d_Me_mended_27 : decode b_Me_mended 27 = .ok (.getfield 15, 3) := by decide +kernel
theorem d_Me_mended_30 : decode b_Me_mended 30 = .ok (.iload_n 1, 1) := by decide +kernel
theorem d_Me_mended_31 : decode b_Me_mended 31 = .ok (.iload 4, 2) := by decide +kernel
theorem d_Me_mended_33 : decode b_Me_mended 33 = .ok (.invokevirtual 91, 3) := by decide +kernel
theorem d_Me_mended_36 : decode b_Me_mended 36 = .ok (.istore 5, 2) := by decide +kernel
theorem d_Me_mended_38 : decode b_Me_mended 38 = .ok (.aload_n 0, 1) := by decide +kernel
theorem d_Me_mended_39 : decode b_Me_mended 39 = .ok (.getfield 15, 3) := by decide +kernel
theorem d_Me_mended_42 : decode b_Me_mended 42 = .ok (.getfield 94, 3) := by decide +kernel
theorem d_Me_mended_45 : decode b_Me_mended 45 = .ok (.iload 5, 2) := by decide +kernel
theorem d_Me_mended_47 : decode b_Me_mended 47 = .ok (.iaload, 1) := by decide +kernel
theorem d_Me_mended_48 : decode b_Me_mended 48 = .ok (.iload_n 2, 1) := by decide +kernel
theorem d_Me_mended_49 : decode b_Me_mended 49 = .ok (.if_icmp .ne 11, 3) := by decide +kernel
theorem d_Me_mended_52 : decode b_Me_mended 52 = .ok (.aload_n 0, 1) := by decide +kernel
theorem d_Me_mended_53 : decode b_Me_mended 53 = .ok (.iload_n 3, 1) := by decide +kernel
theorem d_Me_mended_54 : decode b_Me_mended 54 = .ok (.iload 5, 2) := by decide +kernel
theorem d_Me_mended_56 : decode b_Me_mended 56 = .ok (.invokevirtual 97, 3) := by decide +kernel
theorem d_Me_mended_59 : decode b_Me_mended 59 = .ok (.istore_n 3, 1) := by decide +kernel
theorem d_Me_mended_60 : decode b_Me_mended 60 = .ok (.iinc 4 1, 3) := by decide +kernel
theorem d_Me_mended_63 : decode b_Me_mended 63 = .ok (.goto (-50), 3) := by decide +kernel
theorem d_Me_mended_66 : decode b_Me_mended 66 = .ok (.iload_n 3, 1) := by decide +kernel
theorem d_Me_mended_67 : decode b_Me_mended 67 = .ok (.ireturn, 1) := by decide +kernel
theorem d_Me_read_0 : decode b_Me_read 0 = .ok (.aload_n 0, 1) := by decide +kernel
theorem d_Me_read_1 : decode b_Me_read 1 = .ok (.getfield 19, 3) := by decide +kernel
theorem d_Me_read_4 : decode b_Me_read 4 = .ok (.iload_n 1, 1) := by decide +kernel
theorem d_Me_read_5 : decode b_Me_read 5 = .ok (.invokevirtual 66, 3) := by decide +kernel
theorem d_Me_read_8 : decode b_Me_read 8 = .ok (.istore_n 2, 1) := by decide +kernel
theorem d_Me_read_9 : decode b_Me_read 9 = .ok (.iload_n 2, 1) := by decide +kernel
theorem d_Me_read_10 : decode b_Me_read 10 = .ok (.iconst (-1), 1) := by decide +kernel
theorem d_Me_read_11 : decode b_Me_read 11 = .ok (.if_icmp .ne 27, 3) := by decide +kernel
theorem d_Me_read_14 : decode b_Me_read 14 = .ok (.aload_n 0, 1) := by decide +kernel
theorem d_Me_read_15 : decode b_Me_read 15 = .ok (.getfield 23, 3) := by decide +kernel
theorem d_Me_read_18 : decode b_Me_read 18 = .ok (.iload_n 1, 1) := by decide +kernel
theorem d_Me_read_19 : decode b_Me_read 19 = .ok (.invokevirtual 69, 3) := by decide +kernel
theorem d_Me_read_22 : decode b_Me_read 22 = .ok (.ifCond .eq 14, 3) := by decide +kernel
theorem d_Me_read_25 : decode b_Me_read 25 = .ok (.aload_n 0, 1) := by decide +kernel
theorem d_Me_read_26 : decode b_Me_read 26 = .ok (.getfield 23, 3) := by decide +kernel
theorem d_Me_read_29 : decode b_Me_read 29 = .ok (.iload_n 1, 1) := by decide +kernel
theorem d_Me_read_30 : decode b_Me_read 30 = .ok (.invokevirtual 72, 3) := by decide +kernel
theorem d_Me_read_33 : decode b_Me_read 33 = .ok (.goto 4, 3) := by decide +kernel
theorem d_Me_read_36 : decode b_Me_read 36 = .ok (.iconst 0, 1) := by decide +kernel
theorem d_Me_read_37 : decode b_Me_read 37 = .ok (.ireturn, 1) := by decide +kernel
theorem d_Me_read_38 : decode b_Me_read 38 = .ok (.aload_n 0, 1) := by decide +kernel
theorem d_Me_read_39 : decode b_Me_read 39 = .ok (.getfield 9, 3) := by decide +kernel
theorem d_Me_read_42 : decode b_Me_read 42 = .ok (.getfield 75, 3) := by decide +kernel
theorem d_Me_read_45 : decode b_Me_read 45 = .ok (.iload_n 2, 1) := by decide +kernel
theorem d_Me_read_46 : decode b_Me_read 46 = .ok (.iaload, 1) := by decide +kernel
theorem d_Me_read_47 : decode b_Me_read 47 = .ok (.iconst 2, 1) := by decide +kernel
theorem d_Me_read_48 : decode b_Me_read 48 = .ok (.if_icmp .ne 5, 3) := by decide +kernel
theorem d_Me_read_51 : decode b_Me_read 51 = .ok (.iconst 0, 1) := by decide +kernel
theorem d_Me_read_52 : decode b_Me_read 52 = .ok (.ireturn, 1) := by decide +kernel
theorem d_Me_read_53 : decode b_Me_read 53 = .ok (.aload_n 0, 1) := by decide +kernel
theorem d_Me_read_54 : decode b_Me_read 54 = .ok (.iload_n 2, 1) := by decide +kernel
theorem d_Me_read_55 : decode b_Me_read 55 = .ok (.iload_n 1, 1) := by decide +kernel
theorem d_Me_read_56 : decode b_Me_read 56 = .ok (.aload_n 0, 1) := by decide +kernel
theorem d_Me_read_57 : decode b_Me_read 57 = .ok (.getfield 19, 3) := by decide +kernel
theorem d_Me_read_60 : decode b_Me_read 60 = .ok (.getfield 80, 3) := by decide +kernel
theorem d_Me_read_63 : decode b_Me_read 63 = .ok (.iload_n 2, 1) := by decide +kernel
theorem d_Me_read_64 : decode b_Me_read 64 = .ok (.iaload, 1) := by decide +kernel
theorem d_Me_read_65 : decode b_Me_read 65 = .ok (.isub, 1) := by decide +kernel
theorem d_Me_read_66 : decode b_Me_read 66 = .ok (.invokevirtual 83, 3) := by decide +kernel
theorem d_Me_read_69 : decode b_Me_read 69 = .ok (.ireturn, 1) := by decide +kernel
end
section
set_option maxHeartbeats 4000000 in
set_option maxRecDepth 100000 in
theorem c_La_isLaid (l : Launch) (D : va_G) (cI cZ : ClassId) (a : Nat → Nat) {V : Sto} {p1 : Int32} {r : Int32} {V' : Sto} (h : f_La_isLaid V p1 = some (r, V')) : YMi l D cI cZ a shpC y_La_isLaid b_La_isLaid 2 (some .boolean) rm_La_isLaid [.ref (a 9), .int p1] V r V' := by
  refine YMi_of (by decide) (Nat.le_of_ble_eq_true rfl) ?_
  intro C hl hDD hcI hcZ ha hC hE
  subst hl hDD hcI hcZ ha
  show Y C shpC 2 0 [(0, .ref (C.a 9)), (1, .int p1)] [] V
  rw [f_La_isLaid] at h
  refine Y_aload_n (pc := 0) hC d_La_isLaid_0 rfl 0 rfl ?_
  refine Y_getR (pc := 1) hC sc_9 fl_La_22 rfl d_La_isLaid_1 ?_
  refine Y_getR (pc := 4) hC sc_6 fl_La_98 rfl d_La_isLaid_4 ?_
  refine Y_iload_n (pc := 7) hC d_La_isLaid_7 rfl 1 rfl ?_
  obtain ⟨hi, h⟩ := ck_some h
  refine Y_iald (pc := 8) hC sc_40 rfl hi d_La_isLaid_8 ?_
  by_cases cs_9_0 : (V 40 p1.toNatClampNeg) = 1
  · have h := ifp cs_9_0 h
    refine Y_lookup (pc := 9) hC (off := 27) 36 d_La_isLaid_9 (by decide) (by rw [cs_9_0]; try rfl) rfl ?_
    refine Y_aload_n (pc := 36) hC d_La_isLaid_36 rfl 0 rfl ?_
    refine Y_getR (pc := 37) hC sc_9 fl_La_26 rfl d_La_isLaid_37 ?_
    refine Y_getR (pc := 40) hC sc_7 fl_La_77 rfl d_La_isLaid_40 ?_
    refine Y_aload_n (pc := 43) hC d_La_isLaid_43 rfl 0 rfl ?_
    refine Y_getR (pc := 44) hC sc_9 fl_La_22 rfl d_La_isLaid_44 ?_
    refine Y_getR (pc := 47) hC sc_6 fl_La_101 rfl d_La_isLaid_47 ?_
    refine Y_iload_n (pc := 50) hC d_La_isLaid_50 rfl 1 rfl ?_
    obtain ⟨hi, h⟩ := ck_some h
    refine Y_iald (pc := 51) hC sc_41 rfl hi d_La_isLaid_51 ?_
    obtain ⟨hi, h⟩ := ck_some h
    refine Y_zald (pc := 52) hC sc_43 rfl hi d_La_isLaid_52 ?_
    obtain ⟨hbb, h⟩ := ck_some h
    exact Y_zret (pc := 53) hC hE d_La_isLaid_53 hbb h
  · have h := ifn cs_9_0 h
    by_cases cs_9_1 : (V 40 p1.toNatClampNeg) = 3
    · have h := ifp cs_9_1 h
      refine Y_lookup (pc := 9) hC (off := 45) 54 d_La_isLaid_9 (by decide) (by rw [cs_9_1]; try rfl) rfl ?_
      refine Y_aload_n (pc := 54) hC d_La_isLaid_54 rfl 0 rfl ?_
      refine Y_getR (pc := 55) hC sc_9 fl_La_26 rfl d_La_isLaid_55 ?_
      refine Y_getR (pc := 58) hC sc_7 fl_La_61 rfl d_La_isLaid_58 ?_
      refine Y_aload_n (pc := 61) hC d_La_isLaid_61 rfl 0 rfl ?_
      refine Y_getR (pc := 62) hC sc_9 fl_La_22 rfl d_La_isLaid_62 ?_
      refine Y_getR (pc := 65) hC sc_6 fl_La_101 rfl d_La_isLaid_65 ?_
      refine Y_iload_n (pc := 68) hC d_La_isLaid_68 rfl 1 rfl ?_
      obtain ⟨hi, h⟩ := ck_some h
      refine Y_iald (pc := 69) hC sc_41 rfl hi d_La_isLaid_69 ?_
      obtain ⟨hi, h⟩ := ck_some h
      refine Y_zald (pc := 70) hC sc_44 rfl hi d_La_isLaid_70 ?_
      obtain ⟨hbb, h⟩ := ck_some h
      exact Y_zret (pc := 71) hC hE d_La_isLaid_71 hbb h
    · have h := ifn cs_9_1 h
      have cn_0 := i32_ne cs_9_0
      have cn_1 := i32_ne cs_9_1
      simp only [i32lit_1, i32lit_3] at cn_0 cn_1
      refine Y_lookup (pc := 9) hC (off := 63) 72 d_La_isLaid_9 (by decide) (by simp [Op.lookupswitch.offset, Ne.symm cn_0, cn_0, Ne.symm cn_1, cn_1]) rfl ?_
      refine Y_aload_n (pc := 72) hC d_La_isLaid_72 rfl 0 rfl ?_
      refine Y_getR (pc := 73) hC sc_9 fl_La_22 rfl d_La_isLaid_73 ?_
      refine Y_getR (pc := 76) hC sc_6 fl_La_98 rfl d_La_isLaid_76 ?_
      refine Y_iload_n (pc := 79) hC d_La_isLaid_79 rfl 1 rfl ?_
      obtain ⟨hi, h⟩ := ck_some h
      refine Y_iald (pc := 80) hC sc_40 rfl hi d_La_isLaid_80 ?_
      refine Y_iconst (pc := 81) hC d_La_isLaid_81 ki_2 ?_
      refine Y_icmp_ne (pc := 82) hC 89 d_La_isLaid_82 rfl (fun cc_82 => ?_) (fun cc_82 => ?_)
      · have h := ifn cc_82 h
        refine Y_iconst (pc := 89) hC d_La_isLaid_89 ki_0 ?_
        exact Y_zret (pc := 90) hC hE d_La_isLaid_90 rfl h
      · have h := ifp cc_82 h
        refine Y_iconst (pc := 85) hC d_La_isLaid_85 ki_1 ?_
        refine Y_goto (pc := 86) hC 90 d_La_isLaid_86 rfl ?_
        exact Y_zret (pc := 90) hC hE d_La_isLaid_90 rfl h
set_option maxHeartbeats 4000000 in
set_option maxRecDepth 100000 in
theorem ylp_La_sectionAt_2 {C : YC} {r : Int32} {V' : Sto} {x1 : Int32} {k51 : Int32 → Sto → RT} {k59 : Sto → RT} (hC : YF C R_La b_La_sectionAt 3 rm_La_sectionAt) (hE : YEi C .int shpC r V') (hk51 : ∀ (y2 : Int32) (V1 : Sto), k51 y2 V1 = some (r, V') → Y C shpC 3 51 [(2, .int y2)] [] V1) (hk59 : ∀ (V1 : Sto), k59 V1 = some (r, V') → Y C shpC 3 59 [] [] V1) : ∀ (n : Nat) (x2 : Int32) (V : Sto), lp_La_sectionAt_2 x1 k51 k59 n x2 V = some (r, V') → Y C shpC 3 2 [(0, .ref (C.a 9)), (1, .int x1), (2, .int x2)] [] V := by
  intro n
  induction n with
  | zero =>
    intro x2 V h
    rw [lp_La_sectionAt_2] at h
    cases h
  | succ n ih =>
    intro x2 V h
    rw [lp_La_sectionAt_2] at h
    refine Y_iload_n (pc := 2) hC d_La_sectionAt_2 rfl 2 rfl ?_
    refine Y_aload_n (pc := 3) hC d_La_sectionAt_3 rfl 0 rfl ?_
    refine Y_getR (pc := 4) hC sc_9 fl_La_18 rfl d_La_sectionAt_4 ?_
    refine Y_getI (pc := 7) hC sc_2 fl_La_72 rfl d_La_sectionAt_7 ?_
    refine Y_icmp_ge (pc := 10) hC 59 d_La_sectionAt_10 rfl (fun cc_10 => ?_) (fun cc_10 => ?_)
    · have h := ifp cc_10 h
      refine Y_sub (pc := 59) [] rfl ?_
      exact hk59 _ h
    · have h := ifn cc_10 h
      refine Y_aload_n (pc := 13) hC d_La_sectionAt_13 rfl 0 rfl ?_
      refine Y_iload_n (pc := 14) hC d_La_sectionAt_14 rfl 2 rfl ?_
      obtain ⟨r1, V1, hc_r1, h⟩ := cl_some h
      refine Y_callV (pc := 15) hC (c_La_isStanding C.l C.D C.cI C.cZ C.a hc_r1) sc_9 cls_La ml_La_110 mv_La_isStanding (by decide) (Nat.le_of_ble_eq_true rfl) rfl d_La_sectionAt_15 ?_
      refine Y_if_eq (pc := 18) hC 53 d_La_sectionAt_18 rfl (fun cc_18 => ?_) (fun cc_18 => ?_)
      · have h := ifp cc_18 h
        refine Y_iinc (pc := 53) hC (v := x2 + 1) (L' := [(2, .int (x2 + 1)), (0, .ref (C.a 9)), (1, .int x1)]) d_La_sectionAt_53 2 rfl rfl (by decide) rfl ?_
        refine Y_goto (pc := 56) hC 2 d_La_sectionAt_56 rfl ?_
        refine Y_sub (pc := 2) [1, 2, 0] rfl ?_
        exact ih _ _ h
      · have h := ifn cc_18 h
        refine Y_iload_n (pc := 21) hC d_La_sectionAt_21 rfl 1 rfl ?_
        refine Y_aload_n (pc := 22) hC d_La_sectionAt_22 rfl 0 rfl ?_
        refine Y_getR (pc := 23) hC sc_9 fl_La_9 rfl d_La_sectionAt_23 ?_
        refine Y_iload_n (pc := 26) hC d_La_sectionAt_26 rfl 2 rfl ?_
        obtain ⟨hi, h⟩ := ck_some h
        refine Y_iald (pc := 27) hC sc_48 rfl hi d_La_sectionAt_27 ?_
        refine Y_icmp_lt (pc := 28) hC 53 d_La_sectionAt_28 rfl (fun cc_28 => ?_) (fun cc_28 => ?_)
        · have h := ifp cc_28 h
          refine Y_iinc (pc := 53) hC (v := x2 + 1) (L' := [(2, .int (x2 + 1)), (0, .ref (C.a 9)), (1, .int x1)]) d_La_sectionAt_53 2 rfl rfl (by decide) rfl ?_
          refine Y_goto (pc := 56) hC 2 d_La_sectionAt_56 rfl ?_
          refine Y_sub (pc := 2) [1, 2, 0] rfl ?_
          exact ih _ _ h
        · have h := ifn cc_28 h
          refine Y_iload_n (pc := 31) hC d_La_sectionAt_31 rfl 1 rfl ?_
          refine Y_aload_n (pc := 32) hC d_La_sectionAt_32 rfl 0 rfl ?_
          refine Y_getR (pc := 33) hC sc_9 fl_La_9 rfl d_La_sectionAt_33 ?_
          refine Y_iload_n (pc := 36) hC d_La_sectionAt_36 rfl 2 rfl ?_
          obtain ⟨hi, h⟩ := ck_some h
          refine Y_iald (pc := 37) hC sc_48 rfl hi d_La_sectionAt_37 ?_
          refine Y_aload_n (pc := 38) hC d_La_sectionAt_38 rfl 0 rfl ?_
          refine Y_getR (pc := 39) hC sc_9 fl_La_18 rfl d_La_sectionAt_39 ?_
          refine Y_getR (pc := 42) hC sc_2 fl_La_92 rfl d_La_sectionAt_42 ?_
          refine Y_iload_n (pc := 45) hC d_La_sectionAt_45 rfl 2 rfl ?_
          obtain ⟨hi, h⟩ := ck_some h
          refine Y_iald (pc := 46) hC sc_17 rfl hi d_La_sectionAt_46 ?_
          refine Y_iadd (pc := 47) hC d_La_sectionAt_47 ?_
          refine Y_icmp_ge (pc := 48) hC 53 d_La_sectionAt_48 rfl (fun cc_48 => ?_) (fun cc_48 => ?_)
          · have h := ifp cc_48 h
            refine Y_iinc (pc := 53) hC (v := x2 + 1) (L' := [(2, .int (x2 + 1)), (0, .ref (C.a 9)), (1, .int x1)]) d_La_sectionAt_53 2 rfl rfl (by decide) rfl ?_
            refine Y_goto (pc := 56) hC 2 d_La_sectionAt_56 rfl ?_
            refine Y_sub (pc := 2) [1, 2, 0] rfl ?_
            exact ih _ _ h
          · have h := ifn cc_48 h
            refine Y_sub (pc := 51) [2] rfl ?_
            exact hk51 _ _ h
set_option maxHeartbeats 4000000 in
set_option maxRecDepth 100000 in
theorem c_La_sectionAt (l : Launch) (D : va_G) (cI cZ : ClassId) (a : Nat → Nat) {V : Sto} {p1 : Int32} {r : Int32} {V' : Sto} (h : f_La_sectionAt V p1 = some (r, V')) : YMi l D cI cZ a shpC y_La_sectionAt b_La_sectionAt 3 (some .int) rm_La_sectionAt [.ref (a 9), .int p1] V r V' := by
  refine YMi_of (by decide) (Nat.le_of_ble_eq_true rfl) ?_
  intro C hl hDD hcI hcZ ha hC hE
  subst hl hDD hcI hcZ ha
  show Y C shpC 3 0 [(0, .ref (C.a 9)), (1, .int p1)] [] V
  rw [f_La_sectionAt] at h
  refine Y_iconst (pc := 0) hC d_La_sectionAt_0 ki_0 ?_
  refine Y_istore_n (pc := 1) hC (L' := [(2, .int 0), (0, .ref (C.a 9)), (1, .int p1)]) d_La_sectionAt_1 rfl (by decide) rfl ?_
  refine Y_sub (pc := 2) [1, 2, 0] rfl ?_
  refine ylp_La_sectionAt_2 hC hE (fun y1 V2 h => ?_) (fun V3 h => ?_) FU _ _ h
  · have h := h
    refine Y_iload_n (pc := 51) hC d_La_sectionAt_51 rfl 0 rfl ?_
    exact Y_iret (pc := 52) hC hE d_La_sectionAt_52 h
  · have h := h
    refine Y_iconst (pc := 59) hC d_La_sectionAt_59 ki_m1 ?_
    exact Y_iret (pc := 60) hC hE d_La_sectionAt_60 h
set_option maxHeartbeats 4000000 in
set_option maxRecDepth 100000 in
theorem c_Is_covers (l : Launch) (D : va_G) (cI cZ : ClassId) (a : Nat → Nat) {V : Sto} {p1 : Int32} {r : Int32} {V' : Sto} (h : f_Is_covers V p1 = some (r, V')) : YMi l D cI cZ a shpC y_Is_covers b_Is_covers 2 (some .boolean) rm_Is_covers [.ref (a 10), .int p1] V r V' := by
  refine YMi_of (by decide) (Nat.le_of_ble_eq_true rfl) ?_
  intro C hl hDD hcI hcZ ha hC hE
  subst hl hDD hcI hcZ ha
  show Y C shpC 2 0 [(0, .ref (C.a 10)), (1, .int p1)] [] V
  rw [f_Is_covers] at h
  refine Y_iload_n (pc := 0) hC d_Is_covers_0 rfl 1 rfl ?_
  refine Y_aload_n (pc := 1) hC d_Is_covers_1 rfl 0 rfl ?_
  refine Y_getR (pc := 2) hC sc_10 fl_Is_40 rfl d_Is_covers_2 ?_
  refine Y_getI (pc := 5) hC sc_9 fl_Is_134 rfl d_Is_covers_5 ?_
  refine Y_icmp_lt (pc := 8) hC 34 d_Is_covers_8 rfl (fun cc_8 => ?_) (fun cc_8 => ?_)
  · have h := ifp cc_8 h
    refine Y_iconst (pc := 34) hC d_Is_covers_34 ki_0 ?_
    exact Y_zret (pc := 35) hC hE d_Is_covers_35 rfl h
  · have h := ifn cc_8 h
    refine Y_iload_n (pc := 11) hC d_Is_covers_11 rfl 1 rfl ?_
    refine Y_aload_n (pc := 12) hC d_Is_covers_12 rfl 0 rfl ?_
    refine Y_getR (pc := 13) hC sc_10 fl_Is_40 rfl d_Is_covers_13 ?_
    refine Y_getI (pc := 16) hC sc_9 fl_Is_134 rfl d_Is_covers_16 ?_
    refine Y_aload_n (pc := 19) hC d_Is_covers_19 rfl 0 rfl ?_
    refine Y_getI (pc := 20) hC sc_10 fl_Is_44 rfl d_Is_covers_20 ?_
    refine Y_bipush (pc := 23) hC d_Is_covers_23 kb_8 ?_
    refine Y_imul (pc := 25) hC d_Is_covers_25 ?_
    refine Y_iadd (pc := 26) hC d_Is_covers_26 ?_
    refine Y_icmp_ge (pc := 27) hC 34 d_Is_covers_27 rfl (fun cc_27 => ?_) (fun cc_27 => ?_)
    · have h := ifp cc_27 h
      refine Y_iconst (pc := 34) hC d_Is_covers_34 ki_0 ?_
      exact Y_zret (pc := 35) hC hE d_Is_covers_35 rfl h
    · have h := ifn cc_27 h
      refine Y_iconst (pc := 30) hC d_Is_covers_30 ki_1 ?_
      refine Y_goto (pc := 31) hC 35 d_Is_covers_31 rfl ?_
      exact Y_zret (pc := 35) hC hE d_Is_covers_35 rfl h
set_option maxHeartbeats 4000000 in
set_option maxRecDepth 100000 in
theorem c_Is_read (l : Launch) (D : va_G) (cI cZ : ClassId) (a : Nat → Nat) {V : Sto} {p1 : Int32} {r : Int32} {V' : Sto} (h : f_Is_read V p1 = some (r, V')) : YMi l D cI cZ a shpC y_Is_read b_Is_read 4 (some .int) rm_Is_read [.ref (a 10), .int p1] V r V' := by
  refine YMi_of (by decide) (Nat.le_of_ble_eq_true rfl) ?_
  intro C hl hDD hcI hcZ ha hC hE
  subst hl hDD hcI hcZ ha
  show Y C shpC 4 0 [(0, .ref (C.a 10)), (1, .int p1)] [] V
  rw [f_Is_read] at h
  refine Y_iload_n (pc := 0) hC d_Is_read_0 rfl 1 rfl ?_
  refine Y_aload_n (pc := 1) hC d_Is_read_1 rfl 0 rfl ?_
  refine Y_getR (pc := 2) hC sc_10 fl_Is_40 rfl d_Is_read_2 ?_
  refine Y_getI (pc := 5) hC sc_9 fl_Is_134 rfl d_Is_read_5 ?_
  refine Y_isub (pc := 8) hC d_Is_read_8 ?_
  refine Y_istore_n (pc := 9) hC (L' := [(2, .int (p1 - (V 9 7))), (0, .ref (C.a 10)), (1, .int p1)]) d_Is_read_9 rfl (by decide) rfl ?_
  refine Y_iload_n (pc := 10) hC d_Is_read_10 rfl 0 rfl ?_
  refine Y_bipush (pc := 11) hC d_Is_read_11 kb_8 ?_
  refine Y_irem (pc := 13) hC d_Is_read_13 (by decide) ?_
  refine Y_if_eq (pc := 14) hC 19 d_Is_read_14 rfl (fun cc_14 => ?_) (fun cc_14 => ?_)
  · have h := ifp cc_14 h
    refine Y_iload_n (pc := 19) hC d_Is_read_19 rfl 0 rfl ?_
    refine Y_bipush (pc := 20) hC d_Is_read_20 kb_8 ?_
    refine Y_idiv (pc := 22) hC d_Is_read_22 (by decide) ?_
    refine Y_istore_n (pc := 23) hC (L' := [(3, .int ((p1 - (V 9 7)) / 8)), (2, .int (p1 - (V 9 7))), (0, .ref (C.a 10)), (1, .int p1)]) d_Is_read_23 rfl (by decide) rfl ?_
    refine Y_aload_n (pc := 24) hC d_Is_read_24 rfl 2 rfl ?_
    refine Y_getR (pc := 25) hC sc_10 fl_Is_40 rfl d_Is_read_25 ?_
    refine Y_aload_n (pc := 28) hC d_Is_read_28 rfl 2 rfl ?_
    refine Y_getR (pc := 29) hC sc_10 fl_Is_9 rfl d_Is_read_29 ?_
    refine Y_iload_n (pc := 32) hC d_Is_read_32 rfl 0 rfl ?_
    obtain ⟨hi, h⟩ := ck_some h
    refine Y_iald (pc := 33) hC sc_50 rfl hi d_Is_read_33 ?_
    refine Y_aload_n (pc := 34) hC d_Is_read_34 rfl 2 rfl ?_
    refine Y_getR (pc := 35) hC sc_10 fl_Is_15 rfl d_Is_read_35 ?_
    refine Y_iload_n (pc := 38) hC d_Is_read_38 rfl 0 rfl ?_
    obtain ⟨hi, h⟩ := ck_some h
    refine Y_iald (pc := 39) hC sc_51 rfl hi d_Is_read_39 ?_
    obtain ⟨r1, V1, hc_r1, h⟩ := cl_some h
    refine Y_callV (pc := 40) hC (c_La_startOf C.l C.D C.cI C.cZ C.a hc_r1) sc_9 cls_La ml_Is_146 mv_La_startOf (by decide) (Nat.le_of_ble_eq_true rfl) rfl d_Is_read_40 ?_
    refine Y_aload_n (pc := 43) hC d_Is_read_43 rfl 2 rfl ?_
    refine Y_getR (pc := 44) hC sc_10 fl_Is_18 rfl d_Is_read_44 ?_
    refine Y_iload_n (pc := 47) hC d_Is_read_47 rfl 0 rfl ?_
    obtain ⟨hi, h⟩ := ck_some h
    refine Y_iald (pc := 48) hC sc_52 rfl hi d_Is_read_48 ?_
    refine Y_iadd (pc := 49) hC d_Is_read_49 ?_
    exact Y_iret (pc := 50) hC hE d_Is_read_50 h
  · have h := ifn cc_14 h
    refine Y_iconst (pc := 17) hC d_Is_read_17 ki_0 ?_
    exact Y_iret (pc := 18) hC hE d_Is_read_18 h
set_option maxHeartbeats 4000000 in
set_option maxRecDepth 100000 in
theorem c_Me_withLowerHalf (l : Launch) (D : va_G) (cI cZ : ClassId) (a : Nat → Nat) {V : Sto} {p0 p1 : Int32} {r : Int32} {V' : Sto} (h : f_Me_withLowerHalf V p0 p1 = some (r, V')) : YMi l D cI cZ a shpC y_Me_withLowerHalf b_Me_withLowerHalf 2 (some .int) rm_Me_withLowerHalf [.int p0, .int p1] V r V' := by
  refine YMi_of (by decide) (Nat.le_of_ble_eq_true rfl) ?_
  intro C hl hDD hcI hcZ ha hC hE
  subst hl hDD hcI hcZ ha
  show Y C shpC 2 0 [(0, .int p0), (1, .int p1)] [] V
  rw [f_Me_withLowerHalf] at h
  refine Y_iload_n (pc := 0) hC d_Me_withLowerHalf_0 rfl 0 rfl ?_
  refine Y_ldc (pc := 1) hC kc_Me_112 d_Me_withLowerHalf_1 ?_
  refine Y_iand (pc := 3) hC d_Me_withLowerHalf_3 ?_
  refine Y_iload_n (pc := 4) hC d_Me_withLowerHalf_4 rfl 1 rfl ?_
  refine Y_ldc (pc := 5) hC kc_Me_113 d_Me_withLowerHalf_5 ?_
  refine Y_iand (pc := 7) hC d_Me_withLowerHalf_7 ?_
  refine Y_ior (pc := 8) hC d_Me_withLowerHalf_8 ?_
  exact Y_iret (pc := 9) hC hE d_Me_withLowerHalf_9 h
set_option maxHeartbeats 4000000 in
set_option maxRecDepth 100000 in
theorem c_Me_wordsBetween (l : Launch) (D : va_G) (cI cZ : ClassId) (a : Nat → Nat) {V : Sto} {p0 p1 : Int32} {r : Int32} {V' : Sto} (h : f_Me_wordsBetween V p0 p1 = some (r, V')) : YMi l D cI cZ a shpC y_Me_wordsBetween b_Me_wordsBetween 2 (some .int) rm_Me_wordsBetween [.int p0, .int p1] V r V' := by
  refine YMi_of (by decide) (Nat.le_of_ble_eq_true rfl) ?_
  intro C hl hDD hcI hcZ ha hC hE
  subst hl hDD hcI hcZ ha
  show Y C shpC 2 0 [(0, .int p0), (1, .int p1)] [] V
  rw [f_Me_wordsBetween] at h
  refine Y_iload_n (pc := 0) hC d_Me_wordsBetween_0 rfl 1 rfl ?_
  refine Y_iload_n (pc := 1) hC d_Me_wordsBetween_1 rfl 0 rfl ?_
  refine Y_isub (pc := 2) hC d_Me_wordsBetween_2 ?_
  refine Y_iconst (pc := 3) hC d_Me_wordsBetween_3 ki_4 ?_
  refine Y_idiv (pc := 4) hC d_Me_wordsBetween_4 (by decide) ?_
  exact Y_iret (pc := 5) hC hE d_Me_wordsBetween_5 h
set_option maxHeartbeats 4000000 in
set_option maxRecDepth 100000 in
theorem c_Me_mend (l : Launch) (D : va_G) (cI cZ : ClassId) (a : Nat → Nat) {V : Sto} {p1 p2 : Int32} {r : Int32} {V' : Sto} (h : f_Me_mend V p1 p2 = some (r, V')) : YMi l D cI cZ a shpC y_Me_mend b_Me_mend 5 (some .int) rm_Me_mend [.ref (a 11), .int p1, .int p2] V r V' := by
  refine YMi_of (by decide) (Nat.le_of_ble_eq_true rfl) ?_
  intro C hl hDD hcI hcZ ha hC hE
  subst hl hDD hcI hcZ ha
  show Y C shpC 5 0 [(0, .ref (C.a 11)), (1, .int p1), (2, .int p2)] [] V
  rw [f_Me_mend] at h
  refine Y_aload_n (pc := 0) hC d_Me_mend_0 rfl 0 rfl ?_
  refine Y_getR (pc := 1) hC sc_11 fl_Me_23 rfl d_Me_mend_1 ?_
  refine Y_iload_n (pc := 4) hC d_Me_mend_4 rfl 2 rfl ?_
  obtain ⟨r1, V1, hc_r1, h⟩ := cl_some h
  refine Y_callV (pc := 5) hC (c_Is_targetOf C.l C.D C.cI C.cZ C.a hc_r1) sc_10 cls_Is ml_Me_41 mv_Is_targetOf (by decide) (Nat.le_of_ble_eq_true rfl) rfl d_Me_mend_5 ?_
  refine Y_istore_n (pc := 8) hC (L' := [(3, .int r1), (0, .ref (C.a 11)), (1, .int p1), (2, .int p2)]) d_Me_mend_8 rfl (by decide) rfl ?_
  refine Y_aload_n (pc := 9) hC d_Me_mend_9 rfl 1 rfl ?_
  refine Y_getR (pc := 10) hC sc_11 fl_Me_23 rfl d_Me_mend_10 ?_
  refine Y_iload_n (pc := 13) hC d_Me_mend_13 rfl 3 rfl ?_
  obtain ⟨r2, V2, hc_r2, h⟩ := cl_some h
  refine Y_callV (pc := 14) hC (c_Is_placeOf C.l C.D C.cI C.cZ C.a hc_r2) sc_10 cls_Is ml_Me_100 mv_Is_placeOf (by decide) (Nat.le_of_ble_eq_true rfl) rfl d_Me_mend_14 ?_
  refine Y_istore (pc := 17) hC (L' := [(4, .int r2), (3, .int r1), (0, .ref (C.a 11)), (1, .int p1), (2, .int p2)]) d_Me_mend_17 (by decide) rfl ?_
  refine Y_aload_n (pc := 19) hC d_Me_mend_19 rfl 2 rfl ?_
  refine Y_getR (pc := 20) hC sc_11 fl_Me_15 rfl d_Me_mend_20 ?_
  refine Y_getR (pc := 23) hC sc_4 fl_Me_54 rfl d_Me_mend_23 ?_
  refine Y_iload_n (pc := 26) hC d_Me_mend_26 rfl 4 rfl ?_
  obtain ⟨hi, h⟩ := ck_some h
  refine Y_iald (pc := 27) hC sc_29 rfl hi d_Me_mend_27 ?_
  by_cases cs_28_0 : (V2 29 p2.toNatClampNeg) = 0
  · have h := ifp cs_28_0 h
    refine Y_tableIn (pc := 28) hC (off := 36) 64 d_Me_mend_28 (by rw [cs_28_0]; decide) (by rw [cs_28_0]; decide) (by rw [cs_28_0]; try rfl) rfl ?_
    refine Y_iload_n (pc := 64) hC d_Me_mend_64 rfl 3 rfl ?_
    refine Y_iload_n (pc := 65) hC d_Me_mend_65 rfl 1 rfl ?_
    refine Y_iadd (pc := 66) hC d_Me_mend_66 ?_
    exact Y_iret (pc := 67) hC hE d_Me_mend_67 h
  · have h := ifn cs_28_0 h
    by_cases cs_28_1 : (V2 29 p2.toNatClampNeg) = 1
    · have h := ifp cs_28_1 h
      refine Y_tableIn (pc := 28) hC (off := 40) 68 d_Me_mend_28 (by rw [cs_28_1]; decide) (by rw [cs_28_1]; decide) (by rw [cs_28_1]; try rfl) rfl ?_
      refine Y_iload_n (pc := 68) hC d_Me_mend_68 rfl 3 rfl ?_
      refine Y_iload_n (pc := 69) hC d_Me_mend_69 rfl 1 rfl ?_
      refine Y_iadd (pc := 70) hC d_Me_mend_70 ?_
      refine Y_iload (pc := 71) hC d_Me_mend_71 0 rfl ?_
      refine Y_isub (pc := 73) hC d_Me_mend_73 ?_
      exact Y_iret (pc := 74) hC hE d_Me_mend_74 h
    · have h := ifn cs_28_1 h
      by_cases cs_28_2 : (V2 29 p2.toNatClampNeg) = 2
      · have h := ifp cs_28_2 h
        refine Y_tableIn (pc := 28) hC (off := 47) 75 d_Me_mend_28 (by rw [cs_28_2]; decide) (by rw [cs_28_2]; decide) (by rw [cs_28_2]; try rfl) rfl ?_
        refine Y_iload_n (pc := 75) hC d_Me_mend_75 rfl 3 rfl ?_
        refine Y_iload_n (pc := 76) hC d_Me_mend_76 rfl 1 rfl ?_
        refine Y_ldc (pc := 77) hC kc_Me_103 d_Me_mend_77 ?_
        refine Y_iadd (pc := 79) hC d_Me_mend_79 ?_
        refine Y_bipush (pc := 80) hC d_Me_mend_80 kb_16 ?_
        refine Y_iushr (pc := 82) hC d_Me_mend_82 rfl ?_
        obtain ⟨r3, V3, hc_r3, h⟩ := cl_some h
        refine Y_callS (pc := 83) hC (c_Me_withLowerHalf C.l C.D C.cI C.cZ C.a hc_r3) ml_Me_104 ms_Me_withLowerHalf (by decide) (Nat.le_of_ble_eq_true rfl) rfl d_Me_mend_83 ?_
        exact Y_iret (pc := 86) hC hE d_Me_mend_86 h
      · have h := ifn cs_28_2 h
        by_cases cs_28_3 : (V2 29 p2.toNatClampNeg) = 3
        · have h := ifp cs_28_3 h
          refine Y_tableIn (pc := 28) hC (off := 59) 87 d_Me_mend_28 (by rw [cs_28_3]; decide) (by rw [cs_28_3]; decide) (by rw [cs_28_3]; try rfl) rfl ?_
          refine Y_iload_n (pc := 87) hC d_Me_mend_87 rfl 3 rfl ?_
          refine Y_iload_n (pc := 88) hC d_Me_mend_88 rfl 1 rfl ?_
          obtain ⟨r4, V4, hc_r4, h⟩ := cl_some h
          refine Y_callS (pc := 89) hC (c_Me_withLowerHalf C.l C.D C.cI C.cZ C.a hc_r4) ml_Me_104 ms_Me_withLowerHalf (by decide) (Nat.le_of_ble_eq_true rfl) rfl d_Me_mend_89 ?_
          exact Y_iret (pc := 92) hC hE d_Me_mend_92 h
        · have h := ifn cs_28_3 h
          by_cases cs_28_4 : (V2 29 p2.toNatClampNeg) = 4
          · have h := ifp cs_28_4 h
            refine Y_tableIn (pc := 28) hC (off := 65) 93 d_Me_mend_28 (by rw [cs_28_4]; decide) (by rw [cs_28_4]; decide) (by rw [cs_28_4]; try rfl) rfl ?_
            refine Y_iload_n (pc := 93) hC d_Me_mend_93 rfl 3 rfl ?_
            refine Y_iload (pc := 94) hC d_Me_mend_94 0 rfl ?_
            refine Y_iconst (pc := 96) hC d_Me_mend_96 ki_4 ?_
            refine Y_iadd (pc := 97) hC d_Me_mend_97 ?_
            refine Y_aload_n (pc := 98) hC d_Me_mend_98 rfl 2 rfl ?_
            refine Y_getR (pc := 99) hC sc_11 fl_Me_23 rfl d_Me_mend_99 ?_
            refine Y_iload_n (pc := 102) hC d_Me_mend_102 rfl 4 rfl ?_
            refine Y_iload_n (pc := 103) hC d_Me_mend_103 rfl 1 rfl ?_
            obtain ⟨r5, V5, hc_r5, h⟩ := cl_some h
            refine Y_callV (pc := 104) hC (c_Is_goalOf C.l C.D C.cI C.cZ C.a hc_r5) sc_10 cls_Is ml_Me_47 mv_Is_goalOf (by decide) (Nat.le_of_ble_eq_true rfl) rfl d_Me_mend_104 ?_
            obtain ⟨r6, V6, hc_r6, h⟩ := cl_some h
            refine Y_callS (pc := 107) hC (c_Me_wordsBetween C.l C.D C.cI C.cZ C.a hc_r6) ml_Me_107 ms_Me_wordsBetween (by decide) (Nat.le_of_ble_eq_true rfl) rfl d_Me_mend_107 ?_
            obtain ⟨r7, V7, hc_r7, h⟩ := cl_some h
            refine Y_callS (pc := 110) hC (c_Me_withLowerHalf C.l C.D C.cI C.cZ C.a hc_r7) ml_Me_104 ms_Me_withLowerHalf (by decide) (Nat.le_of_ble_eq_true rfl) rfl d_Me_mend_110 ?_
            exact Y_iret (pc := 113) hC hE d_Me_mend_113 h
          · have h := ifn cs_28_4 h
            have cn_0 := i32_ne cs_28_0
            have cn_1 := i32_ne cs_28_1
            have cn_2 := i32_ne cs_28_2
            have cn_3 := i32_ne cs_28_3
            have cn_4 := i32_ne cs_28_4
            simp only [i32lit_0, i32lit_1, i32lit_2, i32lit_3, i32lit_4] at cn_0 cn_1 cn_2 cn_3 cn_4
            refine Y_tableOut (pc := 28) hC 114 d_Me_mend_28 (by omega) rfl ?_
            refine Y_iload_n (pc := 114) hC d_Me_mend_114 rfl 3 rfl ?_
            refine Y_ldc (pc := 115) hC kc_Me_110 d_Me_mend_115 ?_
            refine Y_iand (pc := 117) hC d_Me_mend_117 ?_
            refine Y_iload_n (pc := 118) hC d_Me_mend_118 rfl 1 rfl ?_
            refine Y_iconst (pc := 119) hC d_Me_mend_119 ki_2 ?_
            refine Y_iushr (pc := 120) hC d_Me_mend_120 rfl ?_
            refine Y_ldc (pc := 121) hC kc_Me_111 d_Me_mend_121 ?_
            refine Y_iand (pc := 123) hC d_Me_mend_123 ?_
            refine Y_ior (pc := 124) hC d_Me_mend_124 ?_
            exact Y_iret (pc := 125) hC hE d_Me_mend_125 h
set_option maxHeartbeats 4000000 in
set_option maxRecDepth 100000 in
theorem ylp_Me_mended_13 {C : YC} {r : Int32} {V' : Sto} {x1 : Int32} {x2 : Int32} {k66 : Int32 → Sto → RT} (hC : YF C R_Me b_Me_mended 6 rm_Me_mended) (hE : YEi C .int shpC r V') (hk66 : ∀ (y3 : Int32) (V1 : Sto), k66 y3 V1 = some (r, V') → Y C shpC 6 66 [(3, .int y3)] [] V1) : ∀ (n : Nat) (x3 x4 : Int32) (V : Sto), lp_Me_mended_13 x1 x2 k66 n x3 x4 V = some (r, V') → Y C shpC 6 13 [(0, .ref (C.a 11)), (1, .int x1), (2, .int x2), (3, .int x3), (4, .int x4)] [] V := by
  intro n
  induction n with
  | zero =>
    intro x3 x4 V h
    rw [lp_Me_mended_13] at h
    cases h
  | succ n ih =>
    intro x3 x4 V h
    rw [lp_Me_mended_13] at h
    refine Y_iload (pc := 13) hC d_Me_mended_13 4 rfl ?_
    refine Y_aload_n (pc := 15) hC d_Me_mended_15 rfl 0 rfl ?_
    refine Y_getR (pc := 16) hC sc_11 fl_Me_15 rfl d_Me_mended_16 ?_
    refine Y_iload_n (pc := 19) hC d_Me_mended_19 rfl 1 rfl ?_
    obtain ⟨r2, V2, hc_r2, h⟩ := cl_some h
    refine Y_callV (pc := 20) hC (c_Re_countOf C.l C.D C.cI C.cZ C.a hc_r2) sc_4 cls_Re ml_Me_88 mv_Re_countOf (by decide) (Nat.le_of_ble_eq_true rfl) rfl d_Me_mended_20 ?_
    refine Y_icmp_ge (pc := 23) hC 66 d_Me_mended_23 rfl (fun cc_23 => ?_) (fun cc_23 => ?_)
    · have h := ifp cc_23 h
      refine Y_sub (pc := 66) [3] rfl ?_
      exact hk66 _ _ h
    · have h := ifn cc_23 h
      refine Y_aload_n (pc := 26) hC d_Me_mended_26 rfl 0 rfl ?_
      refine Y_getR (pc := 27) hC sc_11 fl_Me_15 rfl d_Me_mended_27 ?_
      refine Y_iload_n (pc := 30) hC d_Me_mended_30 rfl 1 rfl ?_
      refine Y_iload (pc := 31) hC d_Me_mended_31 4 rfl ?_
      obtain ⟨r3, V3, hc_r3, h⟩ := cl_some h
      refine Y_callV (pc := 33) hC (c_Re_pick C.l C.D C.cI C.cZ C.a hc_r3) sc_4 cls_Re ml_Me_91 mv_Re_pick (by decide) (Nat.le_of_ble_eq_true rfl) rfl d_Me_mended_33 ?_
      refine Y_istore (pc := 36) hC (L' := [(5, .int r3), (0, .ref (C.a 11)), (1, .int x1), (2, .int x2), (3, .int x3), (4, .int x4)]) d_Me_mended_36 (by decide) rfl ?_
      refine Y_aload_n (pc := 38) hC d_Me_mended_38 rfl 1 rfl ?_
      refine Y_getR (pc := 39) hC sc_11 fl_Me_15 rfl d_Me_mended_39 ?_
      refine Y_getR (pc := 42) hC sc_4 fl_Me_94 rfl d_Me_mended_42 ?_
      refine Y_iload (pc := 45) hC d_Me_mended_45 0 rfl ?_
      obtain ⟨hi, h⟩ := ck_some h
      refine Y_iald (pc := 47) hC sc_28 rfl hi d_Me_mended_47 ?_
      refine Y_iload_n (pc := 48) hC d_Me_mended_48 rfl 3 rfl ?_
      refine Y_icmp_ne (pc := 49) hC 60 d_Me_mended_49 rfl (fun cc_49 => ?_) (fun cc_49 => ?_)
      · have h := ifn cc_49 h
        refine Y_iinc (pc := 60) hC (v := x4 + 1) (L' := [(4, .int (x4 + 1)), (5, .int r3), (0, .ref (C.a 11)), (1, .int x1), (2, .int x2), (3, .int x3)]) d_Me_mended_60 5 rfl rfl (by decide) rfl ?_
        refine Y_goto (pc := 63) hC 13 d_Me_mended_63 rfl ?_
        refine Y_sub (pc := 13) [2, 3, 4, 5, 0] rfl ?_
        exact ih _ _ _ h
      · have h := ifp cc_49 h
        refine Y_aload_n (pc := 52) hC d_Me_mended_52 rfl 1 rfl ?_
        refine Y_iload_n (pc := 53) hC d_Me_mended_53 rfl 4 rfl ?_
        refine Y_iload (pc := 54) hC d_Me_mended_54 0 rfl ?_
        obtain ⟨r4, V4, hc_r4, h⟩ := cl_some h
        refine Y_callV (pc := 56) hC (c_Me_mend C.l C.D C.cI C.cZ C.a hc_r4) sc_11 cls_Me ml_Me_97 mv_Me_mend (by decide) (Nat.le_of_ble_eq_true rfl) rfl d_Me_mended_56 ?_
        refine Y_istore_n (pc := 59) hC (L' := [(3, .int r4), (5, .int r3), (0, .ref (C.a 11)), (1, .int x1), (2, .int x2), (4, .int x4)]) d_Me_mended_59 rfl (by decide) rfl ?_
        refine Y_iinc (pc := 60) hC (v := x4 + 1) (L' := [(4, .int (x4 + 1)), (3, .int r4), (5, .int r3), (0, .ref (C.a 11)), (1, .int x1), (2, .int x2)]) d_Me_mended_60 5 rfl rfl (by decide) rfl ?_
        refine Y_goto (pc := 63) hC 13 d_Me_mended_63 rfl ?_
        refine Y_sub (pc := 13) [3, 4, 5, 1, 0] rfl ?_
        exact ih _ _ _ h
set_option maxHeartbeats 4000000 in
set_option maxRecDepth 100000 in
theorem c_Me_mended (l : Launch) (D : va_G) (cI cZ : ClassId) (a : Nat → Nat) {V : Sto} {p1 p2 : Int32} {r : Int32} {V' : Sto} (h : f_Me_mended V p1 p2 = some (r, V')) : YMi l D cI cZ a shpC y_Me_mended b_Me_mended 6 (some .int) rm_Me_mended [.ref (a 11), .int p1, .int p2] V r V' := by
  refine YMi_of (by decide) (Nat.le_of_ble_eq_true rfl) ?_
  intro C hl hDD hcI hcZ ha hC hE
  subst hl hDD hcI hcZ ha
  show Y C shpC 6 0 [(0, .ref (C.a 11)), (1, .int p1), (2, .int p2)] [] V
  rw [f_Me_mended] at h
  refine Y_aload_n (pc := 0) hC d_Me_mended_0 rfl 0 rfl ?_
  refine Y_getR (pc := 1) hC sc_11 fl_Me_9 rfl d_Me_mended_1 ?_
  refine Y_iload_n (pc := 4) hC d_Me_mended_4 rfl 1 rfl ?_
  refine Y_iload_n (pc := 5) hC d_Me_mended_5 rfl 2 rfl ?_
  obtain ⟨r1, V1, hc_r1, h⟩ := cl_some h
  refine Y_callV (pc := 6) hC (c_Se_read C.l C.D C.cI C.cZ C.a hc_r1) sc_2 cls_Se ml_Me_86 mv_Se_read (by decide) (Nat.le_of_ble_eq_true rfl) rfl d_Me_mended_6 ?_
  refine Y_istore_n (pc := 9) hC (L' := [(3, .int r1), (0, .ref (C.a 11)), (1, .int p1), (2, .int p2)]) d_Me_mended_9 rfl (by decide) rfl ?_
  refine Y_iconst (pc := 10) hC d_Me_mended_10 ki_0 ?_
  refine Y_istore (pc := 11) hC (L' := [(4, .int 0), (3, .int r1), (0, .ref (C.a 11)), (1, .int p1), (2, .int p2)]) d_Me_mended_11 (by decide) rfl ?_
  refine Y_sub (pc := 13) [2, 3, 4, 1, 0] rfl ?_
  refine ylp_Me_mended_13 hC hE (fun y1 V5 h => ?_) FU _ _ _ h
  refine Y_iload_n (pc := 66) hC d_Me_mended_66 rfl 0 rfl ?_
  exact Y_iret (pc := 67) hC hE d_Me_mended_67 h
set_option maxHeartbeats 4000000 in
set_option maxRecDepth 100000 in
theorem c_Me_read (l : Launch) (D : va_G) (cI cZ : ClassId) (a : Nat → Nat) {V : Sto} {p1 : Int32} {r : Int32} {V' : Sto} (h : f_Me_read V p1 = some (r, V')) : YMi l D cI cZ a shpC y_Me_read b_Me_read 3 (some .int) rm_Me_read [.ref (a 11), .int p1] V r V' := by
  refine YMi_of (by decide) (Nat.le_of_ble_eq_true rfl) ?_
  intro C hl hDD hcI hcZ ha hC hE
  subst hl hDD hcI hcZ ha
  show Y C shpC 3 0 [(0, .ref (C.a 11)), (1, .int p1)] [] V
  rw [f_Me_read] at h
  refine Y_aload_n (pc := 0) hC d_Me_read_0 rfl 0 rfl ?_
  refine Y_getR (pc := 1) hC sc_11 fl_Me_19 rfl d_Me_read_1 ?_
  refine Y_iload_n (pc := 4) hC d_Me_read_4 rfl 1 rfl ?_
  obtain ⟨r1, V1, hc_r1, h⟩ := cl_some h
  refine Y_callV (pc := 5) hC (c_La_sectionAt C.l C.D C.cI C.cZ C.a hc_r1) sc_9 cls_La ml_Me_66 mv_La_sectionAt (by decide) (Nat.le_of_ble_eq_true rfl) rfl d_Me_read_5 ?_
  refine Y_istore_n (pc := 8) hC (L' := [(2, .int r1), (0, .ref (C.a 11)), (1, .int p1)]) d_Me_read_8 rfl (by decide) rfl ?_
  refine Y_iload_n (pc := 9) hC d_Me_read_9 rfl 0 rfl ?_
  refine Y_iconst (pc := 10) hC d_Me_read_10 ki_m1 ?_
  refine Y_icmp_ne (pc := 11) hC 38 d_Me_read_11 rfl (fun cc_11 => ?_) (fun cc_11 => ?_)
  · have h := ifn cc_11 h
    refine Y_aload_n (pc := 38) hC d_Me_read_38 rfl 1 rfl ?_
    refine Y_getR (pc := 39) hC sc_11 fl_Me_9 rfl d_Me_read_39 ?_
    refine Y_getR (pc := 42) hC sc_2 fl_Me_75 rfl d_Me_read_42 ?_
    refine Y_iload_n (pc := 45) hC d_Me_read_45 rfl 0 rfl ?_
    obtain ⟨hi, h⟩ := ck_some h
    refine Y_iald (pc := 46) hC sc_16 rfl hi d_Me_read_46 ?_
    refine Y_iconst (pc := 47) hC d_Me_read_47 ki_2 ?_
    refine Y_icmp_ne (pc := 48) hC 53 d_Me_read_48 rfl (fun cc_48 => ?_) (fun cc_48 => ?_)
    · have h := ifn cc_48 h
      refine Y_aload_n (pc := 53) hC d_Me_read_53 rfl 1 rfl ?_
      refine Y_iload_n (pc := 54) hC d_Me_read_54 rfl 0 rfl ?_
      refine Y_iload_n (pc := 55) hC d_Me_read_55 rfl 2 rfl ?_
      refine Y_aload_n (pc := 56) hC d_Me_read_56 rfl 1 rfl ?_
      refine Y_getR (pc := 57) hC sc_11 fl_Me_19 rfl d_Me_read_57 ?_
      refine Y_getR (pc := 60) hC sc_9 fl_Me_80 rfl d_Me_read_60 ?_
      refine Y_iload_n (pc := 63) hC d_Me_read_63 rfl 0 rfl ?_
      obtain ⟨hi, h⟩ := ck_some h
      refine Y_iald (pc := 64) hC sc_48 rfl hi d_Me_read_64 ?_
      refine Y_isub (pc := 65) hC d_Me_read_65 ?_
      obtain ⟨r2, V2, hc_r2, h⟩ := cl_some h
      refine Y_callV (pc := 66) hC (c_Me_mended C.l C.D C.cI C.cZ C.a hc_r2) sc_11 cls_Me ml_Me_83 mv_Me_mended (by decide) (Nat.le_of_ble_eq_true rfl) rfl d_Me_read_66 ?_
      exact Y_iret (pc := 69) hC hE d_Me_read_69 h
    · have h := ifp cc_48 h
      refine Y_iconst (pc := 51) hC d_Me_read_51 ki_0 ?_
      exact Y_iret (pc := 52) hC hE d_Me_read_52 h
  · have h := ifp cc_11 h
    refine Y_aload_n (pc := 14) hC d_Me_read_14 rfl 1 rfl ?_
    refine Y_getR (pc := 15) hC sc_11 fl_Me_23 rfl d_Me_read_15 ?_
    refine Y_iload_n (pc := 18) hC d_Me_read_18 rfl 2 rfl ?_
    obtain ⟨r3, V3, hc_r3, h⟩ := cl_some h
    refine Y_callV (pc := 19) hC (c_Is_covers C.l C.D C.cI C.cZ C.a hc_r3) sc_10 cls_Is ml_Me_69 mv_Is_covers (by decide) (Nat.le_of_ble_eq_true rfl) rfl d_Me_read_19 ?_
    refine Y_if_eq (pc := 22) hC 36 d_Me_read_22 rfl (fun cc_22 => ?_) (fun cc_22 => ?_)
    · have h := ifp cc_22 h
      refine Y_iconst (pc := 36) hC d_Me_read_36 ki_0 ?_
      exact Y_iret (pc := 37) hC hE d_Me_read_37 h
    · have h := ifn cc_22 h
      refine Y_aload_n (pc := 25) hC d_Me_read_25 rfl 1 rfl ?_
      refine Y_getR (pc := 26) hC sc_11 fl_Me_23 rfl d_Me_read_26 ?_
      refine Y_iload_n (pc := 29) hC d_Me_read_29 rfl 2 rfl ?_
      obtain ⟨r4, V4, hc_r4, h⟩ := cl_some h
      refine Y_callV (pc := 30) hC (c_Is_read C.l C.D C.cI C.cZ C.a hc_r4) sc_10 cls_Is ml_Me_72 mv_Is_read (by decide) (Nat.le_of_ble_eq_true rfl) rfl d_Me_read_30 ?_
      refine Y_goto (pc := 33) hC 37 d_Me_read_33 rfl ?_
      exact Y_iret (pc := 37) hC hE d_Me_read_37 h
end
