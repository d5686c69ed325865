section
-- ===== PART A: goes FIRST, ahead of the names: the tables' words, and 'selects' of the private methods out of them =====
/-- a private method of a class that the tables say can be made, by its rows of tables_1 -/
def lw_okq (q : MethodName × Nat) : Prop := (q.1.cls ≠ "java/lang/invoke/MethodHandle" ∧ q.1.cls ≠ "java/lang/invoke/VarHandle") ∧ Cond.instantiable q.1.cls q.2 ∈ tables_1 ∧ Cond.privateMethod q.1 ∈ tables_1 ∧ Cond.instanceMethod q.1 ∈ tables_1
theorem lw_p0 : lw_okq (⟨"LinkYard", "takeLinkAway", "()V"⟩, 18) := ⟨⟨by decide +kernel, by decide +kernel⟩, List.mem_of_getElem? (i := 34) (by decide +kernel), List.mem_of_getElem? (i := 517) (by decide +kernel), List.mem_of_getElem? (i := 518) (by decide +kernel)⟩
theorem lw_p1 : lw_okq (⟨"java/lang/Throwable", "fillInStackTrace", "(I)Ljava/lang/Throwable;"⟩, 6) := ⟨⟨by decide +kernel, by decide +kernel⟩, List.mem_of_getElem? (i := 578) (by decide +kernel), List.mem_of_getElem? (i := 576) (by decide +kernel), List.mem_of_getElem? (i := 577) (by decide +kernel)⟩
theorem lw_p2 : lw_okq (⟨"LinkYard$Sections", "store", "(I)V"⟩, 10) := ⟨⟨by decide +kernel, by decide +kernel⟩, List.mem_of_getElem? (i := 67) (by decide +kernel), List.mem_of_getElem? (i := 659) (by decide +kernel), List.mem_of_getElem? (i := 660) (by decide +kernel)⟩
theorem lw_p3 : lw_okq (⟨"LinkYard", "linksNames", "()Z"⟩, 18) := ⟨⟨by decide +kernel, by decide +kernel⟩, List.mem_of_getElem? (i := 34) (by decide +kernel), List.mem_of_getElem? (i := 1051) (by decide +kernel), List.mem_of_getElem? (i := 1052) (by decide +kernel)⟩
theorem lw_p4 : lw_okq (⟨"LinkYard$Arrivals", "begin", "(I)V"⟩, 4) := ⟨⟨by decide +kernel, by decide +kernel⟩, List.mem_of_getElem? (i := 221) (by decide +kernel), List.mem_of_getElem? (i := 1066) (by decide +kernel), List.mem_of_getElem? (i := 1067) (by decide +kernel)⟩
theorem lw_p5 : lw_okq (⟨"LinkYard$Arrivals", "admit", "(I)V"⟩, 4) := ⟨⟨by decide +kernel, by decide +kernel⟩, List.mem_of_getElem? (i := 221) (by decide +kernel), List.mem_of_getElem? (i := 1070) (by decide +kernel), List.mem_of_getElem? (i := 1071) (by decide +kernel)⟩
theorem lw_p6 : lw_okq (⟨"LinkYard$Arrivals", "note", "(I)V"⟩, 4) := ⟨⟨by decide +kernel, by decide +kernel⟩, List.mem_of_getElem? (i := 221) (by decide +kernel), List.mem_of_getElem? (i := 1074) (by decide +kernel), List.mem_of_getElem? (i := 1075) (by decide +kernel)⟩
theorem lw_p7 : lw_okq (⟨"LinkYard$Arrivals", "goThroughArchives", "()Z"⟩, 4) := ⟨⟨by decide +kernel, by decide +kernel⟩, List.mem_of_getElem? (i := 221) (by decide +kernel), List.mem_of_getElem? (i := 1086) (by decide +kernel), List.mem_of_getElem? (i := 1087) (by decide +kernel)⟩
theorem lw_p8 : lw_okq (⟨"LinkYard$Arrivals", "firstNeeded", "(I)I"⟩, 4) := ⟨⟨by decide +kernel, by decide +kernel⟩, List.mem_of_getElem? (i := 221) (by decide +kernel), List.mem_of_getElem? (i := 1090) (by decide +kernel), List.mem_of_getElem? (i := 1091) (by decide +kernel)⟩
theorem lw_p9 : lw_okq (⟨"LinkYard$Arrivals", "isNeeded", "(I)Z"⟩, 4) := ⟨⟨by decide +kernel, by decide +kernel⟩, List.mem_of_getElem? (i := 221) (by decide +kernel), List.mem_of_getElem? (i := 1094) (by decide +kernel), List.mem_of_getElem? (i := 1095) (by decide +kernel)⟩
theorem lw_p10 : lw_okq (⟨"LinkYard$Names", "take", "(I)V"⟩, 9) := ⟨⟨by decide +kernel, by decide +kernel⟩, List.mem_of_getElem? (i := 240) (by decide +kernel), List.mem_of_getElem? (i := 1104) (by decide +kernel), List.mem_of_getElem? (i := 1105) (by decide +kernel)⟩
theorem lw_p11 : lw_okq (⟨"LinkYard$Names", "takeGlobal", "(II)V"⟩, 9) := ⟨⟨by decide +kernel, by decide +kernel⟩, List.mem_of_getElem? (i := 240) (by decide +kernel), List.mem_of_getElem? (i := 1108) (by decide +kernel), List.mem_of_getElem? (i := 1109) (by decide +kernel)⟩
theorem lw_p12 : lw_okq (⟨"LinkYard$Names", "takeWeak", "(II)V"⟩, 9) := ⟨⟨by decide +kernel, by decide +kernel⟩, List.mem_of_getElem? (i := 240) (by decide +kernel), List.mem_of_getElem? (i := 1113) (by decide +kernel), List.mem_of_getElem? (i := 1114) (by decide +kernel)⟩
theorem lw_p13 : lw_okq (⟨"LinkYard$Names", "giveMeaning", "(I)V"⟩, 9) := ⟨⟨by decide +kernel, by decide +kernel⟩, List.mem_of_getElem? (i := 240) (by decide +kernel), List.mem_of_getElem? (i := 1117) (by decide +kernel), List.mem_of_getElem? (i := 1118) (by decide +kernel)⟩
theorem lw_p14 : lw_okq (⟨"LinkYard$Names", "setMeaning", "(IIII)V"⟩, 9) := ⟨⟨by decide +kernel, by decide +kernel⟩, List.mem_of_getElem? (i := 240) (by decide +kernel), List.mem_of_getElem? (i := 1121) (by decide +kernel), List.mem_of_getElem? (i := 1122) (by decide +kernel)⟩
theorem lw_p15 : lw_okq (⟨"LinkYard$Names", "copyMeaning", "(II)V"⟩, 9) := ⟨⟨by decide +kernel, by decide +kernel⟩, List.mem_of_getElem? (i := 240) (by decide +kernel), List.mem_of_getElem? (i := 1125) (by decide +kernel), List.mem_of_getElem? (i := 1126) (by decide +kernel)⟩
def lw_privs_1 : List (MethodName × Nat) := [(⟨"LinkYard", "takeLinkAway", "()V"⟩, 18), (⟨"java/lang/Throwable", "fillInStackTrace", "(I)Ljava/lang/Throwable;"⟩, 6), (⟨"LinkYard$Sections", "store", "(I)V"⟩, 10), (⟨"LinkYard", "linksNames", "()Z"⟩, 18), (⟨"LinkYard$Arrivals", "begin", "(I)V"⟩, 4), (⟨"LinkYard$Arrivals", "admit", "(I)V"⟩, 4), (⟨"LinkYard$Arrivals", "note", "(I)V"⟩, 4), (⟨"LinkYard$Arrivals", "goThroughArchives", "()Z"⟩, 4), (⟨"LinkYard$Arrivals", "firstNeeded", "(I)I"⟩, 4), (⟨"LinkYard$Arrivals", "isNeeded", "(I)Z"⟩, 4), (⟨"LinkYard$Names", "take", "(I)V"⟩, 9), (⟨"LinkYard$Names", "takeGlobal", "(II)V"⟩, 9), (⟨"LinkYard$Names", "takeWeak", "(II)V"⟩, 9), (⟨"LinkYard$Names", "giveMeaning", "(I)V"⟩, 9), (⟨"LinkYard$Names", "setMeaning", "(IIII)V"⟩, 9), (⟨"LinkYard$Names", "copyMeaning", "(II)V"⟩, 9)]
theorem lw_r1 : ∀ q ∈ lw_privs_1, lw_okq q := List.forall_mem_cons.mpr ⟨lw_p0, List.forall_mem_cons.mpr ⟨lw_p1, List.forall_mem_cons.mpr ⟨lw_p2, List.forall_mem_cons.mpr ⟨lw_p3, List.forall_mem_cons.mpr ⟨lw_p4, List.forall_mem_cons.mpr ⟨lw_p5, List.forall_mem_cons.mpr ⟨lw_p6, List.forall_mem_cons.mpr ⟨lw_p7, List.forall_mem_cons.mpr ⟨lw_p8, List.forall_mem_cons.mpr ⟨lw_p9, List.forall_mem_cons.mpr ⟨lw_p10, List.forall_mem_cons.mpr ⟨lw_p11, List.forall_mem_cons.mpr ⟨lw_p12, List.forall_mem_cons.mpr ⟨lw_p13, List.forall_mem_cons.mpr ⟨lw_p14, List.forall_mem_cons.mpr ⟨lw_p15, fun _ h => absurd h List.not_mem_nil⟩⟩⟩⟩⟩⟩⟩⟩⟩⟩⟩⟩⟩⟩⟩⟩
theorem lw_p16 : lw_okq (⟨"LinkYard$Names", "isCommon", "(I)Z"⟩, 9) := ⟨⟨by decide +kernel, by decide +kernel⟩, List.mem_of_getElem? (i := 240) (by decide +kernel), List.mem_of_getElem? (i := 1129) (by decide +kernel), List.mem_of_getElem? (i := 1130) (by decide +kernel)⟩
theorem lw_p17 : lw_okq (⟨"LinkYard$Names", "definer", "(I)I"⟩, 9) := ⟨⟨by decide +kernel, by decide +kernel⟩, List.mem_of_getElem? (i := 240) (by decide +kernel), List.mem_of_getElem? (i := 1133) (by decide +kernel), List.mem_of_getElem? (i := 1134) (by decide +kernel)⟩
theorem lw_p18 : lw_okq (⟨"LinkYard", "fails", "(III)Z"⟩, 18) := ⟨⟨by decide +kernel, by decide +kernel⟩, List.mem_of_getElem? (i := 34) (by decide +kernel), List.mem_of_getElem? (i := 1137) (by decide +kernel), List.mem_of_getElem? (i := 1138) (by decide +kernel)⟩
theorem lw_p19 : lw_okq (⟨"LinkYard$Reach", "forget", "()V"⟩, 8) := ⟨⟨by decide +kernel, by decide +kernel⟩, List.mem_of_getElem? (i := 288) (by decide +kernel), List.mem_of_getElem? (i := 1153) (by decide +kernel), List.mem_of_getElem? (i := 1154) (by decide +kernel)⟩
theorem lw_p20 : lw_okq (⟨"LinkYard$Reach", "find", "(I)V"⟩, 8) := ⟨⟨by decide +kernel, by decide +kernel⟩, List.mem_of_getElem? (i := 288) (by decide +kernel), List.mem_of_getElem? (i := 1157) (by decide +kernel), List.mem_of_getElem? (i := 1158) (by decide +kernel)⟩
theorem lw_p21 : lw_okq (⟨"LinkYard$Reach", "spreadFrom", "(I)V"⟩, 8) := ⟨⟨by decide +kernel, by decide +kernel⟩, List.mem_of_getElem? (i := 288) (by decide +kernel), List.mem_of_getElem? (i := 1161) (by decide +kernel), List.mem_of_getElem? (i := 1162) (by decide +kernel)⟩
theorem lw_p22 : lw_okq (⟨"LinkYard", "linksPlaces", "(I)Z"⟩, 18) := ⟨⟨by decide +kernel, by decide +kernel⟩, List.mem_of_getElem? (i := 34) (by decide +kernel), List.mem_of_getElem? (i := 1177) (by decide +kernel), List.mem_of_getElem? (i := 1178) (by decide +kernel)⟩
theorem lw_p23 : lw_okq (⟨"LinkYard$Folding", "mayFold", "(I)Z"⟩, 6) := ⟨⟨by decide +kernel, by decide +kernel⟩, List.mem_of_getElem? (i := 324) (by decide +kernel), List.mem_of_getElem? (i := 1185) (by decide +kernel), List.mem_of_getElem? (i := 1186) (by decide +kernel)⟩
theorem lw_p24 : lw_okq (⟨"LinkYard$Folding", "firstOfSameLook", "(I)I"⟩, 6) := ⟨⟨by decide +kernel, by decide +kernel⟩, List.mem_of_getElem? (i := 324) (by decide +kernel), List.mem_of_getElem? (i := 1189) (by decide +kernel), List.mem_of_getElem? (i := 1190) (by decide +kernel)⟩
theorem lw_p25 : lw_okq (⟨"LinkYard$Folding", "looksSame", "(II)Z"⟩, 6) := ⟨⟨by decide +kernel, by decide +kernel⟩, List.mem_of_getElem? (i := 324) (by decide +kernel), List.mem_of_getElem? (i := 1193) (by decide +kernel), List.mem_of_getElem? (i := 1194) (by decide +kernel)⟩
theorem lw_p26 : lw_okq (⟨"LinkYard$Folding", "hasSameWords", "(II)Z"⟩, 6) := ⟨⟨by decide +kernel, by decide +kernel⟩, List.mem_of_getElem? (i := 324) (by decide +kernel), List.mem_of_getElem? (i := 1197) (by decide +kernel), List.mem_of_getElem? (i := 1198) (by decide +kernel)⟩
theorem lw_p27 : lw_okq (⟨"LinkYard$Folding", "hasSameRelocations", "(II)Z"⟩, 6) := ⟨⟨by decide +kernel, by decide +kernel⟩, List.mem_of_getElem? (i := 324) (by decide +kernel), List.mem_of_getElem? (i := 1205) (by decide +kernel), List.mem_of_getElem? (i := 1206) (by decide +kernel)⟩
theorem lw_p28 : lw_okq (⟨"LinkYard$Folding", "isSame", "(II)Z"⟩, 6) := ⟨⟨by decide +kernel, by decide +kernel⟩, List.mem_of_getElem? (i := 324) (by decide +kernel), List.mem_of_getElem? (i := 1211) (by decide +kernel), List.mem_of_getElem? (i := 1212) (by decide +kernel)⟩
theorem lw_p29 : lw_okq (⟨"LinkYard$Folding", "split", "()Z"⟩, 6) := ⟨⟨by decide +kernel, by decide +kernel⟩, List.mem_of_getElem? (i := 324) (by decide +kernel), List.mem_of_getElem? (i := 1215) (by decide +kernel), List.mem_of_getElem? (i := 1216) (by decide +kernel)⟩
theorem lw_p30 : lw_okq (⟨"LinkYard$Folding", "firstOfSameTargets", "(I)I"⟩, 6) := ⟨⟨by decide +kernel, by decide +kernel⟩, List.mem_of_getElem? (i := 324) (by decide +kernel), List.mem_of_getElem? (i := 1219) (by decide +kernel), List.mem_of_getElem? (i := 1220) (by decide +kernel)⟩
theorem lw_p31 : lw_okq (⟨"LinkYard$Folding", "hasSameTargets", "(II)Z"⟩, 6) := ⟨⟨by decide +kernel, by decide +kernel⟩, List.mem_of_getElem? (i := 324) (by decide +kernel), List.mem_of_getElem? (i := 1223) (by decide +kernel), List.mem_of_getElem? (i := 1224) (by decide +kernel)⟩
def lw_privs_2 : List (MethodName × Nat) := [(⟨"LinkYard$Names", "isCommon", "(I)Z"⟩, 9), (⟨"LinkYard$Names", "definer", "(I)I"⟩, 9), (⟨"LinkYard", "fails", "(III)Z"⟩, 18), (⟨"LinkYard$Reach", "forget", "()V"⟩, 8), (⟨"LinkYard$Reach", "find", "(I)V"⟩, 8), (⟨"LinkYard$Reach", "spreadFrom", "(I)V"⟩, 8), (⟨"LinkYard", "linksPlaces", "(I)Z"⟩, 18), (⟨"LinkYard$Folding", "mayFold", "(I)Z"⟩, 6), (⟨"LinkYard$Folding", "firstOfSameLook", "(I)I"⟩, 6), (⟨"LinkYard$Folding", "looksSame", "(II)Z"⟩, 6), (⟨"LinkYard$Folding", "hasSameWords", "(II)Z"⟩, 6), (⟨"LinkYard$Folding", "hasSameRelocations", "(II)Z"⟩, 6), (⟨"LinkYard$Folding", "isSame", "(II)Z"⟩, 6), (⟨"LinkYard$Folding", "split", "()Z"⟩, 6), (⟨"LinkYard$Folding", "firstOfSameTargets", "(I)I"⟩, 6), (⟨"LinkYard$Folding", "hasSameTargets", "(II)Z"⟩, 6)]
theorem lw_r2 : ∀ q ∈ lw_privs_2, lw_okq q := List.forall_mem_cons.mpr ⟨lw_p16, List.forall_mem_cons.mpr ⟨lw_p17, List.forall_mem_cons.mpr ⟨lw_p18, List.forall_mem_cons.mpr ⟨lw_p19, List.forall_mem_cons.mpr ⟨lw_p20, List.forall_mem_cons.mpr ⟨lw_p21, List.forall_mem_cons.mpr ⟨lw_p22, List.forall_mem_cons.mpr ⟨lw_p23, List.forall_mem_cons.mpr ⟨lw_p24, List.forall_mem_cons.mpr ⟨lw_p25, List.forall_mem_cons.mpr ⟨lw_p26, List.forall_mem_cons.mpr ⟨lw_p27, List.forall_mem_cons.mpr ⟨lw_p28, List.forall_mem_cons.mpr ⟨lw_p29, List.forall_mem_cons.mpr ⟨lw_p30, List.forall_mem_cons.mpr ⟨lw_p31, fun _ h => absurd h List.not_mem_nil⟩⟩⟩⟩⟩⟩⟩⟩⟩⟩⟩⟩⟩⟩⟩⟩
theorem lw_p32 : lw_okq (⟨"LinkYard$Layout", "laySections", "(I)V"⟩, 10) := ⟨⟨by decide +kernel, by decide +kernel⟩, List.mem_of_getElem? (i := 351) (by decide +kernel), List.mem_of_getElem? (i := 1246) (by decide +kernel), List.mem_of_getElem? (i := 1247) (by decide +kernel)⟩
theorem lw_p33 : lw_okq (⟨"LinkYard$Layout", "put", "(II)I"⟩, 10) := ⟨⟨by decide +kernel, by decide +kernel⟩, List.mem_of_getElem? (i := 351) (by decide +kernel), List.mem_of_getElem? (i := 1254) (by decide +kernel), List.mem_of_getElem? (i := 1255) (by decide +kernel)⟩
theorem lw_p34 : lw_okq (⟨"LinkYard$Islands", "firstStranded", "()I"⟩, 11) := ⟨⟨by decide +kernel, by decide +kernel⟩, List.mem_of_getElem? (i := 397) (by decide +kernel), List.mem_of_getElem? (i := 1258) (by decide +kernel), List.mem_of_getElem? (i := 1259) (by decide +kernel)⟩
theorem lw_p35 : lw_okq (⟨"LinkYard$Islands", "mayGo", "(I)Z"⟩, 11) := ⟨⟨by decide +kernel, by decide +kernel⟩, List.mem_of_getElem? (i := 397) (by decide +kernel), List.mem_of_getElem? (i := 1262) (by decide +kernel), List.mem_of_getElem? (i := 1263) (by decide +kernel)⟩
theorem lw_p36 : lw_okq (⟨"LinkYard$Islands", "send", "(I)Z"⟩, 11) := ⟨⟨by decide +kernel, by decide +kernel⟩, List.mem_of_getElem? (i := 397) (by decide +kernel), List.mem_of_getElem? (i := 1293) (by decide +kernel), List.mem_of_getElem? (i := 1294) (by decide +kernel)⟩
theorem lw_p37 : lw_okq (⟨"LinkYard$Islands", "find", "(I)I"⟩, 11) := ⟨⟨by decide +kernel, by decide +kernel⟩, List.mem_of_getElem? (i := 397) (by decide +kernel), List.mem_of_getElem? (i := 1297) (by decide +kernel), List.mem_of_getElem? (i := 1298) (by decide +kernel)⟩
theorem lw_p38 : lw_okq (⟨"LinkYard$Islands", "raise", "(I)V"⟩, 11) := ⟨⟨by decide +kernel, by decide +kernel⟩, List.mem_of_getElem? (i := 397) (by decide +kernel), List.mem_of_getElem? (i := 1302) (by decide +kernel), List.mem_of_getElem? (i := 1303) (by decide +kernel)⟩
theorem lw_p39 : lw_okq (⟨"LinkYard$Mending", "isMended", "(II)Z"⟩, 4) := ⟨⟨by decide +kernel, by decide +kernel⟩, List.mem_of_getElem? (i := 439) (by decide +kernel), List.mem_of_getElem? (i := 1310) (by decide +kernel), List.mem_of_getElem? (i := 1311) (by decide +kernel)⟩
theorem lw_p40 : lw_okq (⟨"LinkYard", "askLinked", "()V"⟩, 18) := ⟨⟨by decide +kernel, by decide +kernel⟩, List.mem_of_getElem? (i := 34) (by decide +kernel), List.mem_of_getElem? (i := 1341) (by decide +kernel), List.mem_of_getElem? (i := 1342) (by decide +kernel)⟩
theorem lw_p41 : lw_okq (⟨"LinkYard", "askSection", "(I)V"⟩, 18) := ⟨⟨by decide +kernel, by decide +kernel⟩, List.mem_of_getElem? (i := 34) (by decide +kernel), List.mem_of_getElem? (i := 1369) (by decide +kernel), List.mem_of_getElem? (i := 1370) (by decide +kernel)⟩
theorem lw_p42 : lw_okq (⟨"LinkYard$Mending", "mended", "(II)I"⟩, 4) := ⟨⟨by decide +kernel, by decide +kernel⟩, List.mem_of_getElem? (i := 439) (by decide +kernel), List.mem_of_getElem? (i := 1439) (by decide +kernel), List.mem_of_getElem? (i := 1440) (by decide +kernel)⟩
theorem lw_p43 : lw_okq (⟨"LinkYard$Mending", "mend", "(II)I"⟩, 4) := ⟨⟨by decide +kernel, by decide +kernel⟩, List.mem_of_getElem? (i := 439) (by decide +kernel), List.mem_of_getElem? (i := 1446) (by decide +kernel), List.mem_of_getElem? (i := 1447) (by decide +kernel)⟩
theorem lw_p44 : lw_okq (⟨"LinkYardModel", "refuse", "(ZZ)Z"⟩, 50) := ⟨⟨by decide +kernel, by decide +kernel⟩, List.mem_of_getElem? (i := 1478) (by decide +kernel), List.mem_of_getElem? (i := 1647) (by decide +kernel), List.mem_of_getElem? (i := 1648) (by decide +kernel)⟩
theorem lw_p45 : lw_okq (⟨"LinkYardModel", "told", "()V"⟩, 50) := ⟨⟨by decide +kernel, by decide +kernel⟩, List.mem_of_getElem? (i := 1478) (by decide +kernel), List.mem_of_getElem? (i := 1651) (by decide +kernel), List.mem_of_getElem? (i := 1652) (by decide +kernel)⟩
theorem lw_p46 : lw_okq (⟨"LinkYardModel", "isPlace", "(II)Z"⟩, 50) := ⟨⟨by decide +kernel, by decide +kernel⟩, List.mem_of_getElem? (i := 1478) (by decide +kernel), List.mem_of_getElem? (i := 1667) (by decide +kernel), List.mem_of_getElem? (i := 1668) (by decide +kernel)⟩
theorem lw_p47 : lw_okq (⟨"LinkYardModel", "hasName", "(III)Z"⟩, 50) := ⟨⟨by decide +kernel, by decide +kernel⟩, List.mem_of_getElem? (i := 1478) (by decide +kernel), List.mem_of_getElem? (i := 1675) (by decide +kernel), List.mem_of_getElem? (i := 1676) (by decide +kernel)⟩
def lw_privs_3 : List (MethodName × Nat) := [(⟨"LinkYard$Layout", "laySections", "(I)V"⟩, 10), (⟨"LinkYard$Layout", "put", "(II)I"⟩, 10), (⟨"LinkYard$Islands", "firstStranded", "()I"⟩, 11), (⟨"LinkYard$Islands", "mayGo", "(I)Z"⟩, 11), (⟨"LinkYard$Islands", "send", "(I)Z"⟩, 11), (⟨"LinkYard$Islands", "find", "(I)I"⟩, 11), (⟨"LinkYard$Islands", "raise", "(I)V"⟩, 11), (⟨"LinkYard$Mending", "isMended", "(II)Z"⟩, 4), (⟨"LinkYard", "askLinked", "()V"⟩, 18), (⟨"LinkYard", "askSection", "(I)V"⟩, 18), (⟨"LinkYard$Mending", "mended", "(II)I"⟩, 4), (⟨"LinkYard$Mending", "mend", "(II)I"⟩, 4), (⟨"LinkYardModel", "refuse", "(ZZ)Z"⟩, 50), (⟨"LinkYardModel", "told", "()V"⟩, 50), (⟨"LinkYardModel", "isPlace", "(II)Z"⟩, 50), (⟨"LinkYardModel", "hasName", "(III)Z"⟩, 50)]
theorem lw_r3 : ∀ q ∈ lw_privs_3, lw_okq q := List.forall_mem_cons.mpr ⟨lw_p32, List.forall_mem_cons.mpr ⟨lw_p33, List.forall_mem_cons.mpr ⟨lw_p34, List.forall_mem_cons.mpr ⟨lw_p35, List.forall_mem_cons.mpr ⟨lw_p36, List.forall_mem_cons.mpr ⟨lw_p37, List.forall_mem_cons.mpr ⟨lw_p38, List.forall_mem_cons.mpr ⟨lw_p39, List.forall_mem_cons.mpr ⟨lw_p40, List.forall_mem_cons.mpr ⟨lw_p41, List.forall_mem_cons.mpr ⟨lw_p42, List.forall_mem_cons.mpr ⟨lw_p43, List.forall_mem_cons.mpr ⟨lw_p44, List.forall_mem_cons.mpr ⟨lw_p45, List.forall_mem_cons.mpr ⟨lw_p46, List.forall_mem_cons.mpr ⟨lw_p47, fun _ h => absurd h List.not_mem_nil⟩⟩⟩⟩⟩⟩⟩⟩⟩⟩⟩⟩⟩⟩⟩⟩
theorem lw_p48 : lw_okq (⟨"LinkYardModel", "newSymbol", "(IIIIII)I"⟩, 50) := ⟨⟨by decide +kernel, by decide +kernel⟩, List.mem_of_getElem? (i := 1478) (by decide +kernel), List.mem_of_getElem? (i := 1679) (by decide +kernel), List.mem_of_getElem? (i := 1680) (by decide +kernel)⟩
theorem lw_p49 : lw_okq (⟨"LinkYardModel", "findIn", "()V"⟩, 50) := ⟨⟨by decide +kernel, by decide +kernel⟩, List.mem_of_getElem? (i := 1478) (by decide +kernel), List.mem_of_getElem? (i := 1712) (by decide +kernel), List.mem_of_getElem? (i := 1713) (by decide +kernel)⟩
theorem lw_p50 : lw_okq (⟨"LinkYardModel", "bring", "(I)Z"⟩, 50) := ⟨⟨by decide +kernel, by decide +kernel⟩, List.mem_of_getElem? (i := 1478) (by decide +kernel), List.mem_of_getElem? (i := 1716) (by decide +kernel), List.mem_of_getElem? (i := 1717) (by decide +kernel)⟩
theorem lw_p51 : lw_okq (⟨"LinkYardModel", "helps", "(I)Z"⟩, 50) := ⟨⟨by decide +kernel, by decide +kernel⟩, List.mem_of_getElem? (i := 1478) (by decide +kernel), List.mem_of_getElem? (i := 1720) (by decide +kernel), List.mem_of_getElem? (i := 1721) (by decide +kernel)⟩
theorem lw_p52 : lw_okq (⟨"LinkYardModel", "isNeeded", "(I)Z"⟩, 50) := ⟨⟨by decide +kernel, by decide +kernel⟩, List.mem_of_getElem? (i := 1478) (by decide +kernel), List.mem_of_getElem? (i := 1724) (by decide +kernel), List.mem_of_getElem? (i := 1725) (by decide +kernel)⟩
theorem lw_p53 : lw_okq (⟨"LinkYardModel", "isGiven", "(I)Z"⟩, 50) := ⟨⟨by decide +kernel, by decide +kernel⟩, List.mem_of_getElem? (i := 1478) (by decide +kernel), List.mem_of_getElem? (i := 1728) (by decide +kernel), List.mem_of_getElem? (i := 1729) (by decide +kernel)⟩
theorem lw_p54 : lw_okq (⟨"LinkYardModel", "define", "()Z"⟩, 50) := ⟨⟨by decide +kernel, by decide +kernel⟩, List.mem_of_getElem? (i := 1478) (by decide +kernel), List.mem_of_getElem? (i := 1732) (by decide +kernel), List.mem_of_getElem? (i := 1733) (by decide +kernel)⟩
theorem lw_p55 : lw_okq (⟨"LinkYardModel", "fail", "(III)Z"⟩, 50) := ⟨⟨by decide +kernel, by decide +kernel⟩, List.mem_of_getElem? (i := 1478) (by decide +kernel), List.mem_of_getElem? (i := 1736) (by decide +kernel), List.mem_of_getElem? (i := 1737) (by decide +kernel)⟩
theorem lw_p56 : lw_okq (⟨"LinkYardModel", "reach", "()Z"⟩, 50) := ⟨⟨by decide +kernel, by decide +kernel⟩, List.mem_of_getElem? (i := 1478) (by decide +kernel), List.mem_of_getElem? (i := 1740) (by decide +kernel), List.mem_of_getElem? (i := 1741) (by decide +kernel)⟩
theorem lw_p57 : lw_okq (⟨"LinkYardModel", "reachBy", "(I)Z"⟩, 50) := ⟨⟨by decide +kernel, by decide +kernel⟩, List.mem_of_getElem? (i := 1478) (by decide +kernel), List.mem_of_getElem? (i := 1744) (by decide +kernel), List.mem_of_getElem? (i := 1745) (by decide +kernel)⟩
theorem lw_p58 : lw_okq (⟨"LinkYardModel", "sectionOf", "(I)I"⟩, 50) := ⟨⟨by decide +kernel, by decide +kernel⟩, List.mem_of_getElem? (i := 1478) (by decide +kernel), List.mem_of_getElem? (i := 1748) (by decide +kernel), List.mem_of_getElem? (i := 1749) (by decide +kernel)⟩
theorem lw_p59 : lw_okq (⟨"LinkYardModel", "sortOf", "(I)I"⟩, 50) := ⟨⟨by decide +kernel, by decide +kernel⟩, List.mem_of_getElem? (i := 1478) (by decide +kernel), List.mem_of_getElem? (i := 1752) (by decide +kernel), List.mem_of_getElem? (i := 1753) (by decide +kernel)⟩
theorem lw_p60 : lw_okq (⟨"LinkYardModel", "isCommon", "(I)Z"⟩, 50) := ⟨⟨by decide +kernel, by decide +kernel⟩, List.mem_of_getElem? (i := 1478) (by decide +kernel), List.mem_of_getElem? (i := 1756) (by decide +kernel), List.mem_of_getElem? (i := 1757) (by decide +kernel)⟩
theorem lw_p61 : lw_okq (⟨"LinkYardModel", "itself", "(I)I"⟩, 50) := ⟨⟨by decide +kernel, by decide +kernel⟩, List.mem_of_getElem? (i := 1478) (by decide +kernel), List.mem_of_getElem? (i := 1760) (by decide +kernel), List.mem_of_getElem? (i := 1761) (by decide +kernel)⟩
theorem lw_p62 : lw_okq (⟨"LinkYardModel", "findLike", "()V"⟩, 50) := ⟨⟨by decide +kernel, by decide +kernel⟩, List.mem_of_getElem? (i := 1478) (by decide +kernel), List.mem_of_getElem? (i := 1764) (by decide +kernel), List.mem_of_getElem? (i := 1765) (by decide +kernel)⟩
theorem lw_p63 : lw_okq (⟨"LinkYardModel", "mayFold", "(I)Z"⟩, 50) := ⟨⟨by decide +kernel, by decide +kernel⟩, List.mem_of_getElem? (i := 1478) (by decide +kernel), List.mem_of_getElem? (i := 1768) (by decide +kernel), List.mem_of_getElem? (i := 1769) (by decide +kernel)⟩
def lw_privs_4 : List (MethodName × Nat) := [(⟨"LinkYardModel", "newSymbol", "(IIIIII)I"⟩, 50), (⟨"LinkYardModel", "findIn", "()V"⟩, 50), (⟨"LinkYardModel", "bring", "(I)Z"⟩, 50), (⟨"LinkYardModel", "helps", "(I)Z"⟩, 50), (⟨"LinkYardModel", "isNeeded", "(I)Z"⟩, 50), (⟨"LinkYardModel", "isGiven", "(I)Z"⟩, 50), (⟨"LinkYardModel", "define", "()Z"⟩, 50), (⟨"LinkYardModel", "fail", "(III)Z"⟩, 50), (⟨"LinkYardModel", "reach", "()Z"⟩, 50), (⟨"LinkYardModel", "reachBy", "(I)Z"⟩, 50), (⟨"LinkYardModel", "sectionOf", "(I)I"⟩, 50), (⟨"LinkYardModel", "sortOf", "(I)I"⟩, 50), (⟨"LinkYardModel", "isCommon", "(I)Z"⟩, 50), (⟨"LinkYardModel", "itself", "(I)I"⟩, 50), (⟨"LinkYardModel", "findLike", "()V"⟩, 50), (⟨"LinkYardModel", "mayFold", "(I)Z"⟩, 50)]
theorem lw_r4 : ∀ q ∈ lw_privs_4, lw_okq q := List.forall_mem_cons.mpr ⟨lw_p48, List.forall_mem_cons.mpr ⟨lw_p49, List.forall_mem_cons.mpr ⟨lw_p50, List.forall_mem_cons.mpr ⟨lw_p51, List.forall_mem_cons.mpr ⟨lw_p52, List.forall_mem_cons.mpr ⟨lw_p53, List.forall_mem_cons.mpr ⟨lw_p54, List.forall_mem_cons.mpr ⟨lw_p55, List.forall_mem_cons.mpr ⟨lw_p56, List.forall_mem_cons.mpr ⟨lw_p57, List.forall_mem_cons.mpr ⟨lw_p58, List.forall_mem_cons.mpr ⟨lw_p59, List.forall_mem_cons.mpr ⟨lw_p60, List.forall_mem_cons.mpr ⟨lw_p61, List.forall_mem_cons.mpr ⟨lw_p62, List.forall_mem_cons.mpr ⟨lw_p63, fun _ h => absurd h List.not_mem_nil⟩⟩⟩⟩⟩⟩⟩⟩⟩⟩⟩⟩⟩⟩⟩⟩
theorem lw_p64 : lw_okq (⟨"LinkYardModel", "haveLikeWords", "(II)Z"⟩, 50) := ⟨⟨by decide +kernel, by decide +kernel⟩, List.mem_of_getElem? (i := 1478) (by decide +kernel), List.mem_of_getElem? (i := 1772) (by decide +kernel), List.mem_of_getElem? (i := 1773) (by decide +kernel)⟩
theorem lw_p65 : lw_okq (⟨"LinkYardModel", "haveLikeRelocations", "(II)Z"⟩, 50) := ⟨⟨by decide +kernel, by decide +kernel⟩, List.mem_of_getElem? (i := 1478) (by decide +kernel), List.mem_of_getElem? (i := 1776) (by decide +kernel), List.mem_of_getElem? (i := 1777) (by decide +kernel)⟩
theorem lw_p66 : lw_okq (⟨"LinkYardModel", "nextOf", "(II)I"⟩, 50) := ⟨⟨by decide +kernel, by decide +kernel⟩, List.mem_of_getElem? (i := 1478) (by decide +kernel), List.mem_of_getElem? (i := 1780) (by decide +kernel), List.mem_of_getElem? (i := 1781) (by decide +kernel)⟩
theorem lw_p67 : lw_okq (⟨"LinkYardModel", "meanLike", "(II)Z"⟩, 50) := ⟨⟨by decide +kernel, by decide +kernel⟩, List.mem_of_getElem? (i := 1478) (by decide +kernel), List.mem_of_getElem? (i := 1784) (by decide +kernel), List.mem_of_getElem? (i := 1785) (by decide +kernel)⟩
theorem lw_p68 : lw_okq (⟨"LinkYardModel", "numberOf", "(I)I"⟩, 50) := ⟨⟨by decide +kernel, by decide +kernel⟩, List.mem_of_getElem? (i := 1478) (by decide +kernel), List.mem_of_getElem? (i := 1788) (by decide +kernel), List.mem_of_getElem? (i := 1789) (by decide +kernel)⟩
theorem lw_p69 : lw_okq (⟨"LinkYardModel", "findIslands", "()Z"⟩, 50) := ⟨⟨by decide +kernel, by decide +kernel⟩, List.mem_of_getElem? (i := 1478) (by decide +kernel), List.mem_of_getElem? (i := 1792) (by decide +kernel), List.mem_of_getElem? (i := 1793) (by decide +kernel)⟩
theorem lw_p70 : lw_okq (⟨"LinkYardModel", "lay", "()V"⟩, 50) := ⟨⟨by decide +kernel, by decide +kernel⟩, List.mem_of_getElem? (i := 1478) (by decide +kernel), List.mem_of_getElem? (i := 1796) (by decide +kernel), List.mem_of_getElem? (i := 1797) (by decide +kernel)⟩
theorem lw_p71 : lw_okq (⟨"LinkYardModel", "layKind", "(II)I"⟩, 50) := ⟨⟨by decide +kernel, by decide +kernel⟩, List.mem_of_getElem? (i := 1478) (by decide +kernel), List.mem_of_getElem? (i := 1800) (by decide +kernel), List.mem_of_getElem? (i := 1801) (by decide +kernel)⟩
theorem lw_p72 : lw_okq (⟨"LinkYardModel", "stays", "(I)Z"⟩, 50) := ⟨⟨by decide +kernel, by decide +kernel⟩, List.mem_of_getElem? (i := 1478) (by decide +kernel), List.mem_of_getElem? (i := 1804) (by decide +kernel), List.mem_of_getElem? (i := 1805) (by decide +kernel)⟩
theorem lw_p73 : lw_okq (⟨"LinkYardModel", "needy", "()I"⟩, 50) := ⟨⟨by decide +kernel, by decide +kernel⟩, List.mem_of_getElem? (i := 1478) (by decide +kernel), List.mem_of_getElem? (i := 1811) (by decide +kernel), List.mem_of_getElem? (i := 1812) (by decide +kernel)⟩
theorem lw_p74 : lw_okq (⟨"LinkYardModel", "isNearTarget", "(I)Z"⟩, 50) := ⟨⟨by decide +kernel, by decide +kernel⟩, List.mem_of_getElem? (i := 1478) (by decide +kernel), List.mem_of_getElem? (i := 1815) (by decide +kernel), List.mem_of_getElem? (i := 1816) (by decide +kernel)⟩
theorem lw_p75 : lw_okq (⟨"LinkYardModel", "meaning", "(I)I"⟩, 50) := ⟨⟨by decide +kernel, by decide +kernel⟩, List.mem_of_getElem? (i := 1478) (by decide +kernel), List.mem_of_getElem? (i := 1819) (by decide +kernel), List.mem_of_getElem? (i := 1820) (by decide +kernel)⟩
theorem lw_p76 : lw_okq (⟨"LinkYardModel", "placeAt", "(I)I"⟩, 50) := ⟨⟨by decide +kernel, by decide +kernel⟩, List.mem_of_getElem? (i := 1478) (by decide +kernel), List.mem_of_getElem? (i := 1823) (by decide +kernel), List.mem_of_getElem? (i := 1824) (by decide +kernel)⟩
theorem lw_p77 : lw_okq (⟨"LinkYardModel", "sameTarget", "(II)Z"⟩, 50) := ⟨⟨by decide +kernel, by decide +kernel⟩, List.mem_of_getElem? (i := 1478) (by decide +kernel), List.mem_of_getElem? (i := 1833) (by decide +kernel), List.mem_of_getElem? (i := 1834) (by decide +kernel)⟩
theorem lw_p78 : lw_okq (⟨"LinkYardModel", "checkFar", "()Z"⟩, 50) := ⟨⟨by decide +kernel, by decide +kernel⟩, List.mem_of_getElem? (i := 1478) (by decide +kernel), List.mem_of_getElem? (i := 1837) (by decide +kernel), List.mem_of_getElem? (i := 1838) (by decide +kernel)⟩
theorem lw_p79 : lw_okq (⟨"LinkYardModel", "islandAt", "(I)I"⟩, 50) := ⟨⟨by decide +kernel, by decide +kernel⟩, List.mem_of_getElem? (i := 1478) (by decide +kernel), List.mem_of_getElem? (i := 1841) (by decide +kernel), List.mem_of_getElem? (i := 1842) (by decide +kernel)⟩
def lw_privs_5 : List (MethodName × Nat) := [(⟨"LinkYardModel", "haveLikeWords", "(II)Z"⟩, 50), (⟨"LinkYardModel", "haveLikeRelocations", "(II)Z"⟩, 50), (⟨"LinkYardModel", "nextOf", "(II)I"⟩, 50), (⟨"LinkYardModel", "meanLike", "(II)Z"⟩, 50), (⟨"LinkYardModel", "numberOf", "(I)I"⟩, 50), (⟨"LinkYardModel", "findIslands", "()Z"⟩, 50), (⟨"LinkYardModel", "lay", "()V"⟩, 50), (⟨"LinkYardModel", "layKind", "(II)I"⟩, 50), (⟨"LinkYardModel", "stays", "(I)Z"⟩, 50), (⟨"LinkYardModel", "needy", "()I"⟩, 50), (⟨"LinkYardModel", "isNearTarget", "(I)Z"⟩, 50), (⟨"LinkYardModel", "meaning", "(I)I"⟩, 50), (⟨"LinkYardModel", "placeAt", "(I)I"⟩, 50), (⟨"LinkYardModel", "sameTarget", "(II)Z"⟩, 50), (⟨"LinkYardModel", "checkFar", "()Z"⟩, 50), (⟨"LinkYardModel", "islandAt", "(I)I"⟩, 50)]
theorem lw_r5 : ∀ q ∈ lw_privs_5, lw_okq q := List.forall_mem_cons.mpr ⟨lw_p64, List.forall_mem_cons.mpr ⟨lw_p65, List.forall_mem_cons.mpr ⟨lw_p66, List.forall_mem_cons.mpr ⟨lw_p67, List.forall_mem_cons.mpr ⟨lw_p68, List.forall_mem_cons.mpr ⟨lw_p69, List.forall_mem_cons.mpr ⟨lw_p70, List.forall_mem_cons.mpr ⟨lw_p71, List.forall_mem_cons.mpr ⟨lw_p72, List.forall_mem_cons.mpr ⟨lw_p73, List.forall_mem_cons.mpr ⟨lw_p74, List.forall_mem_cons.mpr ⟨lw_p75, List.forall_mem_cons.mpr ⟨lw_p76, List.forall_mem_cons.mpr ⟨lw_p77, List.forall_mem_cons.mpr ⟨lw_p78, List.forall_mem_cons.mpr ⟨lw_p79, fun _ h => absurd h List.not_mem_nil⟩⟩⟩⟩⟩⟩⟩⟩⟩⟩⟩⟩⟩⟩⟩⟩
theorem lw_p80 : lw_okq (⟨"LinkYardModel", "mend", "()Z"⟩, 50) := ⟨⟨by decide +kernel, by decide +kernel⟩, List.mem_of_getElem? (i := 1478) (by decide +kernel), List.mem_of_getElem? (i := 1845) (by decide +kernel), List.mem_of_getElem? (i := 1846) (by decide +kernel)⟩
theorem lw_p81 : lw_okq (⟨"LinkYardModel", "mendOne", "(I)Z"⟩, 50) := ⟨⟨by decide +kernel, by decide +kernel⟩, List.mem_of_getElem? (i := 1478) (by decide +kernel), List.mem_of_getElem? (i := 1849) (by decide +kernel), List.mem_of_getElem? (i := 1850) (by decide +kernel)⟩
def lw_privs_6 : List (MethodName × Nat) := [(⟨"LinkYardModel", "mend", "()Z"⟩, 50), (⟨"LinkYardModel", "mendOne", "(I)Z"⟩, 50)]
theorem lw_r6 : ∀ q ∈ lw_privs_6, lw_okq q := List.forall_mem_cons.mpr ⟨lw_p80, List.forall_mem_cons.mpr ⟨lw_p81, fun _ h => absurd h List.not_mem_nil⟩⟩
def lw_privs : List (MethodName × Nat) := lw_privs_1 ++ (lw_privs_2 ++ (lw_privs_3 ++ (lw_privs_4 ++ (lw_privs_5 ++ (lw_privs_6)))))
def lw_tbl : List Cond := k2_sels lw_privs ++ tables_1
theorem lw_privs_ok : ∀ q ∈ lw_privs, lw_okq q := by
  show ∀ q ∈ lw_privs_1 ++ (lw_privs_2 ++ (lw_privs_3 ++ (lw_privs_4 ++ (lw_privs_5 ++ (lw_privs_6))))), lw_okq q
  exact List.forall_mem_append.mpr ⟨lw_r1, List.forall_mem_append.mpr ⟨lw_r2, List.forall_mem_append.mpr ⟨lw_r3, List.forall_mem_append.mpr ⟨lw_r4, List.forall_mem_append.mpr ⟨lw_r5, lw_r6⟩⟩⟩⟩⟩

/-- the words that every method of the walk is given -/
def ALLW : List Cond := lw_tbl.filter goodWord
theorem mw {w : Cond} (i : Nat) (h : lw_tbl[i]? = some w ∧ goodWord w = true) : w ∈ ALLW := List.mem_filter.mpr ⟨List.mem_of_getElem? h.1, h.2⟩
theorem mwAll {ws : List Cond} (h : ∀ w ∈ ws, w ∈ lw_tbl ∧ goodWord w = true) : ∀ w ∈ ws, w ∈ ALLW := fun w hw => List.mem_filter.mpr (h w hw)
theorem goodAll : ∀ w ∈ ALLW, (w.onTables && w.keeps) = true ∨ ∃ ty, w = .arrayClass ty := fun w h => good_of_word (List.mem_filter.mp h).2
theorem allw_in {args : Array Value} {s : State} (h : ∀ w ∈ lw_tbl, w.before args s = true) : ∀ w ∈ ALLW, w.before args s = true := fun w hw => h w (List.mem_filter.mp hw).1
end
section
def R_Ly : String := "LinkYard"
def F_Ly : u_T := fun k => match k with
  | 0 => ("LinkYard", "units", "LLinkYard$Units;", true)
  | 1 => ("LinkYard", "sections", "LLinkYard$Sections;", true)
  | 2 => ("LinkYard", "symbols", "LLinkYard$Symbols;", true)
  | 3 => ("LinkYard", "relocations", "LLinkYard$Relocations;", true)
  | 4 => ("LinkYard", "arrivals", "LLinkYard$Arrivals;", true)
  | 5 => ("LinkYard", "names", "LLinkYard$Names;", true)
  | 6 => ("LinkYard", "reach", "LLinkYard$Reach;", true)
  | 7 => ("LinkYard", "folding", "LLinkYard$Folding;", true)
  | 8 => ("LinkYard", "layout", "LLinkYard$Layout;", true)
  | 9 => ("LinkYard", "islands", "LLinkYard$Islands;", true)
  | 10 => ("LinkYard", "mending", "LLinkYard$Mending;", true)
  | 11 => ("LinkYard", "entryName", "I", false)
  | 12 => ("LinkYard", "folds", "Z", false)
  | 13 => ("LinkYard", "groups", "Z", false)
  | 14 => ("LinkYard", "linked", "Z", false)
  | 15 => ("LinkYard", "faultKind", "I", false)
  | 16 => ("LinkYard", "faultName", "I", false)
  | _ => ("LinkYard", "faultRelocation", "I", false)
def t_Ly : Nat → FieldType := fun k => match k with
  | 0 => .object "LinkYard$Units"
  | 1 => .object "LinkYard$Sections"
  | 2 => .object "LinkYard$Symbols"
  | 3 => .object "LinkYard$Relocations"
  | 4 => .object "LinkYard$Arrivals"
  | 5 => .object "LinkYard$Names"
  | 6 => .object "LinkYard$Reach"
  | 7 => .object "LinkYard$Folding"
  | 8 => .object "LinkYard$Layout"
  | 9 => .object "LinkYard$Islands"
  | 10 => .object "LinkYard$Mending"
  | 11 => .int
  | 12 => .boolean
  | 13 => .boolean
  | 14 => .boolean
  | 15 => .int
  | 16 => .int
  | _ => .int
abbrev N_Ly : Nat := 18
def R_Un : String := "LinkYard$Units"
def F_Un : u_T := fun k => match k with
  | 0 => ("LinkYard$Units", "count", "I", false)
  | 1 => ("LinkYard$Units", "archive", "[I", true)
  | _ => ("LinkYard$Units", "in", "[Z", true)
def t_Un : Nat → FieldType := fun k => match k with
  | 0 => .int
  | 1 => .array .int
  | _ => .array .boolean
abbrev N_Un : Nat := 3
def R_Se : String := "LinkYard$Sections"
def F_Se : u_T := fun k => match k with
  | 0 => ("LinkYard$Sections", "count", "I", false)
  | 1 => ("LinkYard$Sections", "bytes", "I", false)
  | 2 => ("LinkYard$Sections", "stored", "I", false)
  | 3 => ("LinkYard$Sections", "words", "[I", false)
  | 4 => ("LinkYard$Sections", "unit", "[I", true)
  | 5 => ("LinkYard$Sections", "kind", "[I", true)
  | 6 => ("LinkYard$Sections", "size", "[I", true)
  | 7 => ("LinkYard$Sections", "alignment", "[I", true)
  | 8 => ("LinkYard$Sections", "firstWord", "[I", true)
  | _ => ("LinkYard$Sections", "kept", "[Z", true)
def t_Se : Nat → FieldType := fun k => match k with
  | 0 => .int
  | 1 => .int
  | 2 => .int
  | 3 => .array .int
  | 4 => .array .int
  | 5 => .array .int
  | 6 => .array .int
  | 7 => .array .int
  | 8 => .array .int
  | _ => .array .boolean
abbrev N_Se : Nat := 10
def R_Sy : String := "LinkYard$Symbols"
def F_Sy : u_T := fun k => match k with
  | 0 => ("LinkYard$Symbols", "count", "I", false)
  | 1 => ("LinkYard$Symbols", "unit", "[I", true)
  | 2 => ("LinkYard$Symbols", "name", "[I", true)
  | 3 => ("LinkYard$Symbols", "binding", "[I", true)
  | 4 => ("LinkYard$Symbols", "form", "[I", true)
  | 5 => ("LinkYard$Symbols", "section", "[I", true)
  | _ => ("LinkYard$Symbols", "value", "[I", true)
def t_Sy : Nat → FieldType := fun k => match k with
  | 0 => .int
  | 1 => .array .int
  | 2 => .array .int
  | 3 => .array .int
  | 4 => .array .int
  | 5 => .array .int
  | _ => .array .int
abbrev N_Sy : Nat := 7
def R_Re : String := "LinkYard$Relocations"
def F_Re : u_T := fun k => match k with
  | 0 => ("LinkYard$Relocations", "count", "I", false)
  | 1 => ("LinkYard$Relocations", "section", "[I", true)
  | 2 => ("LinkYard$Relocations", "place", "[I", true)
  | 3 => ("LinkYard$Relocations", "sort", "[I", true)
  | 4 => ("LinkYard$Relocations", "symbol", "[I", true)
  | 5 => ("LinkYard$Relocations", "addend", "[I", true)
  | 6 => ("LinkYard$Relocations", "sorted", "[I", true)
  | 7 => ("LinkYard$Relocations", "start", "[I", true)
  | _ => ("LinkYard$Relocations", "filled", "[I", true)
def t_Re : Nat → FieldType := fun k => match k with
  | 0 => .int
  | 1 => .array .int
  | 2 => .array .int
  | 3 => .array .int
  | 4 => .array .int
  | 5 => .array .int
  | 6 => .array .int
  | 7 => .array .int
  | _ => .array .int
abbrev N_Re : Nat := 9
def R_Ar : String := "LinkYard$Arrivals"
def F_Ar : u_T := fun k => match k with
  | 0 => ("LinkYard$Arrivals", "units", "LLinkYard$Units;", true)
  | 1 => ("LinkYard$Arrivals", "symbols", "LLinkYard$Symbols;", true)
  | 2 => ("LinkYard$Arrivals", "asked", "[Z", true)
  | _ => ("LinkYard$Arrivals", "given", "[Z", true)
def t_Ar : Nat → FieldType := fun k => match k with
  | 0 => .object "LinkYard$Units"
  | 1 => .object "LinkYard$Symbols"
  | 2 => .array .boolean
  | _ => .array .boolean
abbrev N_Ar : Nat := 4
def R_Na : String := "LinkYard$Names"
def F_Na : u_T := fun k => match k with
  | 0 => ("LinkYard$Names", "units", "LLinkYard$Units;", true)
  | 1 => ("LinkYard$Names", "symbols", "LLinkYard$Symbols;", true)
  | 2 => ("LinkYard$Names", "global", "[I", true)
  | 3 => ("LinkYard$Names", "weak", "[I", true)
  | 4 => ("LinkYard$Names", "commonSize", "[I", true)
  | 5 => ("LinkYard$Names", "twice", "I", false)
  | 6 => ("LinkYard$Names", "meant", "[I", true)
  | 7 => ("LinkYard$Names", "where", "[I", true)
  | _ => ("LinkYard$Names", "value", "[I", true)
def t_Na : Nat → FieldType := fun k => match k with
  | 0 => .object "LinkYard$Units"
  | 1 => .object "LinkYard$Symbols"
  | 2 => .array .int
  | 3 => .array .int
  | 4 => .array .int
  | 5 => .int
  | 6 => .array .int
  | 7 => .array .int
  | _ => .array .int
abbrev N_Na : Nat := 9
def R_Rc : String := "LinkYard$Reach"
def F_Rc : u_T := fun k => match k with
  | 0 => ("LinkYard$Reach", "units", "LLinkYard$Units;", true)
  | 1 => ("LinkYard$Reach", "sections", "LLinkYard$Sections;", true)
  | 2 => ("LinkYard$Reach", "relocations", "LLinkYard$Relocations;", true)
  | 3 => ("LinkYard$Reach", "names", "LLinkYard$Names;", true)
  | 4 => ("LinkYard$Reach", "reached", "[Z", true)
  | 5 => ("LinkYard$Reach", "commonReached", "[Z", true)
  | 6 => ("LinkYard$Reach", "found", "I", false)
  | _ => ("LinkYard$Reach", "queue", "[I", true)
def t_Rc : Nat → FieldType := fun k => match k with
  | 0 => .object "LinkYard$Units"
  | 1 => .object "LinkYard$Sections"
  | 2 => .object "LinkYard$Relocations"
  | 3 => .object "LinkYard$Names"
  | 4 => .array .boolean
  | 5 => .array .boolean
  | 6 => .int
  | _ => .array .int
abbrev N_Rc : Nat := 8
def R_Fo : String := "LinkYard$Folding"
def F_Fo : u_T := fun k => match k with
  | 0 => ("LinkYard$Folding", "sections", "LLinkYard$Sections;", true)
  | 1 => ("LinkYard$Folding", "relocations", "LLinkYard$Relocations;", true)
  | 2 => ("LinkYard$Folding", "names", "LLinkYard$Names;", true)
  | 3 => ("LinkYard$Folding", "reach", "LLinkYard$Reach;", true)
  | 4 => ("LinkYard$Folding", "leader", "[I", true)
  | _ => ("LinkYard$Folding", "finer", "[I", true)
def t_Fo : Nat → FieldType := fun k => match k with
  | 0 => .object "LinkYard$Sections"
  | 1 => .object "LinkYard$Relocations"
  | 2 => .object "LinkYard$Names"
  | 3 => .object "LinkYard$Reach"
  | 4 => .array .int
  | _ => .array .int
abbrev N_Fo : Nat := 6
def R_La : String := "LinkYard$Layout"
def F_La : u_T := fun k => match k with
  | 0 => ("LinkYard$Layout", "sections", "LLinkYard$Sections;", true)
  | 1 => ("LinkYard$Layout", "names", "LLinkYard$Names;", true)
  | 2 => ("LinkYard$Layout", "reach", "LLinkYard$Reach;", true)
  | 3 => ("LinkYard$Layout", "folding", "LLinkYard$Folding;", true)
  | 4 => ("LinkYard$Layout", "base", "I", false)
  | 5 => ("LinkYard$Layout", "end", "I", false)
  | 6 => ("LinkYard$Layout", "times", "I", false)
  | 7 => ("LinkYard$Layout", "islandsAt", "I", false)
  | 8 => ("LinkYard$Layout", "address", "[I", true)
  | _ => ("LinkYard$Layout", "commonAddress", "[I", true)
def t_La : Nat → FieldType := fun k => match k with
  | 0 => .object "LinkYard$Sections"
  | 1 => .object "LinkYard$Names"
  | 2 => .object "LinkYard$Reach"
  | 3 => .object "LinkYard$Folding"
  | 4 => .int
  | 5 => .int
  | 6 => .int
  | 7 => .int
  | 8 => .array .int
  | _ => .array .int
abbrev N_La : Nat := 10
def R_Is : String := "LinkYard$Islands"
def F_Is : u_T := fun k => match k with
  | 0 => ("LinkYard$Islands", "sections", "LLinkYard$Sections;", true)
  | 1 => ("LinkYard$Islands", "relocations", "LLinkYard$Relocations;", true)
  | 2 => ("LinkYard$Islands", "names", "LLinkYard$Names;", true)
  | 3 => ("LinkYard$Islands", "folding", "LLinkYard$Folding;", true)
  | 4 => ("LinkYard$Islands", "layout", "LLinkYard$Layout;", true)
  | 5 => ("LinkYard$Islands", "count", "I", false)
  | 6 => ("LinkYard$Islands", "goers", "I", false)
  | 7 => ("LinkYard$Islands", "meant", "[I", true)
  | 8 => ("LinkYard$Islands", "where", "[I", true)
  | 9 => ("LinkYard$Islands", "sum", "[I", true)
  | _ => ("LinkYard$Islands", "islandOf", "[I", true)
def t_Is : Nat → FieldType := fun k => match k with
  | 0 => .object "LinkYard$Sections"
  | 1 => .object "LinkYard$Relocations"
  | 2 => .object "LinkYard$Names"
  | 3 => .object "LinkYard$Folding"
  | 4 => .object "LinkYard$Layout"
  | 5 => .int
  | 6 => .int
  | 7 => .array .int
  | 8 => .array .int
  | 9 => .array .int
  | _ => .array .int
abbrev N_Is : Nat := 11
def R_Me : String := "LinkYard$Mending"
def F_Me : u_T := fun k => match k with
  | 0 => ("LinkYard$Mending", "sections", "LLinkYard$Sections;", true)
  | 1 => ("LinkYard$Mending", "relocations", "LLinkYard$Relocations;", true)
  | 2 => ("LinkYard$Mending", "layout", "LLinkYard$Layout;", true)
  | _ => ("LinkYard$Mending", "islands", "LLinkYard$Islands;", true)
def t_Me : Nat → FieldType := fun k => match k with
  | 0 => .object "LinkYard$Sections"
  | 1 => .object "LinkYard$Relocations"
  | 2 => .object "LinkYard$Layout"
  | _ => .object "LinkYard$Islands"
abbrev N_Me : Nat := 4
def R_Mo : String := "LinkYardModel"
def F_Mo : u_T := fun k => match k with
  | 0 => ("LinkYardModel", "thrown", "I", false)
  | 1 => ("LinkYardModel", "units", "I", false)
  | 2 => ("LinkYardModel", "archive", "[I", true)
  | 3 => ("LinkYardModel", "sections", "I", false)
  | 4 => ("LinkYardModel", "unitOf", "[I", true)
  | 5 => ("LinkYardModel", "kind", "[I", true)
  | 6 => ("LinkYardModel", "size", "[I", true)
  | 7 => ("LinkYardModel", "alignment", "[I", true)
  | 8 => ("LinkYardModel", "firstWord", "[I", true)
  | 9 => ("LinkYardModel", "kept", "[Z", true)
  | 10 => ("LinkYardModel", "bytes", "I", false)
  | 11 => ("LinkYardModel", "words", "I", false)
  | 12 => ("LinkYardModel", "word", "[I", true)
  | 13 => ("LinkYardModel", "symbols", "I", false)
  | 14 => ("LinkYardModel", "syUnit", "[I", true)
  | 15 => ("LinkYardModel", "sySort", "[I", true)
  | 16 => ("LinkYardModel", "sySection", "[I", true)
  | 17 => ("LinkYardModel", "syValue", "[I", true)
  | 18 => ("LinkYardModel", "syName", "[I", true)
  | 19 => ("LinkYardModel", "syBinding", "[I", true)
  | 20 => ("LinkYardModel", "relocations", "I", false)
  | 21 => ("LinkYardModel", "reSection", "[I", true)
  | 22 => ("LinkYardModel", "rePlace", "[I", true)
  | 23 => ("LinkYardModel", "reSort", "[I", true)
  | 24 => ("LinkYardModel", "reSymbol", "[I", true)
  | 25 => ("LinkYardModel", "reAddend", "[I", true)
  | 26 => ("LinkYardModel", "entry", "I", false)
  | 27 => ("LinkYardModel", "folds", "Z", false)
  | 28 => ("LinkYardModel", "groups", "Z", false)
  | 29 => ("LinkYardModel", "linked", "Z", false)
  | 30 => ("LinkYardModel", "faultKind", "I", false)
  | 31 => ("LinkYardModel", "faultName", "I", false)
  | 32 => ("LinkYardModel", "faultRelocation", "I", false)
  | 33 => ("LinkYardModel", "base", "I", false)
  | 34 => ("LinkYardModel", "end", "I", false)
  | 35 => ("LinkYardModel", "laid", "I", false)
  | 36 => ("LinkYardModel", "in", "[Z", true)
  | 37 => ("LinkYardModel", "defines", "[I", true)
  | 38 => ("LinkYardModel", "commonSize", "[I", true)
  | 39 => ("LinkYardModel", "commonReached", "[Z", true)
  | 40 => ("LinkYardModel", "commonAt", "[I", true)
  | 41 => ("LinkYardModel", "reached", "[Z", true)
  | 42 => ("LinkYardModel", "like", "[I", true)
  | 43 => ("LinkYardModel", "sectionAt", "[I", true)
  | 44 => ("LinkYardModel", "alike", "[Z", true)
  | 45 => ("LinkYardModel", "mended", "[I", true)
  | 46 => ("LinkYardModel", "island", "[I", true)
  | 47 => ("LinkYardModel", "islands", "I", false)
  | 48 => ("LinkYardModel", "islandOf", "[I", true)
  | _ => ("LinkYardModel", "islandsAt", "I", false)
def t_Mo : Nat → FieldType := fun k => match k with
  | 0 => .int
  | 1 => .int
  | 2 => .array .int
  | 3 => .int
  | 4 => .array .int
  | 5 => .array .int
  | 6 => .array .int
  | 7 => .array .int
  | 8 => .array .int
  | 9 => .array .boolean
  | 10 => .int
  | 11 => .int
  | 12 => .array .int
  | 13 => .int
  | 14 => .array .int
  | 15 => .array .int
  | 16 => .array .int
  | 17 => .array .int
  | 18 => .array .int
  | 19 => .array .int
  | 20 => .int
  | 21 => .array .int
  | 22 => .array .int
  | 23 => .array .int
  | 24 => .array .int
  | 25 => .array .int
  | 26 => .int
  | 27 => .boolean
  | 28 => .boolean
  | 29 => .boolean
  | 30 => .int
  | 31 => .int
  | 32 => .int
  | 33 => .int
  | 34 => .int
  | 35 => .int
  | 36 => .array .boolean
  | 37 => .array .int
  | 38 => .array .int
  | 39 => .array .boolean
  | 40 => .array .int
  | 41 => .array .boolean
  | 42 => .array .int
  | 43 => .array .int
  | 44 => .array .boolean
  | 45 => .array .int
  | 46 => .array .int
  | 47 => .int
  | 48 => .array .int
  | _ => .int
abbrev N_Mo : Nat := 50
abbrev classes : List vw_C := [(R_Ly, F_Ly, N_Ly), (R_Un, F_Un, N_Un), (R_Se, F_Se, N_Se), (R_Sy, F_Sy, N_Sy), (R_Re, F_Re, N_Re), (R_Ar, F_Ar, N_Ar), (R_Na, F_Na, N_Na), (R_Rc, F_Rc, N_Rc), (R_Fo, F_Fo, N_Fo), (R_La, F_La, N_La), (R_Is, F_Is, N_Is), (R_Me, F_Me, N_Me), (R_Mo, F_Mo, N_Mo)]
set_option maxRecDepth 100000 in
theorem i_Ly : ∀ w ∈ u_ws R_Ly F_Ly N_Ly, w ∈ ALLW := mwAll (by decide +kernel)
theorem n_Ly : ∀ a, a < N_Ly → ∀ b, b < N_Ly → a ≠ b → (F_Ly a).2.1 ≠ (F_Ly b).2.1 := by decide +kernel
theorem t_Ly_ok : ∀ k, k < N_Ly → parseFieldDescriptor (F_Ly k).2.2.1 = some (t_Ly k) := by decide +kernel
theorem cls_Ly : classes[0]? = some (R_Ly, F_Ly, N_Ly) := rfl
set_option maxRecDepth 100000 in
theorem i_Un : ∀ w ∈ u_ws R_Un F_Un N_Un, w ∈ ALLW := mwAll (by decide +kernel)
theorem n_Un : ∀ a, a < N_Un → ∀ b, b < N_Un → a ≠ b → (F_Un a).2.1 ≠ (F_Un b).2.1 := by decide +kernel
theorem t_Un_ok : ∀ k, k < N_Un → parseFieldDescriptor (F_Un k).2.2.1 = some (t_Un k) := by decide +kernel
theorem cls_Un : classes[1]? = some (R_Un, F_Un, N_Un) := rfl
set_option maxRecDepth 100000 in
theorem i_Se : ∀ w ∈ u_ws R_Se F_Se N_Se, w ∈ ALLW := mwAll (by decide +kernel)
theorem n_Se : ∀ a, a < N_Se → ∀ b, b < N_Se → a ≠ b → (F_Se a).2.1 ≠ (F_Se b).2.1 := by decide +kernel
theorem t_Se_ok : ∀ k, k < N_Se → parseFieldDescriptor (F_Se k).2.2.1 = some (t_Se k) := by decide +kernel
theorem cls_Se : classes[2]? = some (R_Se, F_Se, N_Se) := rfl
set_option maxRecDepth 100000 in
theorem i_Sy : ∀ w ∈ u_ws R_Sy F_Sy N_Sy, w ∈ ALLW := mwAll (by decide +kernel)
theorem n_Sy : ∀ a, a < N_Sy → ∀ b, b < N_Sy → a ≠ b → (F_Sy a).2.1 ≠ (F_Sy b).2.1 := by decide +kernel
theorem t_Sy_ok : ∀ k, k < N_Sy → parseFieldDescriptor (F_Sy k).2.2.1 = some (t_Sy k) := by decide +kernel
theorem cls_Sy : classes[3]? = some (R_Sy, F_Sy, N_Sy) := rfl
set_option maxRecDepth 100000 in
theorem i_Re : ∀ w ∈ u_ws R_Re F_Re N_Re, w ∈ ALLW := mwAll (by decide +kernel)
theorem n_Re : ∀ a, a < N_Re → ∀ b, b < N_Re → a ≠ b → (F_Re a).2.1 ≠ (F_Re b).2.1 := by decide +kernel
theorem t_Re_ok : ∀ k, k < N_Re → parseFieldDescriptor (F_Re k).2.2.1 = some (t_Re k) := by decide +kernel
theorem cls_Re : classes[4]? = some (R_Re, F_Re, N_Re) := rfl
set_option maxRecDepth 100000 in
theorem i_Ar : ∀ w ∈ u_ws R_Ar F_Ar N_Ar, w ∈ ALLW := mwAll (by decide +kernel)
theorem n_Ar : ∀ a, a < N_Ar → ∀ b, b < N_Ar → a ≠ b → (F_Ar a).2.1 ≠ (F_Ar b).2.1 := by decide +kernel
theorem t_Ar_ok : ∀ k, k < N_Ar → parseFieldDescriptor (F_Ar k).2.2.1 = some (t_Ar k) := by decide +kernel
theorem cls_Ar : classes[5]? = some (R_Ar, F_Ar, N_Ar) := rfl
set_option maxRecDepth 100000 in
theorem i_Na : ∀ w ∈ u_ws R_Na F_Na N_Na, w ∈ ALLW := mwAll (by decide +kernel)
theorem n_Na : ∀ a, a < N_Na → ∀ b, b < N_Na → a ≠ b → (F_Na a).2.1 ≠ (F_Na b).2.1 := by decide +kernel
theorem t_Na_ok : ∀ k, k < N_Na → parseFieldDescriptor (F_Na k).2.2.1 = some (t_Na k) := by decide +kernel
theorem cls_Na : classes[6]? = some (R_Na, F_Na, N_Na) := rfl
set_option maxRecDepth 100000 in
theorem i_Rc : ∀ w ∈ u_ws R_Rc F_Rc N_Rc, w ∈ ALLW := mwAll (by decide +kernel)
theorem n_Rc : ∀ a, a < N_Rc → ∀ b, b < N_Rc → a ≠ b → (F_Rc a).2.1 ≠ (F_Rc b).2.1 := by decide +kernel
theorem t_Rc_ok : ∀ k, k < N_Rc → parseFieldDescriptor (F_Rc k).2.2.1 = some (t_Rc k) := by decide +kernel
theorem cls_Rc : classes[7]? = some (R_Rc, F_Rc, N_Rc) := rfl
set_option maxRecDepth 100000 in
theorem i_Fo : ∀ w ∈ u_ws R_Fo F_Fo N_Fo, w ∈ ALLW := mwAll (by decide +kernel)
theorem n_Fo : ∀ a, a < N_Fo → ∀ b, b < N_Fo → a ≠ b → (F_Fo a).2.1 ≠ (F_Fo b).2.1 := by decide +kernel
theorem t_Fo_ok : ∀ k, k < N_Fo → parseFieldDescriptor (F_Fo k).2.2.1 = some (t_Fo k) := by decide +kernel
theorem cls_Fo : classes[8]? = some (R_Fo, F_Fo, N_Fo) := rfl
set_option maxRecDepth 100000 in
theorem i_La : ∀ w ∈ u_ws R_La F_La N_La, w ∈ ALLW := mwAll (by decide +kernel)
theorem n_La : ∀ a, a < N_La → ∀ b, b < N_La → a ≠ b → (F_La a).2.1 ≠ (F_La b).2.1 := by decide +kernel
theorem t_La_ok : ∀ k, k < N_La → parseFieldDescriptor (F_La k).2.2.1 = some (t_La k) := by decide +kernel
theorem cls_La : classes[9]? = some (R_La, F_La, N_La) := rfl
set_option maxRecDepth 100000 in
theorem i_Is : ∀ w ∈ u_ws R_Is F_Is N_Is, w ∈ ALLW := mwAll (by decide +kernel)
theorem n_Is : ∀ a, a < N_Is → ∀ b, b < N_Is → a ≠ b → (F_Is a).2.1 ≠ (F_Is b).2.1 := by decide +kernel
theorem t_Is_ok : ∀ k, k < N_Is → parseFieldDescriptor (F_Is k).2.2.1 = some (t_Is k) := by decide +kernel
theorem cls_Is : classes[10]? = some (R_Is, F_Is, N_Is) := rfl
set_option maxRecDepth 100000 in
theorem i_Me : ∀ w ∈ u_ws R_Me F_Me N_Me, w ∈ ALLW := mwAll (by decide +kernel)
theorem n_Me : ∀ a, a < N_Me → ∀ b, b < N_Me → a ≠ b → (F_Me a).2.1 ≠ (F_Me b).2.1 := by decide +kernel
theorem t_Me_ok : ∀ k, k < N_Me → parseFieldDescriptor (F_Me k).2.2.1 = some (t_Me k) := by decide +kernel
theorem cls_Me : classes[11]? = some (R_Me, F_Me, N_Me) := rfl
set_option maxRecDepth 100000 in
theorem i_Mo : ∀ w ∈ u_ws R_Mo F_Mo N_Mo, w ∈ ALLW := mwAll (by decide +kernel)
theorem n_Mo : ∀ a, a < N_Mo → ∀ b, b < N_Mo → a ≠ b → (F_Mo a).2.1 ≠ (F_Mo b).2.1 := by decide +kernel
theorem t_Mo_ok : ∀ k, k < N_Mo → parseFieldDescriptor (F_Mo k).2.2.1 = some (t_Mo k) := by decide +kernel
theorem cls_Mo : classes[12]? = some (R_Mo, F_Mo, N_Mo) := rfl
theorem sysN : Cond.native arraycopyName ∈ ALLW := (mw 767 (by decide +kernel))
theorem sysS : Cond.static arraycopyName ∈ ALLW := (mw 766 (by decide +kernel))
theorem sysI : Cond.initialized "java/lang/System" ∈ ALLW := (mw 104 (by decide +kernel))
theorem mathmaxS : Cond.static Lib.Math.max.name ∈ ALLW := (mw 752 (by decide +kernel))
theorem mathmaxC : Cond.code Lib.Math.max.name Lib.Math.max.code 2 (some .int) ∈ ALLW := (mw 753 (by decide +kernel))
theorem mathminS : Cond.static Lib.Math.min.name ∈ ALLW := (mw 749 (by decide +kernel))
theorem mathminC : Cond.code Lib.Math.min.name Lib.Math.min.code 2 (some .int) ∈ ALLW := (mw 750 (by decide +kernel))
theorem mathI : Cond.initialized "java/lang/Math" ∈ ALLW := (mw 102 (by decide +kernel))
end
section
/-! The state of a fixed graph of cells: V k j is what the cell k holds at its slot (or place) j. Methods are functions over it, in Option. -/
abbrev Sto : Type := Nat → Nat → Int32
/-- a store: cell k, slot i -/
def sw (V : Sto) (k i : Nat) (x : Int32) : Sto := fun q => if q = k then upd (V k) i x else V q
/-- an index that is within -/
def ib (i : Int32) (n : Nat) : Bool := !(decide (i < 0) || decide (n ≤ i.toNatClampNeg))
/-- a boolean's number -/
def bb (x : Int32) : Bool := decide (x = 0) || decide (x = 1)
abbrev RT : Type := Option (Int32 × Sto)
abbrev RTT : Type := Option ((Int32 ⊕ Nat) × Sto)
def ck {α : Type} (b : Bool) (k : Option α) : Option α := match b with
  | true => k
  | false => none
def nm {α β : Type} (x : α) (k : α → Option β) : Option β := k x
def cl {β : Type} (x : RT) (k : Int32 → Sto → Option β) : Option β := match x with
  | some (r, V) => k r V
  | none => none
def clT (x : RTT) (k : Int32 → Sto → RTT) : RTT := match x with
  | some (.inl r, V) => k r V
  | some (.inr e, V) => some (.inr e, V)
  | none => none
/-- how often a loop may go round: far more than any does -/
def FU : Nat := 1000000
theorem ib_in {i : Int32} {n : Nat} (h : ib i n = true) : vp_in i n := by
  intro q
  unfold ib at h
  rcases q with q | q <;> simp [q] at h
theorem ib_of {i : Int32} {n : Nat} (h : vp_in i n) : ib i n = true := by
  unfold ib
  unfold vp_in at h
  rw [Bool.not_eq_true', Bool.or_eq_false_iff, decide_eq_false_iff_not, decide_eq_false_iff_not]
  exact ⟨fun q => h (Or.inl q), fun q => h (Or.inr q)⟩
theorem ib_nI {n N : Nat} (h : n < N) (hN : N < 2 ^ 31) : ib (nI n) N = true := ib_of (vp_in_nI h hN)
theorem ck_some {α : Type} {b : Bool} {k : Option α} {y : α} (h : ck b k = some y) : b = true ∧ k = some y := by
  cases b with
  | true => exact ⟨rfl, h⟩
  | false => cases h
theorem nm_some {α β : Type} {x : α} {k : α → Option β} {y : β} (h : nm x k = some y) : ∃ z, x = z ∧ k z = some y := ⟨x, rfl, h⟩
theorem cl_some {β : Type} {x : RT} {k : Int32 → Sto → Option β} {y : β} (h : cl x k = some y) : ∃ r V, x = some (r, V) ∧ k r V = some y := by
  cases x with
  | none => cases h
  | some q => exact ⟨q.1, q.2, rfl, h⟩
theorem ck_t {α : Type} {b : Bool} {k : Option α} (h : b = true) : ck b k = k := by rw [h]; rfl
theorem cl_s {β : Type} {x : RT} {k : Int32 → Sto → Option β} {r : Int32} {V : Sto} (h : x = some (r, V)) : cl x k = k r V := by rw [h]; rfl
theorem sw_s (V : Sto) (k i : Nat) (x : Int32) : sw V k i x k i = x := by simp [sw, upd]
theorem sw_n (V : Sto) (k i j : Nat) (x : Int32) (h : j ≠ i) : sw V k i x k j = V k j := by simp [sw, upd, h]
theorem sw_o (V : Sto) (k i q j : Nat) (x : Int32) (h : q ≠ k) : sw V k i x q j = V q j := by simp [sw, h]
theorem ifp {α : Sort _} {c : Prop} {hd : Decidable c} {a b y : α} (hc : c) (h : (@ite α c hd a b) = y) : a = y := by rw [if_pos hc] at h; exact h
theorem ifn {α : Sort _} {c : Prop} {hd : Decidable c} {a b y : α} (hc : ¬ c) (h : (@ite α c hd a b) = y) : b = y := by rw [if_neg hc] at h; exact h
/-- a place where ways meet -/
def jn {α β : Type} (k : α) (f : α → β) : β := f k
theorem jn_some {α β : Type} {k : α} {f : α → Option β} {y : β} (h : jn k f = some y) : ∃ j, k = j ∧ f j = some y := ⟨k, rfl, h⟩
end
section
/-! The world of a fixed graph: its shape, its cells, and what a store or a put does to them. -/
abbrev Shp : Type := (Nat × List (Option Nat)) ⊕ (Bool × Option Nat)
/-- a row's length: fixed, or kept at the ghost cell 1000 -/
def alenOf (V : Sto) (k : Nat) (o : Option Nat) : Nat := match o with
  | some n => n
  | none => (V 1000 k).toNatClampNeg
def fvs (a : Nat → Nat) (f : Nat → Int32) : Nat → List (Option Nat) → List Value
  | _, [] => []
  | j, none :: fs => .int (f j) :: fvs a f (j + 1) fs
  | j, some r :: fs => .ref (a r) :: fvs a f (j + 1) fs
def arrC (cI cZ : ClassId) (b : Bool) : ClassId := match b with
  | true => cZ
  | false => cI
def cellE (cI cZ : ClassId) (a : Nat → Nat) (V : Sto) (k : Nat) (sh : Shp) : va_E := match sh with
  | .inl (ci, fs) => .inr (ci, fvs a (V k) 0 fs)
  | .inr (b, o) => .inl (arrC cI cZ b, alenOf V k o, .inl (V k))
def wsF (cI cZ : ClassId) (a : Nat → Nat) (V : Sto) : Nat → List Shp → va_W
  | _, [] => []
  | k, sh :: l => (a k, cellE cI cZ a V k sh) :: wsF cI cZ a V (k + 1) l
theorem wsF_at (cI cZ : ClassId) (a : Nat → Nat) (V : Sto) : ∀ (l : List Shp) (b k : Nat), (wsF cI cZ a V b l)[k]? = (l[k]?).map (fun sh => (a (b + k), cellE cI cZ a V (b + k) sh))
  | [], b, k => by simp [wsF]
  | sh :: l, b, 0 => by simp [wsF]
  | sh :: l, b, k + 1 => by
    rw [wsF, List.getElem?_cons_succ, List.getElem?_cons_succ, wsF_at cI cZ a V l (b + 1) k]
    rw [show b + 1 + k = b + (k + 1) by omega]
theorem wsF_len (cI cZ : ClassId) (a : Nat → Nat) (V : Sto) : ∀ (l : List Shp) (b : Nat), (wsF cI cZ a V b l).length = l.length
  | [], b => rfl
  | sh :: l, b => by rw [wsF, List.length_cons, List.length_cons, wsF_len cI cZ a V l (b + 1)]
theorem fvs_at (a : Nat → Nat) (f : Nat → Int32) : ∀ (fs : List (Option Nat)) (b j : Nat), (fvs a f b fs)[j]? = (fs[j]?).map (fun o => match o with | none => Value.int (f (b + j)) | some r => Value.ref (a r))
  | [], b, j => by simp [fvs]
  | none :: fs, b, 0 => by simp [fvs]
  | some r :: fs, b, 0 => by simp [fvs]
  | none :: fs, b, j + 1 => by
    rw [fvs, List.getElem?_cons_succ, List.getElem?_cons_succ, fvs_at a f fs (b + 1) j]
    rw [show b + 1 + j = b + (j + 1) by omega]
  | some r :: fs, b, j + 1 => by
    rw [fvs, List.getElem?_cons_succ, List.getElem?_cons_succ, fvs_at a f fs (b + 1) j]
    rw [show b + 1 + j = b + (j + 1) by omega]
theorem fvs_len (a : Nat → Nat) (f : Nat → Int32) : ∀ (fs : List (Option Nat)) (b : Nat), (fvs a f b fs).length = fs.length
  | [], b => rfl
  | none :: fs, b => by rw [fvs, List.length_cons, List.length_cons, fvs_len a f fs (b + 1)]
  | some r :: fs, b => by rw [fvs, List.length_cons, List.length_cons, fvs_len a f fs (b + 1)]
/-- a field of ints is put -/
theorem fvs_set (a : Nat → Nat) (f : Nat → Int32) (fs : List (Option Nat)) (j : Nat) (x : Int32) (h : fs[j]? = some none) : (fvs a f 0 fs).set j (.int x) = fvs a (upd f j x) 0 fs := by
  apply List.ext_getElem?
  intro i
  have hl : j < (fvs a f 0 fs).length := by rw [fvs_len]; exact (List.getElem?_eq_some_iff.mp h).1
  by_cases hi : i = j
  · subst hi
    rw [List.getElem?_set_self hl, fvs_at, h]
    simp [upd]
  · rw [List.getElem?_set_ne (Ne.symm hi), fvs_at, fvs_at]
    cases hq : fs[i]? with
    | none => rfl
    | some o => cases o <;> simp [upd, hi]
/-- the world behind a change of one cell's row k -/
theorem wsF_set {cI cZ : ClassId} {a : Nat → Nat} {V : Sto} {shp : List Shp} {k : Nat} {sh : Shp} {f : Nat → Int32} (hk : shp[k]? = some sh) (h1000 : k ≠ 1000) {e : va_E} (he : e = cellE cI cZ a (va_up V k f) k sh) :
    (wsF cI cZ a V 0 shp).set k (a k, e) = wsF cI cZ a (va_up V k f) 0 shp := by
  apply List.ext_getElem?
  intro i
  have hl : k < (wsF cI cZ a V 0 shp).length := by rw [wsF_len]; exact (List.getElem?_eq_some_iff.mp hk).1
  by_cases hi : i = k
  · subst hi
    rw [List.getElem?_set_self hl, wsF_at, hk, he]
    simp
  · rw [List.getElem?_set_ne (Ne.symm hi), wsF_at, wsF_at]
    cases hq : shp[i]? with
    | none => rfl
    | some o =>
      have e1 : va_up V k f i = V i := by simp [va_up, hi]
      have e2 : va_up V k f 1000 = V 1000 := by simp [va_up, Ne.symm h1000]
      rcases o with ⟨ci, fs⟩ | ⟨b, o⟩
      · simp [cellE, e1]
      · cases o <;> simp [cellE, alenOf, e1, e2]
theorem sw_up (V : Sto) (k i : Nat) (x : Int32) : sw V k i x = va_up V k (upd (V k) i x) := by
  funext q
  by_cases h : q = k <;> simp [sw, va_up, h]
theorem wsF_put {cI cZ : ClassId} {a : Nat → Nat} {V : Sto} {shp : List Shp} {k j ci : Nat} {fs : List (Option Nat)} {x : Int32} (hk : shp[k]? = some (.inl (ci, fs))) (hj : fs[j]? = some none) (h1000 : k ≠ 1000) :
    (wsF cI cZ a V 0 shp).set k (a k, .inr (ci, (fvs a (V k) 0 fs).set j (.int x))) = wsF cI cZ a (sw V k j x) 0 shp := by
  rw [sw_up]
  refine wsF_set hk h1000 ?_
  rw [fvs_set a (V k) fs j x hj]
  simp [cellE, va_up]
theorem wsF_ast {cI cZ : ClassId} {a : Nat → Nat} {V : Sto} {shp : List Shp} {k i : Nat} {b : Bool} {o : Option Nat} {x : Int32} (hk : shp[k]? = some (.inr (b, o))) (h1000 : k ≠ 1000) :
    (wsF cI cZ a V 0 shp).set k (a k, .inl (arrC cI cZ b, alenOf V k o, .inl (upd (V k) i x))) = wsF cI cZ a (sw V k i x) 0 shp := by
  rw [sw_up]
  refine wsF_set hk h1000 ?_
  have e2 : va_up V k (upd (V k) i x) 1000 = V 1000 := by simp [va_up, Ne.symm h1000]
  have e1 : va_up V k (upd (V k) i x) k = upd (V k) i x := by simp [va_up]
  cases o <;> simp [cellE, alenOf, e1, e2]
/-- what a method may change: the cells of its graph (if it writes at all), and all that come -/
def RA (w : Bool) (a : Nat → Nat) (n sz : Nat) : Nat → Prop := fun q => (w = true ∧ ∃ k, k < n ∧ q = a k) ∨ sz ≤ q
/-- a row copied into another -/
def cpw (V : Sto) (k0 k1 : Nat) (sp dp n : Int32) : Sto := va_up V k1 (va_cpy (V k0) (V k1) sp.toNatClampNeg dp.toNatClampNeg n.toNatClampNeg)
def cpb (sp dp n : Int32) (n0 n1 : Nat) : Bool := !(decide (sp < 0)) && (!(decide (dp < 0)) && (!(decide (n < 0)) && (decide (sp.toNatClampNeg + n.toNatClampNeg ≤ n0) && decide (dp.toNatClampNeg + n.toNatClampNeg ≤ n1))))
theorem cpb_s {sp dp n : Int32} {n0 n1 : Nat} (h : cpb sp dp n n0 n1 = true) : ¬ sp < 0 ∧ ¬ dp < 0 ∧ ¬ n < 0 ∧ sp.toNatClampNeg + n.toNatClampNeg ≤ n0 ∧ dp.toNatClampNeg + n.toNatClampNeg ≤ n1 := by
  unfold cpb at h
  simpa using h
theorem bb_nar {x : Int32} (h : bb x = true) : narrow .boolean (.int x) = .int x := by
  unfold bb at h
  rw [Bool.or_eq_true, decide_eq_true_eq, decide_eq_true_eq] at h
  rcases h with rfl | rfl <;> rfl
theorem bb_fit {x : Int32} (h : bb x = true) : fits .boolean (.int x) = true := by
  unfold bb at h
  rw [Bool.or_eq_true, decide_eq_true_eq, decide_eq_true_eq] at h
  rcases h with rfl | rfl <;> rfl
theorem i32_ne {x y : Int32} (h : ¬ x = y) : x.toInt ≠ y.toInt := fun e => h (Int32.toInt_inj.mp e)
theorem i32lit_0 : (0 : Int32).toInt = 0 := by decide
theorem i32lit_1 : (1 : Int32).toInt = 1 := by decide
theorem i32lit_2 : (2 : Int32).toInt = 2 := by decide
theorem i32lit_3 : (3 : Int32).toInt = 3 := by decide
theorem i32lit_4 : (4 : Int32).toInt = 4 := by decide
theorem i32lit_5 : (5 : Int32).toInt = 5 := by decide
theorem i32lit_6 : (6 : Int32).toInt = 6 := by decide
theorem i32lit_7 : (7 : Int32).toInt = 7 := by decide
end
section
/-! The walk over a fixed graph: Y C shp nL pc L st V: the machine at pc, with the locals L, the operand stack st, the graph's cells as V says, comes to C's end. -/
abbrev YC : Type := (Program × Launch × Env × Room × State) × (MethodId × Array Value × List Frame × Method × Code) × (va_G × ClassId × ClassId) × ((Nat → Nat) × (Nat → Prop)) × (Nat × Nat) × (State → Prop)
abbrev YC.p (C : YC) : Program := C.1.1
abbrev YC.l (C : YC) : Launch := C.1.2.1
abbrev YC.e (C : YC) : Env := C.1.2.2.1
abbrev YC.R (C : YC) : Room := C.1.2.2.2.1
abbrev YC.s (C : YC) : State := C.1.2.2.2.2
abbrev YC.m (C : YC) : MethodId := C.2.1.1
abbrev YC.args (C : YC) : Array Value := C.2.1.2.1
abbrev YC.below (C : YC) : List Frame := C.2.1.2.2.1
abbrev YC.meth (C : YC) : Method := C.2.1.2.2.2.1
abbrev YC.c (C : YC) : Code := C.2.1.2.2.2.2
abbrev YC.D (C : YC) : va_G := C.2.2.1.1
abbrev YC.cI (C : YC) : ClassId := C.2.2.1.2.1
abbrev YC.cZ (C : YC) : ClassId := C.2.2.1.2.2
def YC.a (C : YC) : Nat → Nat := C.2.2.2.1.1
abbrev YC.A (C : YC) : Nat → Prop := C.2.2.2.1.2
abbrev YC.k (C : YC) : Nat := C.2.2.2.2.1.1
abbrev YC.n (C : YC) : Nat := C.2.2.2.2.1.2
abbrev YC.Q (C : YC) : State → Prop := C.2.2.2.2.2
abbrev YC.go (C : YC) (H : Heap) (locs : List Loc) (g : JFrame) : Prop := W C.p C.l C.e C.R C.s C.m C.args C.below C.meth C.c H locs C.k C.n C.Q g
abbrev YC.ws (C : YC) (shp : List Shp) (V : Sto) : va_W := wsF C.cI C.cZ C.a V 0 shp
abbrev tysOf (cI cZ : ClassId) : List (ClassId × FieldType) := [(cI, .int), (cZ, .boolean)]
def Y (C : YC) (shp : List Shp) (nL pc : Nat) (L : List (Nat × Value)) (st : List Value) (V : Sto) : Prop :=
  ∀ (H : Heap) (locs : List Loc) (ls : Array Slot), va_P C.D classes (C.ws shp V) H → va_D (fun _ => True) (C.ws shp V) → va_S C.A C.s.heap H locs → lv_has ls nL L → C.go H locs (F0 C.m pc ls st)
/-- what stands fast in a method's walk -/
def YF (C : YC) (own : String) (cc : ByteArray) (nL : Nat) (rm : Room) : Prop :=
  C.p.tables.exec = Jvm.exec ∧ C.c.code = cc ∧ C.c.maxLocals = nL ∧ C.s.vm.findClass own = some C.m.cls ∧ (∀ w ∈ ALLW, w.before C.args C.s = true) ∧ va_K C.D classes (tysOf C.cI C.cZ) C.s ∧ C.meth.locks = false ∧ C.R = rm ∧ (∀ q : Nat, C.s.heap.size ≤ q → C.A q) ∧ C.k ≤ C.R.cells ∧ C.n ≤ C.R.slots
/-- the graph's cells may be written -/
def YWr (C : YC) (shp : List Shp) : Prop := ∀ k, k < shp.length → C.A (C.a k)
theorem wsF_A {C : YC} {shp : List Shp} {V : Sto} (hw : YWr C shp) (h : va_D (fun _ => True) (C.ws shp V)) : va_D C.A (C.ws shp V) := by
  refine h.weaken (fun k q hk _ => ?_)
  rw [wsF_at] at hk
  cases hs : shp[k]? with
  | none => rw [hs] at hk; cases hk
  | some sh =>
    rw [hs] at hk
    cases hk
    rw [Nat.zero_add]
    exact hw k (List.getElem?_eq_some_iff.mp hs).1
section YR
variable {C : YC} {own : String} {cc : ByteArray} {nL pc : Nat} {rm : Room} {shp : List Shp} {L : List (Nat × Value)} {st : List Value} {V : Sto}
theorem Y_sub (ks : List Nat) {L' : List (Nat × Value)} (h : lv_pick L ks = L') (k : Y C shp nL pc L' st V) : Y C shp nL pc L st V := fun H locs ls hP hD hS hl => k H locs ls hP hD hS (lv_sub hl ks h)

theorem Y_iconst (hC : YF C own cc nL rm) {n : Int} {v : Int32} (d : decode cc pc = .ok (.iconst n, 1)) (hv : Int32.ofInt n = v)
    (k : Y C shp nL (pc + 1) L (.int v :: st) V) : Y C shp nL pc L (st) V := by
  obtain ⟨hx, hb, hml, hown, hts, hK, hlk, hR, hA, hk1, hk2⟩ := hC
  intro H locs ls hP hD hS hl
  exact lv_iconst hx hb d hv (k H locs ls hP hD hS hl)

theorem Y_bipush (hC : YF C own cc nL rm) {n : Int} {v : Int32} (d : decode cc pc = .ok (.bipush n, 2)) (hv : (Int8.ofInt n).toInt32 = v)
    (k : Y C shp nL (pc + 2) L (.int v :: st) V) : Y C shp nL pc L (st) V := by
  obtain ⟨hx, hb, hml, hown, hts, hK, hlk, hR, hA, hk1, hk2⟩ := hC
  intro H locs ls hP hD hS hl
  exact lv_bipush hx hb d hv (k H locs ls hP hD hS hl)

theorem Y_sipush (hC : YF C own cc nL rm) {n : Int} {v : Int32} (d : decode cc pc = .ok (.sipush n, 3)) (hv : (Int16.ofInt n).toInt32 = v)
    (k : Y C shp nL (pc + 3) L (.int v :: st) V) : Y C shp nL pc L (st) V := by
  obtain ⟨hx, hb, hml, hown, hts, hK, hlk, hR, hA, hk1, hk2⟩ := hC
  intro H locs ls hP hD hS hl
  exact lv_sipush hx hb d hv (k H locs ls hP hD hS hl)

theorem Y_ldc (hC : YF C own cc nL rm) {idx : Nat} {v : Int32} (hc : Cond.constant own idx v ∈ ALLW) (d : decode cc pc = .ok (.ldc idx, 2))
    (k : Y C shp nL (pc + 2) L (.int v :: st) V) : Y C shp nL pc L (st) V := by
  obtain ⟨hx, hb, hml, hown, hts, hK, hlk, hR, hA, hk1, hk2⟩ := hC
  intro H locs ls hP hD hS hl
  exact lv_ldc hx hb hown (hts _ hc) d (k H locs ls hP hD hS hl)

theorem Y_ldcw (hC : YF C own cc nL rm) {idx : Nat} {v : Int32} (hc : Cond.constant own idx v ∈ ALLW) (d : decode cc pc = .ok (.ldc_w idx, 3))
    (k : Y C shp nL (pc + 3) L (.int v :: st) V) : Y C shp nL pc L (st) V := by
  obtain ⟨hx, hb, hml, hown, hts, hK, hlk, hR, hA, hk1, hk2⟩ := hC
  intro H locs ls hP hD hS hl
  exact lv_ldcw hx hb hown (hts _ hc) d (k H locs ls hP hD hS hl)

theorem Y_ldc2 (hC : YF C own cc nL rm) {idx : Nat} {v : Int64} (hc : Cond.constantLong own idx v ∈ ALLW) (d : decode cc pc = .ok (.ldc2_w idx, 3))
    (k : Y C shp nL (pc + 3) L (.long v :: st) V) : Y C shp nL pc L (st) V := by
  obtain ⟨hx, hb, hml, hown, hts, hK, hlk, hR, hA, hk1, hk2⟩ := hC
  intro H locs ls hP hD hS hl
  exact lv_ldc2 hx hb hown (hts _ hc) d (k H locs ls hP hD hS hl)

theorem Y_lconst (hC : YF C own cc nL rm) {n : Fin 2} {v : Int64} (d : decode cc pc = .ok (.lconst n, 1)) (hv : Int64.ofNat (n : Nat) = v)
    (k : Y C shp nL (pc + 1) L (.long v :: st) V) : Y C shp nL pc L (st) V := by
  obtain ⟨hx, hb, hml, hown, hts, hK, hlk, hR, hA, hk1, hk2⟩ := hC
  intro H locs ls hP hD hS hl
  exact lv_lconst hx hb d hv (k H locs ls hP hD hS hl)

theorem Y_iload_n (hC : YF C own cc nL rm) {n : Fin 4} {i : Nat} {x : Int32} (d : decode cc pc = .ok (.iload_n n, 1)) (hi : (n : Nat) = i) (j : Nat) (hj : L[j]? = some (i, .int x))
    (k : Y C shp nL (pc + 1) L (.int x :: st) V) : Y C shp nL pc L (st) V := by
  obtain ⟨hx, hb, hml, hown, hts, hK, hlk, hR, hA, hk1, hk2⟩ := hC
  intro H locs ls hP hD hS hl
  exact lv_iload_n hx hb d hi (lv_at hl j hj) (k H locs ls hP hD hS hl)

theorem Y_iload (hC : YF C own cc nL rm) {i : Nat} {x : Int32} (d : decode cc pc = .ok (.iload i, 2)) (j : Nat) (hj : L[j]? = some (i, .int x))
    (k : Y C shp nL (pc + 2) L (.int x :: st) V) : Y C shp nL pc L (st) V := by
  obtain ⟨hx, hb, hml, hown, hts, hK, hlk, hR, hA, hk1, hk2⟩ := hC
  intro H locs ls hP hD hS hl
  exact lv_iload hx hb d (lv_at hl j hj) (k H locs ls hP hD hS hl)

theorem Y_istore_n (hC : YF C own cc nL rm) {n : Fin 4} {i : Nat} {x : Int32} {L' : List (Nat × Value)} (d : decode cc pc = .ok (.istore_n n, 1)) (hi : (n : Nat) = i) (hn : i < nL) (hL : (i, Value.int x) :: L.filter (fun q => !(q.1 == i) && !(q.1 + 1 == i && q.2.category == 2)) = L')
    (k : Y C shp nL (pc + 1) L' (st) V) : Y C shp nL pc L (.int x :: st) V := by
  obtain ⟨hx, hb, hml, hown, hts, hK, hlk, hR, hA, hk1, hk2⟩ := hC
  intro H locs ls hP hD hS hl
  exact lv_istore_n hx hb d hi hl hn hL (fun ls hl => k H locs ls hP hD hS hl)

theorem Y_istore (hC : YF C own cc nL rm) {i : Nat} {x : Int32} {L' : List (Nat × Value)} (d : decode cc pc = .ok (.istore i, 2)) (hn : i < nL) (hL : (i, Value.int x) :: L.filter (fun q => !(q.1 == i) && !(q.1 + 1 == i && q.2.category == 2)) = L')
    (k : Y C shp nL (pc + 2) L' (st) V) : Y C shp nL pc L (.int x :: st) V := by
  obtain ⟨hx, hb, hml, hown, hts, hK, hlk, hR, hA, hk1, hk2⟩ := hC
  intro H locs ls hP hD hS hl
  exact lv_istore hx hb d hl hn hL (fun ls hl => k H locs ls hP hD hS hl)

theorem Y_lload_n (hC : YF C own cc nL rm) {n : Fin 4} {i : Nat} {x : Int64} (d : decode cc pc = .ok (.lload_n n, 1)) (hi : (n : Nat) = i) (j : Nat) (hj : L[j]? = some (i, .long x))
    (k : Y C shp nL (pc + 1) L (.long x :: st) V) : Y C shp nL pc L (st) V := by
  obtain ⟨hx, hb, hml, hown, hts, hK, hlk, hR, hA, hk1, hk2⟩ := hC
  intro H locs ls hP hD hS hl
  exact lv_lload_n hx hb d hi (lv_at hl j hj) (k H locs ls hP hD hS hl)

theorem Y_lload (hC : YF C own cc nL rm) {i : Nat} {x : Int64} (d : decode cc pc = .ok (.lload i, 2)) (j : Nat) (hj : L[j]? = some (i, .long x))
    (k : Y C shp nL (pc + 2) L (.long x :: st) V) : Y C shp nL pc L (st) V := by
  obtain ⟨hx, hb, hml, hown, hts, hK, hlk, hR, hA, hk1, hk2⟩ := hC
  intro H locs ls hP hD hS hl
  exact lv_lload hx hb d (lv_at hl j hj) (k H locs ls hP hD hS hl)

theorem Y_lstore_n (hC : YF C own cc nL rm) {n : Fin 4} {i : Nat} {x : Int64} {L' : List (Nat × Value)} (d : decode cc pc = .ok (.lstore_n n, 1)) (hi : (n : Nat) = i) (hn : i + 1 < nL) (hL : (i, Value.long x) :: L.filter (fun q => !(q.1 == i) && (!(q.1 == i + 1) && !(q.1 + 1 == i && q.2.category == 2))) = L')
    (k : Y C shp nL (pc + 1) L' (st) V) : Y C shp nL pc L (.long x :: st) V := by
  obtain ⟨hx, hb, hml, hown, hts, hK, hlk, hR, hA, hk1, hk2⟩ := hC
  intro H locs ls hP hD hS hl
  exact lv_lstore_n hx hb d hi hl hn hL (fun ls hl => k H locs ls hP hD hS hl)

theorem Y_lstore (hC : YF C own cc nL rm) {i : Nat} {x : Int64} {L' : List (Nat × Value)} (d : decode cc pc = .ok (.lstore i, 2)) (hn : i + 1 < nL) (hL : (i, Value.long x) :: L.filter (fun q => !(q.1 == i) && (!(q.1 == i + 1) && !(q.1 + 1 == i && q.2.category == 2))) = L')
    (k : Y C shp nL (pc + 2) L' (st) V) : Y C shp nL pc L (.long x :: st) V := by
  obtain ⟨hx, hb, hml, hown, hts, hK, hlk, hR, hA, hk1, hk2⟩ := hC
  intro H locs ls hP hD hS hl
  exact lv_lstore hx hb d hl hn hL (fun ls hl => k H locs ls hP hD hS hl)

theorem Y_aload_n (hC : YF C own cc nL rm) {n : Fin 4} {i : Nat} {x : Nat} (d : decode cc pc = .ok (.aload_n n, 1)) (hi : (n : Nat) = i) (j : Nat) (hj : L[j]? = some (i, .ref x))
    (k : Y C shp nL (pc + 1) L (.ref x :: st) V) : Y C shp nL pc L (st) V := by
  obtain ⟨hx, hb, hml, hown, hts, hK, hlk, hR, hA, hk1, hk2⟩ := hC
  intro H locs ls hP hD hS hl
  exact lv_aload_n hx hb d hi (lv_at hl j hj) (k H locs ls hP hD hS hl)

theorem Y_aload (hC : YF C own cc nL rm) {i : Nat} {x : Nat} (d : decode cc pc = .ok (.aload i, 2)) (j : Nat) (hj : L[j]? = some (i, .ref x))
    (k : Y C shp nL (pc + 2) L (.ref x :: st) V) : Y C shp nL pc L (st) V := by
  obtain ⟨hx, hb, hml, hown, hts, hK, hlk, hR, hA, hk1, hk2⟩ := hC
  intro H locs ls hP hD hS hl
  exact lv_aload hx hb d (lv_at hl j hj) (k H locs ls hP hD hS hl)

theorem Y_astore_n (hC : YF C own cc nL rm) {n : Fin 4} {i : Nat} {x : Nat} {L' : List (Nat × Value)} (d : decode cc pc = .ok (.astore_n n, 1)) (hi : (n : Nat) = i) (hn : i < nL) (hL : (i, Value.ref x) :: L.filter (fun q => !(q.1 == i) && !(q.1 + 1 == i && q.2.category == 2)) = L')
    (k : Y C shp nL (pc + 1) L' (st) V) : Y C shp nL pc L (.ref x :: st) V := by
  obtain ⟨hx, hb, hml, hown, hts, hK, hlk, hR, hA, hk1, hk2⟩ := hC
  intro H locs ls hP hD hS hl
  exact lv_astore_n hx hb d hi hl hn hL (fun ls hl => k H locs ls hP hD hS hl)

theorem Y_astore (hC : YF C own cc nL rm) {i : Nat} {x : Nat} {L' : List (Nat × Value)} (d : decode cc pc = .ok (.astore i, 2)) (hn : i < nL) (hL : (i, Value.ref x) :: L.filter (fun q => !(q.1 == i) && !(q.1 + 1 == i && q.2.category == 2)) = L')
    (k : Y C shp nL (pc + 2) L' (st) V) : Y C shp nL pc L (.ref x :: st) V := by
  obtain ⟨hx, hb, hml, hown, hts, hK, hlk, hR, hA, hk1, hk2⟩ := hC
  intro H locs ls hP hD hS hl
  exact lv_astore hx hb d hl hn hL (fun ls hl => k H locs ls hP hD hS hl)

theorem Y_iinc (hC : YF C own cc nL rm) {i : Nat} {n : Int} {x v : Int32} {L' : List (Nat × Value)} (d : decode cc pc = .ok (.iinc i n, 3)) (j : Nat) (hj : L[j]? = some (i, .int x)) (hv : x + Int32.ofInt n = v) (hn : i < nL) (hL : (i, Value.int v) :: L.filter (fun q => !(q.1 == i) && !(q.1 + 1 == i && q.2.category == 2)) = L')
    (k : Y C shp nL (pc + 3) L' (st) V) : Y C shp nL pc L (st) V := by
  obtain ⟨hx, hb, hml, hown, hts, hK, hlk, hR, hA, hk1, hk2⟩ := hC
  intro H locs ls hP hD hS hl
  exact lv_iinc hx hb d hl hj hv hn hL (fun ls hl => k H locs ls hP hD hS hl)

theorem Y_iadd (hC : YF C own cc nL rm) {x y : Int32} (d : decode cc pc = .ok (.iadd, 1))
    (k : Y C shp nL (pc + 1) L (.int (x + y) :: st) V) : Y C shp nL pc L (.int y :: .int x :: st) V := by
  obtain ⟨hx, hb, hml, hown, hts, hK, hlk, hR, hA, hk1, hk2⟩ := hC
  intro H locs ls hP hD hS hl
  exact lv_iadd hx hb d (k H locs ls hP hD hS hl)

theorem Y_isub (hC : YF C own cc nL rm) {x y : Int32} (d : decode cc pc = .ok (.isub, 1))
    (k : Y C shp nL (pc + 1) L (.int (x - y) :: st) V) : Y C shp nL pc L (.int y :: .int x :: st) V := by
  obtain ⟨hx, hb, hml, hown, hts, hK, hlk, hR, hA, hk1, hk2⟩ := hC
  intro H locs ls hP hD hS hl
  exact lv_isub hx hb d (k H locs ls hP hD hS hl)

theorem Y_imul (hC : YF C own cc nL rm) {x y : Int32} (d : decode cc pc = .ok (.imul, 1))
    (k : Y C shp nL (pc + 1) L (.int (x * y) :: st) V) : Y C shp nL pc L (.int y :: .int x :: st) V := by
  obtain ⟨hx, hb, hml, hown, hts, hK, hlk, hR, hA, hk1, hk2⟩ := hC
  intro H locs ls hP hD hS hl
  exact lv_imul hx hb d (k H locs ls hP hD hS hl)

theorem Y_iand (hC : YF C own cc nL rm) {x y : Int32} (d : decode cc pc = .ok (.iand, 1))
    (k : Y C shp nL (pc + 1) L (.int (x &&& y) :: st) V) : Y C shp nL pc L (.int y :: .int x :: st) V := by
  obtain ⟨hx, hb, hml, hown, hts, hK, hlk, hR, hA, hk1, hk2⟩ := hC
  intro H locs ls hP hD hS hl
  exact lv_iand hx hb d (k H locs ls hP hD hS hl)

theorem Y_ior (hC : YF C own cc nL rm) {x y : Int32} (d : decode cc pc = .ok (.ior, 1))
    (k : Y C shp nL (pc + 1) L (.int (x ||| y) :: st) V) : Y C shp nL pc L (.int y :: .int x :: st) V := by
  obtain ⟨hx, hb, hml, hown, hts, hK, hlk, hR, hA, hk1, hk2⟩ := hC
  intro H locs ls hP hD hS hl
  exact lv_ior hx hb d (k H locs ls hP hD hS hl)

theorem Y_ixor (hC : YF C own cc nL rm) {x y : Int32} (d : decode cc pc = .ok (.ixor, 1))
    (k : Y C shp nL (pc + 1) L (.int (x ^^^ y) :: st) V) : Y C shp nL pc L (.int y :: .int x :: st) V := by
  obtain ⟨hx, hb, hml, hown, hts, hK, hlk, hR, hA, hk1, hk2⟩ := hC
  intro H locs ls hP hD hS hl
  exact lv_ixor hx hb d (k H locs ls hP hD hS hl)

theorem Y_ladd (hC : YF C own cc nL rm) {x y : Int64} (d : decode cc pc = .ok (.ladd, 1))
    (k : Y C shp nL (pc + 1) L (.long (x + y) :: st) V) : Y C shp nL pc L (.long y :: .long x :: st) V := by
  obtain ⟨hx, hb, hml, hown, hts, hK, hlk, hR, hA, hk1, hk2⟩ := hC
  intro H locs ls hP hD hS hl
  exact lv_ladd hx hb d (k H locs ls hP hD hS hl)

theorem Y_lsub (hC : YF C own cc nL rm) {x y : Int64} (d : decode cc pc = .ok (.lsub, 1))
    (k : Y C shp nL (pc + 1) L (.long (x - y) :: st) V) : Y C shp nL pc L (.long y :: .long x :: st) V := by
  obtain ⟨hx, hb, hml, hown, hts, hK, hlk, hR, hA, hk1, hk2⟩ := hC
  intro H locs ls hP hD hS hl
  exact lv_lsub hx hb d (k H locs ls hP hD hS hl)

theorem Y_lmul (hC : YF C own cc nL rm) {x y : Int64} (d : decode cc pc = .ok (.lmul, 1))
    (k : Y C shp nL (pc + 1) L (.long (x * y) :: st) V) : Y C shp nL pc L (.long y :: .long x :: st) V := by
  obtain ⟨hx, hb, hml, hown, hts, hK, hlk, hR, hA, hk1, hk2⟩ := hC
  intro H locs ls hP hD hS hl
  exact lv_lmul hx hb d (k H locs ls hP hD hS hl)

theorem Y_idiv (hC : YF C own cc nL rm) {x y : Int32} (d : decode cc pc = .ok (.idiv, 1)) (hne : ¬ y = 0)
    (k : Y C shp nL (pc + 1) L (.int (x / y) :: st) V) : Y C shp nL pc L (.int y :: .int x :: st) V := by
  obtain ⟨hx, hb, hml, hown, hts, hK, hlk, hR, hA, hk1, hk2⟩ := hC
  intro H locs ls hP hD hS hl
  exact lv_idiv hx hb d hne (k H locs ls hP hD hS hl)

theorem Y_irem (hC : YF C own cc nL rm) {x y : Int32} (d : decode cc pc = .ok (.irem, 1)) (hne : ¬ y = 0)
    (k : Y C shp nL (pc + 1) L (.int (x - x / y * y) :: st) V) : Y C shp nL pc L (.int y :: .int x :: st) V := by
  obtain ⟨hx, hb, hml, hown, hts, hK, hlk, hR, hA, hk1, hk2⟩ := hC
  intro H locs ls hP hD hS hl
  exact lv_irem hx hb d hne (k H locs ls hP hD hS hl)

theorem Y_lrem (hC : YF C own cc nL rm) {x y : Int64} (d : decode cc pc = .ok (.lrem, 1)) (hne : ¬ y = 0)
    (k : Y C shp nL (pc + 1) L (.long (x - x / y * y) :: st) V) : Y C shp nL pc L (.long y :: .long x :: st) V := by
  obtain ⟨hx, hb, hml, hown, hts, hK, hlk, hR, hA, hk1, hk2⟩ := hC
  intro H locs ls hP hD hS hl
  exact lv_lrem hx hb d hne (k H locs ls hP hD hS hl)

theorem Y_ineg (hC : YF C own cc nL rm) {x : Int32} (d : decode cc pc = .ok (.ineg, 1))
    (k : Y C shp nL (pc + 1) L (.int (-x) :: st) V) : Y C shp nL pc L (.int x :: st) V := by
  obtain ⟨hx, hb, hml, hown, hts, hK, hlk, hR, hA, hk1, hk2⟩ := hC
  intro H locs ls hP hD hS hl
  exact lv_ineg hx hb d (k H locs ls hP hD hS hl)

theorem Y_iushr (hC : YF C own cc nL rm) {x y v : Int32} (d : decode cc pc = .ok (.iushr, 1)) (hv : (x.toUInt32 >>> (y.toUInt32 &&& Int32.toUInt32 31)).toInt32 = v)
    (k : Y C shp nL (pc + 1) L (.int v :: st) V) : Y C shp nL pc L (.int y :: .int x :: st) V := by
  obtain ⟨hx, hb, hml, hown, hts, hK, hlk, hR, hA, hk1, hk2⟩ := hC
  intro H locs ls hP hD hS hl
  exact lv_iushr hx hb d hv (k H locs ls hP hD hS hl)

theorem Y_i2l (hC : YF C own cc nL rm) {x : Int32} (d : decode cc pc = .ok (.i2l, 1))
    (k : Y C shp nL (pc + 1) L (.long x.toInt64 :: st) V) : Y C shp nL pc L (.int x :: st) V := by
  obtain ⟨hx, hb, hml, hown, hts, hK, hlk, hR, hA, hk1, hk2⟩ := hC
  intro H locs ls hP hD hS hl
  exact lv_i2l hx hb d rfl (k H locs ls hP hD hS hl)

theorem Y_lcmp (hC : YF C own cc nL rm) {x y : Int64} (d : decode cc pc = .ok (.lcmp, 1))
    (k : Y C shp nL (pc + 1) L (.int (lg_cmp x y) :: st) V) : Y C shp nL pc L (.long y :: .long x :: st) V := by
  obtain ⟨hx, hb, hml, hown, hts, hK, hlk, hR, hA, hk1, hk2⟩ := hC
  intro H locs ls hP hD hS hl
  exact W.lcmp hx hb d (k H locs ls hP hD hS hl)

theorem Y_dup (hC : YF C own cc nL rm) {v : Value} (d : decode cc pc = .ok (.dup, 1)) (h : v.category = 1)
    (k : Y C shp nL (pc + 1) L (v :: v :: st) V) : Y C shp nL pc L (v :: st) V := by
  obtain ⟨hx, hb, hml, hown, hts, hK, hlk, hR, hA, hk1, hk2⟩ := hC
  intro H locs ls hP hD hS hl
  exact lv_dup hx hb d h (k H locs ls hP hD hS hl)

theorem Y_pop (hC : YF C own cc nL rm) {v : Value} (d : decode cc pc = .ok (.pop, 1)) (h : v.category = 1)
    (k : Y C shp nL (pc + 1) L (st) V) : Y C shp nL pc L (v :: st) V := by
  obtain ⟨hx, hb, hml, hown, hts, hK, hlk, hR, hA, hk1, hk2⟩ := hC
  intro H locs ls hP hD hS hl
  exact lv_pop hx hb d h (k H locs ls hP hD hS hl)

theorem Y_dup_x1 (hC : YF C own cc nL rm) {v w : Value} (d : decode cc pc = .ok (.dup_x1, 1)) (h : v.category = 1) (h' : w.category = 1)
    (k : Y C shp nL (pc + 1) L (v :: w :: v :: st) V) : Y C shp nL pc L (v :: w :: st) V := by
  obtain ⟨hx, hb, hml, hown, hts, hK, hlk, hR, hA, hk1, hk2⟩ := hC
  intro H locs ls hP hD hS hl
  exact lv_dup_x1 hx hb d h h' (k H locs ls hP hD hS hl)

theorem Y_dup2 (hC : YF C own cc nL rm) {v w : Value} (d : decode cc pc = .ok (.dup2, 1)) (h : v.category = 1) (h' : w.category = 1)
    (k : Y C shp nL (pc + 1) L (v :: w :: v :: w :: st) V) : Y C shp nL pc L (v :: w :: st) V := by
  obtain ⟨hx, hb, hml, hown, hts, hK, hlk, hR, hA, hk1, hk2⟩ := hC
  intro H locs ls hP hD hS hl
  exact lv_dup2_11 hx hb d h h' (k H locs ls hP hD hS hl)

theorem Y_if_eq (hC : YF C own cc nL rm) {x : Int32} {off : Int} (tgt : Nat) (d : decode cc pc = .ok (.ifCond .eq off, 3)) (ht : (pc : Int) + off = (tgt : Int))
    (kt : x = 0 → Y C shp nL tgt L st V) (kf : ¬ x = 0 → Y C shp nL (pc + 3) L st V) : Y C shp nL pc L (.int x :: st) V := by
  obtain ⟨hx, hb, hml, hown, hts, hK, hlk, hR, hA, hk1, hk2⟩ := hC
  intro H locs ls hP hD hS hl
  exact lv_if_eq hx hb d ht (fun q => kt q H locs ls hP hD hS hl) (fun q => kf q H locs ls hP hD hS hl)

theorem Y_icmp_eq (hC : YF C own cc nL rm) {x y : Int32} {off : Int} (tgt : Nat) (d : decode cc pc = .ok (.if_icmp .eq off, 3)) (ht : (pc : Int) + off = (tgt : Int))
    (kt : x = y → Y C shp nL tgt L st V) (kf : ¬ x = y → Y C shp nL (pc + 3) L st V) : Y C shp nL pc L (.int y :: .int x :: st) V := by
  obtain ⟨hx, hb, hml, hown, hts, hK, hlk, hR, hA, hk1, hk2⟩ := hC
  intro H locs ls hP hD hS hl
  exact lv_icmp_eq hx hb d ht (fun q => kt q H locs ls hP hD hS hl) (fun q => kf q H locs ls hP hD hS hl)

theorem Y_if_ne (hC : YF C own cc nL rm) {x : Int32} {off : Int} (tgt : Nat) (d : decode cc pc = .ok (.ifCond .ne off, 3)) (ht : (pc : Int) + off = (tgt : Int))
    (kt : ¬ x = 0 → Y C shp nL tgt L st V) (kf : x = 0 → Y C shp nL (pc + 3) L st V) : Y C shp nL pc L (.int x :: st) V := by
  obtain ⟨hx, hb, hml, hown, hts, hK, hlk, hR, hA, hk1, hk2⟩ := hC
  intro H locs ls hP hD hS hl
  exact lv_if_ne hx hb d ht (fun q => kt q H locs ls hP hD hS hl) (fun q => kf q H locs ls hP hD hS hl)

theorem Y_icmp_ne (hC : YF C own cc nL rm) {x y : Int32} {off : Int} (tgt : Nat) (d : decode cc pc = .ok (.if_icmp .ne off, 3)) (ht : (pc : Int) + off = (tgt : Int))
    (kt : ¬ x = y → Y C shp nL tgt L st V) (kf : x = y → Y C shp nL (pc + 3) L st V) : Y C shp nL pc L (.int y :: .int x :: st) V := by
  obtain ⟨hx, hb, hml, hown, hts, hK, hlk, hR, hA, hk1, hk2⟩ := hC
  intro H locs ls hP hD hS hl
  exact lv_icmp_ne hx hb d ht (fun q => kt q H locs ls hP hD hS hl) (fun q => kf q H locs ls hP hD hS hl)

theorem Y_if_lt (hC : YF C own cc nL rm) {x : Int32} {off : Int} (tgt : Nat) (d : decode cc pc = .ok (.ifCond .lt off, 3)) (ht : (pc : Int) + off = (tgt : Int))
    (kt : x < 0 → Y C shp nL tgt L st V) (kf : ¬ x < 0 → Y C shp nL (pc + 3) L st V) : Y C shp nL pc L (.int x :: st) V := by
  obtain ⟨hx, hb, hml, hown, hts, hK, hlk, hR, hA, hk1, hk2⟩ := hC
  intro H locs ls hP hD hS hl
  exact lv_if_lt hx hb d ht (fun q => kt q H locs ls hP hD hS hl) (fun q => kf q H locs ls hP hD hS hl)

theorem Y_icmp_lt (hC : YF C own cc nL rm) {x y : Int32} {off : Int} (tgt : Nat) (d : decode cc pc = .ok (.if_icmp .lt off, 3)) (ht : (pc : Int) + off = (tgt : Int))
    (kt : x < y → Y C shp nL tgt L st V) (kf : ¬ x < y → Y C shp nL (pc + 3) L st V) : Y C shp nL pc L (.int y :: .int x :: st) V := by
  obtain ⟨hx, hb, hml, hown, hts, hK, hlk, hR, hA, hk1, hk2⟩ := hC
  intro H locs ls hP hD hS hl
  exact lv_icmp_lt hx hb d ht (fun q => kt q H locs ls hP hD hS hl) (fun q => kf q H locs ls hP hD hS hl)

theorem Y_if_ge (hC : YF C own cc nL rm) {x : Int32} {off : Int} (tgt : Nat) (d : decode cc pc = .ok (.ifCond .ge off, 3)) (ht : (pc : Int) + off = (tgt : Int))
    (kt : 0 ≤ x → Y C shp nL tgt L st V) (kf : ¬ 0 ≤ x → Y C shp nL (pc + 3) L st V) : Y C shp nL pc L (.int x :: st) V := by
  obtain ⟨hx, hb, hml, hown, hts, hK, hlk, hR, hA, hk1, hk2⟩ := hC
  intro H locs ls hP hD hS hl
  exact lv_if_ge hx hb d ht (fun q => kt q H locs ls hP hD hS hl) (fun q => kf q H locs ls hP hD hS hl)

theorem Y_icmp_ge (hC : YF C own cc nL rm) {x y : Int32} {off : Int} (tgt : Nat) (d : decode cc pc = .ok (.if_icmp .ge off, 3)) (ht : (pc : Int) + off = (tgt : Int))
    (kt : y ≤ x → Y C shp nL tgt L st V) (kf : ¬ y ≤ x → Y C shp nL (pc + 3) L st V) : Y C shp nL pc L (.int y :: .int x :: st) V := by
  obtain ⟨hx, hb, hml, hown, hts, hK, hlk, hR, hA, hk1, hk2⟩ := hC
  intro H locs ls hP hD hS hl
  exact lv_icmp_ge hx hb d ht (fun q => kt q H locs ls hP hD hS hl) (fun q => kf q H locs ls hP hD hS hl)

theorem Y_if_gt (hC : YF C own cc nL rm) {x : Int32} {off : Int} (tgt : Nat) (d : decode cc pc = .ok (.ifCond .gt off, 3)) (ht : (pc : Int) + off = (tgt : Int))
    (kt : 0 < x → Y C shp nL tgt L st V) (kf : ¬ 0 < x → Y C shp nL (pc + 3) L st V) : Y C shp nL pc L (.int x :: st) V := by
  obtain ⟨hx, hb, hml, hown, hts, hK, hlk, hR, hA, hk1, hk2⟩ := hC
  intro H locs ls hP hD hS hl
  exact lv_if_gt hx hb d ht (fun q => kt q H locs ls hP hD hS hl) (fun q => kf q H locs ls hP hD hS hl)

theorem Y_icmp_gt (hC : YF C own cc nL rm) {x y : Int32} {off : Int} (tgt : Nat) (d : decode cc pc = .ok (.if_icmp .gt off, 3)) (ht : (pc : Int) + off = (tgt : Int))
    (kt : y < x → Y C shp nL tgt L st V) (kf : ¬ y < x → Y C shp nL (pc + 3) L st V) : Y C shp nL pc L (.int y :: .int x :: st) V := by
  obtain ⟨hx, hb, hml, hown, hts, hK, hlk, hR, hA, hk1, hk2⟩ := hC
  intro H locs ls hP hD hS hl
  exact lv_icmp_gt hx hb d ht (fun q => kt q H locs ls hP hD hS hl) (fun q => kf q H locs ls hP hD hS hl)

theorem Y_if_le (hC : YF C own cc nL rm) {x : Int32} {off : Int} (tgt : Nat) (d : decode cc pc = .ok (.ifCond .le off, 3)) (ht : (pc : Int) + off = (tgt : Int))
    (kt : x ≤ 0 → Y C shp nL tgt L st V) (kf : ¬ x ≤ 0 → Y C shp nL (pc + 3) L st V) : Y C shp nL pc L (.int x :: st) V := by
  obtain ⟨hx, hb, hml, hown, hts, hK, hlk, hR, hA, hk1, hk2⟩ := hC
  intro H locs ls hP hD hS hl
  exact lv_if_le hx hb d ht (fun q => kt q H locs ls hP hD hS hl) (fun q => kf q H locs ls hP hD hS hl)

theorem Y_icmp_le (hC : YF C own cc nL rm) {x y : Int32} {off : Int} (tgt : Nat) (d : decode cc pc = .ok (.if_icmp .le off, 3)) (ht : (pc : Int) + off = (tgt : Int))
    (kt : x ≤ y → Y C shp nL tgt L st V) (kf : ¬ x ≤ y → Y C shp nL (pc + 3) L st V) : Y C shp nL pc L (.int y :: .int x :: st) V := by
  obtain ⟨hx, hb, hml, hown, hts, hK, hlk, hR, hA, hk1, hk2⟩ := hC
  intro H locs ls hP hD hS hl
  exact lv_icmp_le hx hb d ht (fun q => kt q H locs ls hP hD hS hl) (fun q => kf q H locs ls hP hD hS hl)

theorem Y_goto (hC : YF C own cc nL rm) {off : Int} (tgt : Nat) (d : decode cc pc = .ok (.goto off, 3)) (ht : (pc : Int) + off = (tgt : Int))
    (k : Y C shp nL tgt L st V) : Y C shp nL pc L (st) V := by
  obtain ⟨hx, hb, hml, hown, hts, hK, hlk, hR, hA, hk1, hk2⟩ := hC
  intro H locs ls hP hD hS hl
  exact lv_goto hx hb d ht (k H locs ls hP hD hS hl)

theorem Y_tableOut (hC : YF C own cc nL rm) {dflt lo hi : Int} {offs : Array Int} {len : Nat} {x : Int32} (tgt : Nat) (d : decode cc pc = .ok (.tableswitch dflt lo hi offs, len)) (h : x.toInt < lo ∨ hi < x.toInt) (ht : (pc : Int) + dflt = (tgt : Int))
    (k : Y C shp nL tgt L st V) : Y C shp nL pc L (.int x :: st) V := by
  obtain ⟨hx, hb, hml, hown, hts, hK, hlk, hR, hA, hk1, hk2⟩ := hC
  intro H locs ls hP hD hS hl
  exact lv_tableOut hx hb d h ht (k H locs ls hP hD hS hl)

theorem Y_tableIn (hC : YF C own cc nL rm) {dflt lo hi : Int} {offs : Array Int} {len : Nat} {x : Int32} {off : Int} (tgt : Nat) (d : decode cc pc = .ok (.tableswitch dflt lo hi offs, len)) (h1 : ¬ x.toInt < lo) (h2 : ¬ hi < x.toInt) (ho : offs[(x.toInt - lo).toNat]? = some off) (ht : (pc : Int) + off = (tgt : Int))
    (k : Y C shp nL tgt L st V) : Y C shp nL pc L (.int x :: st) V := by
  obtain ⟨hx, hb, hml, hown, hts, hK, hlk, hR, hA, hk1, hk2⟩ := hC
  intro H locs ls hP hD hS hl
  exact lv_tableIn hx hb d h1 h2 ho ht (k H locs ls hP hD hS hl)

theorem Y_lookup (hC : YF C own cc nL rm) {dflt : Int} {ps : Array (Int × Int)} {len : Nat} {x : Int32} {off : Int} (tgt : Nat) (d : decode cc pc = .ok (.lookupswitch dflt ps, len)) (hp : (ps.toList.zip (ps.toList.drop 1)).all (fun (a, next) => a.1 < next.1) = true) (ho : Op.lookupswitch.offset ps.toList dflt x.toInt = off) (ht : (pc : Int) + off = (tgt : Int))
    (k : Y C shp nL tgt L st V) : Y C shp nL pc L (.int x :: st) V := by
  obtain ⟨hx, hb, hml, hown, hts, hK, hlk, hR, hA, hk1, hk2⟩ := hC
  intro H locs ls hP hD hS hl
  exact lv_lookup hx hb d hp ho ht (k H locs ls hP hD hS hl)

/-- a field's link: own's entry idx is the slot j of class ci -/
def FL (own : String) (idx ci j : Nat) : Prop := ∃ (R : String) (T : u_T) (N : Nat), classes[ci]? = some (R, T, N) ∧ j < N ∧ (∀ w ∈ u_ws R T N, w ∈ ALLW) ∧ Cond.fieldLink own idx (T j).1 (T j).2.1 (T j).2.2.1 ∈ ALLW
/-- a class whose fields may be put -/
def FPc (ci : Nat) : Prop := ∃ (R : String) (T : u_T) (N : Nat) (ty : Nat → FieldType), classes[ci]? = some (R, T, N) ∧ (∀ k, k < N → parseFieldDescriptor (T k).2.2.1 = some (ty k)) ∧ (∀ a, a < N → ∀ b, b < N → a ≠ b → (T a).2.1 ≠ (T b).2.1)
def FT (ci j : Nat) (t : FieldType) : Prop := ∃ (R : String) (T : u_T) (N : Nat), classes[ci]? = some (R, T, N) ∧ (T j).2.2.2 = false ∧ parseFieldDescriptor (T j).2.2.1 = some t

theorem Y_getI (hC : YF C own cc nL rm) {idx ci j k : Nat} {fs : List (Option Nat)} (hs : shp[k]? = some (.inl (ci, fs))) (hf : FL own idx ci j) (hj : fs[j]? = some none) (d : decode cc pc = .ok (.getfield idx, 3))
    (kk : Y C shp nL (pc + 3) L (.int (V k j) :: st) V) : Y C shp nL pc L (.ref (C.a k) :: st) V := by
  obtain ⟨hx, hb, hml, hown, hts, hK, hlk, hR, hA, hk1, hk2⟩ := hC
  intro H locs ls hP hD hS hl
  obtain ⟨R, T, N, hc, hN, hin, hlink⟩ := hf
  refine va_get (q0 := k) hx hb hts hin hown hK hP (fs := fvs C.a (V k) 0 fs) ?_ hc j hN (hts _ hlink) (fun _ h => h) (v := .int (V k j)) ?_ d (kk H locs ls hP hD hS hl)
  · show (wsF _ _ _ _ _ _)[k]? = _
    rw [wsF_at, hs]
    simp [cellE]
  · rw [fvs_at, hj]
    simp

theorem Y_getR (hC : YF C own cc nL rm) {idx ci j k r : Nat} {fs : List (Option Nat)} (hs : shp[k]? = some (.inl (ci, fs))) (hf : FL own idx ci j) (hj : fs[j]? = some (some r)) (d : decode cc pc = .ok (.getfield idx, 3))
    (kk : Y C shp nL (pc + 3) L (.ref (C.a r) :: st) V) : Y C shp nL pc L (.ref (C.a k) :: st) V := by
  obtain ⟨hx, hb, hml, hown, hts, hK, hlk, hR, hA, hk1, hk2⟩ := hC
  intro H locs ls hP hD hS hl
  obtain ⟨R, T, N, hc, hN, hin, hlink⟩ := hf
  refine va_get (q0 := k) hx hb hts hin hown hK hP (fs := fvs C.a (V k) 0 fs) ?_ hc j hN (hts _ hlink) (fun _ h => h) (v := .ref (C.a r)) ?_ d (kk H locs ls hP hD hS hl)
  · show (wsF _ _ _ _ _ _)[k]? = _
    rw [wsF_at, hs]
    simp [cellE]
  · rw [fvs_at, hj]
    rfl

theorem Y_put (hC : YF C own cc nL rm) {idx ci j k : Nat} {fs : List (Option Nat)} {t : FieldType} {x : Int32} {V1 : Sto} (hs : shp[k]? = some (.inl (ci, fs))) (hf : FL own idx ci j) (hj : fs[j]? = some none) (h1 : k ≠ 1000) (hp : FPc ci) (ht : FT ci j t) (hn : narrow t (.int x) = .int x) (hfit : fits t (.int x) = true) (hw : YWr C shp) (hV : sw V k j x = V1) (d : decode cc pc = .ok (.putfield idx, 3))
    (kk : Y C shp nL (pc + 3) L st V1) : Y C shp nL pc L (.int x :: .ref (C.a k) :: st) V := by
  obtain ⟨hx, hb, hml, hown, hts, hK, hlk, hR, hA, hk1, hk2⟩ := hC
  intro H locs ls hP hD hS hl
  obtain ⟨R, T, N, hc, hN, hin, hlink⟩ := hf
  obtain ⟨R2, T2, N2, ty, hc2, hty, hnm⟩ := hp
  cases hc.symm.trans hc2
  obtain ⟨R3, T3, N3, hc3, hfin, hd⟩ := ht
  cases hc.symm.trans hc3
  subst hV
  refine va_put (q0 := k) hx hb hts hin ty hty hnm hown hK hP (wsF_A hw hD) hS (fs := fvs C.a (V k) 0 fs) ?_ hc j hN (hts _ hlink) (fun _ h => h) hfin hd hn hfit ?_ d (fun H1 locs1 hP1 hD1 hS1 => ?_)
  · show (wsF _ _ _ _ _ _)[k]? = _
    rw [wsF_at, hs]
    simp [cellE]
  · rw [fvs_len]
    exact (List.getElem?_eq_some_iff.mp hj).1
  · rw [wsF_put hs hj h1] at hP1 hD1
    exact kk H1 locs1 ls hP1 (hD1.weaken (fun _ _ _ _ => trivial)) hS1 hl

theorem Y_iald (hC : YF C own cc nL rm) {k n : Nat} {o : Option Nat} {i : Int32} (hs : shp[k]? = some (.inr (false, o))) (hn : alenOf V k o = n) (hi : ib i n = true) (d : decode cc pc = .ok (.iaload, 1))
    (kk : Y C shp nL (pc + 1) L (.int (V k i.toNatClampNeg) :: st) V) : Y C shp nL pc L (.int i :: .ref (C.a k) :: st) V := by
  obtain ⟨hx, hb, hml, hown, hts, hK, hlk, hR, hA, hk1, hk2⟩ := hC
  intro H locs ls hP hD hS hl
  refine va_iald hx hb hK hP k 0 (f := V k) (n := n) ?_ rfl (ib_in hi) d (kk H locs ls hP hD hS hl)
  show (wsF _ _ _ _ _ _)[k]? = _
  rw [wsF_at, hs]
  simp [cellE, arrC, hn]

theorem Y_zald (hC : YF C own cc nL rm) {k n : Nat} {o : Option Nat} {i : Int32} (hs : shp[k]? = some (.inr (true, o))) (hn : alenOf V k o = n) (hi : ib i n = true) (d : decode cc pc = .ok (.baload, 1))
    (kk : Y C shp nL (pc + 1) L (.int (V k i.toNatClampNeg) :: st) V) : Y C shp nL pc L (.int i :: .ref (C.a k) :: st) V := by
  obtain ⟨hx, hb, hml, hown, hts, hK, hlk, hR, hA, hk1, hk2⟩ := hC
  intro H locs ls hP hD hS hl
  refine va_zald hx hb hK hP k 1 (f := V k) (n := n) ?_ rfl (ib_in hi) d (kk H locs ls hP hD hS hl)
  show (wsF _ _ _ _ _ _)[k]? = _
  rw [wsF_at, hs]
  simp [cellE, arrC, hn]

theorem Y_iast (hC : YF C own cc nL rm) {k n : Nat} {o : Option Nat} {i x x' : Int32} {V1 : Sto} (hs : shp[k]? = some (.inr (false, o))) (h1 : k ≠ 1000) (hn : alenOf V k o = n) (hi : ib i n = true) (hw : YWr C shp) (hx' : x = x') (hV : sw V k i.toNatClampNeg x' = V1) (d : decode cc pc = .ok (.iastore, 1))
    (kk : Y C shp nL (pc + 1) L st V1) : Y C shp nL pc L (.int x :: .int i :: .ref (C.a k) :: st) V := by
  obtain ⟨hx, hb, hml, hown, hts, hK, hlk, hR, hA, hk1, hk2⟩ := hC
  intro H locs ls hP hD hS hl
  subst hV
  subst hx'
  subst hn
  refine va_iast hx hb hK hP (wsF_A hw hD) hS k 0 (f := V k) (n := alenOf V k o) ?_ rfl (ib_in hi) d (fun H1 locs1 hP1 hD1 hS1 => ?_)
  · show (wsF _ _ _ _ _ _)[k]? = _
    rw [wsF_at, hs]
    simp [cellE, arrC]
  · have e := wsF_ast (cI := C.cI) (cZ := C.cZ) (a := C.a) (V := V) (i := i.toNatClampNeg) (x := x) hs h1
    simp only [arrC] at e
    rw [e] at hP1 hD1
    exact kk H1 locs1 ls hP1 (hD1.weaken (fun _ _ _ _ => trivial)) hS1 hl

theorem Y_zast (hC : YF C own cc nL rm) {k n : Nat} {o : Option Nat} {i x x' : Int32} {V1 : Sto} (hs : shp[k]? = some (.inr (true, o))) (h1 : k ≠ 1000) (hn : alenOf V k o = n) (hi : ib i n = true) (hw : YWr C shp) (hx' : (vp_nar .boolean x) = x') (hV : sw V k i.toNatClampNeg x' = V1) (d : decode cc pc = .ok (.bastore, 1))
    (kk : Y C shp nL (pc + 1) L st V1) : Y C shp nL pc L (.int x :: .int i :: .ref (C.a k) :: st) V := by
  obtain ⟨hx, hb, hml, hown, hts, hK, hlk, hR, hA, hk1, hk2⟩ := hC
  intro H locs ls hP hD hS hl
  subst hV
  subst hx'
  subst hn
  refine va_zast hx hb hK hP (wsF_A hw hD) hS k 1 (f := V k) (n := alenOf V k o) ?_ rfl (ib_in hi) d (fun H1 locs1 hP1 hD1 hS1 => ?_)
  · show (wsF _ _ _ _ _ _)[k]? = _
    rw [wsF_at, hs]
    simp [cellE, arrC]
  · have e := wsF_ast (cI := C.cI) (cZ := C.cZ) (a := C.a) (V := V) (i := i.toNatClampNeg) (x := (vp_nar .boolean x)) hs h1
    simp only [arrC] at e
    rw [e] at hP1 hD1
    exact kk H1 locs1 ls hP1 (hD1.weaken (fun _ _ _ _ => trivial)) hS1 hl

theorem Y_alen (hC : YF C own cc nL rm) {k n : Nat} {o : Option Nat} (hs : shp[k]? = some (.inr (false, o))) (hn : alenOf V k o = n) (d : decode cc pc = .ok (.arraylength, 1))
    (kk : Y C shp nL (pc + 1) L (.int (nI n) :: st) V) : Y C shp nL pc L (.ref (C.a k) :: st) V := by
  obtain ⟨hx, hb, hml, hown, hts, hK, hlk, hR, hA, hk1, hk2⟩ := hC
  intro H locs ls hP hD hS hl
  subst hn
  refine va_alen hx hb hK hP k 0 (cA := C.cI) (x := (alenOf V k o, .inl (V k))) ?_ rfl rfl d (kk H locs ls hP hD hS hl)
  show (wsF _ _ _ _ _ _)[k]? = _
  rw [wsF_at, hs]
  simp [cellE, arrC]

theorem Y_mmax (hC : YF C own cc nL rm) {idx : Nat} {x y : Int32} (hl' : Cond.methodLink own idx Lib.Math.max.name ∈ ALLW) (hroom : 1 ≤ rm.frames ∧ 32 ≤ rm.locals) (hcat : (st.map fun v => v.category).sum ≤ 8) (d : decode cc pc = .ok (.invokestatic idx, 3))
    (k : Y C shp nL (pc + 3) L (.int (if x < y then y else x) :: st) V) : Y C shp nL pc L (.int y :: .int x :: st) V := by
  obtain ⟨hx, hb, hml, hown, hts, hK, hlk, hR, hA, hk1, hk2⟩ := hC
  intro H locs ls hP hD hS hl
  exact va_mmax hx hb (hml.trans hl.1.symm) hown (hts _ hl') (hts _ mathmaxS) (hts _ mathI) (hts _ mathmaxC) (by rw [hR]; exact hroom.1) (by rw [hR]; omega) hk1 hk2 d (k H locs ls hP hD hS hl)

theorem Y_mmin (hC : YF C own cc nL rm) {idx : Nat} {x y : Int32} (hl' : Cond.methodLink own idx Lib.Math.min.name ∈ ALLW) (hroom : 1 ≤ rm.frames ∧ 32 ≤ rm.locals) (hcat : (st.map fun v => v.category).sum ≤ 8) (d : decode cc pc = .ok (.invokestatic idx, 3))
    (k : Y C shp nL (pc + 3) L (.int (if y < x then y else x) :: st) V) : Y C shp nL pc L (.int y :: .int x :: st) V := by
  obtain ⟨hx, hb, hml, hown, hts, hK, hlk, hR, hA, hk1, hk2⟩ := hC
  intro H locs ls hP hD hS hl
  exact va_mmin hx hb (hml.trans hl.1.symm) hown (hts _ hl') (hts _ mathminS) (hts _ mathI) (hts _ mathminC) (by rw [hR]; exact hroom.1) (by rw [hR]; omega) hk1 hk2 d (k H locs ls hP hD hS hl)

theorem Y_copy (hC : YF C own cc nL rm) {idx k0 k1 n0 n1 : Nat} {o0 o1 : Option Nat} {sp dp n : Int32} {V1 : Sto} (hs0 : shp[k0]? = some (.inr (false, o0))) (hs1 : shp[k1]? = some (.inr (false, o1))) (h1 : k1 ≠ 1000) (hn0 : alenOf V k0 o0 = n0) (hn1 : alenOf V k1 o1 = n1) (hcp : cpb sp dp n n0 n1 = true) (hw : YWr C shp) (hV : cpw V k0 k1 sp dp n = V1) (hl' : Cond.methodLink own idx arraycopyName ∈ ALLW) (hroom : 1 ≤ rm.frames ∧ 8 + (nativeFrameWords "java/lang/System" "arraycopy" 5 + 11) ≤ rm.locals) (hcat : (st.map fun v => v.category).sum ≤ 8) (d : decode cc pc = .ok (.invokestatic idx, 3))
    (kk : Y C shp nL (pc + 3) L st V1) : Y C shp nL pc L (.int n :: .int dp :: .ref (C.a k1) :: .int sp :: .ref (C.a k0) :: st) V := by
  obtain ⟨hx, hb, hml, hown, hts, hK, hlk, hR, hA, hk1, hk2⟩ := hC
  intro H locs ls hP hD hS hl
  obtain ⟨g1, g2, g3, g4, g5⟩ := cpb_s hcp
  subst hV
  subst hn0
  subst hn1
  refine va_copyi hx hb (hml.trans hl.1.symm) hown (hts _ hl') (hts _ sysN) (hts _ sysS) (hts _ sysI) hK hP (wsF_A hw hD) hS k0 k1 0 0 (f := V k0) (g := V k1) (n0 := alenOf V k0 o0) (n1 := alenOf V k1 o1) ?_ ?_ rfl rfl rfl g1 g2 g3 g4 g5 (fun _ _ => rfl) (by rw [hR]; exact hroom.1) (by rw [hR]; omega) d (fun H1 locs1 hP1 hD1 hS1 => ?_)
  · show (wsF _ _ _ _ _ _)[k0]? = _
    rw [wsF_at, hs0]
    simp [cellE, arrC]
  · show (wsF _ _ _ _ _ _)[k1]? = _
    rw [wsF_at, hs1]
    simp [cellE, arrC]
  · have e := wsF_set (cI := C.cI) (cZ := C.cZ) (a := C.a) (V := V) (f := va_cpy (V k0) (V k1) sp.toNatClampNeg dp.toNatClampNeg n.toNatClampNeg) (e := .inl (C.cI, alenOf V k1 o1, .inl (va_cpy (V k0) (V k1) sp.toNatClampNeg dp.toNatClampNeg n.toNatClampNeg))) hs1 h1 (by
      have e2 : va_up V k1 (va_cpy (V k0) (V k1) sp.toNatClampNeg dp.toNatClampNeg n.toNatClampNeg) 1000 = V 1000 := by simp [va_up, Ne.symm h1]
      have e1 : va_up V k1 (va_cpy (V k0) (V k1) sp.toNatClampNeg dp.toNatClampNeg n.toNatClampNeg) k1 = va_cpy (V k0) (V k1) sp.toNatClampNeg dp.toNatClampNeg n.toNatClampNeg := by simp [va_up]
      cases o1 <;> simp [cellE, arrC, alenOf, e1, e2])
    rw [e] at hP1 hD1
    exact kk H1 locs1 ls hP1 (hD1.weaken (fun _ _ _ _ => trivial)) hS1 hl

end YR
end
section
/-! Contracts of methods over a fixed graph: YMi (an int comes back), YMv (nothing does). -/
def YWd (D : va_G) (cI cZ : ClassId) (a : Nat → Nat) (shp : List Shp) (V : Sto) (t : State) : Prop := va_P D classes (wsF cI cZ a V 0 shp) t.heap ∧ va_K D classes (tysOf cI cZ) t ∧ va_D (fun _ => True) (wsF cI cZ a V 0 shp)
def YQi (D : va_G) (cI cZ : ClassId) (a : Nat → Nat) (shp : List Shp) (A : Nat → Prop) (r : Int32) (V' : Sto) : Array Value → State → Outcome → State → Prop := va_Qi (fun r' (_ : Unit) => r' = r) (fun _ t => YWd D cI cZ a shp V' t) A
def YQv (D : va_G) (cI cZ : ClassId) (a : Nat → Nat) (shp : List Shp) (A : Nat → Prop) (V' : Sto) : Array Value → State → Outcome → State → Prop := va_Qv (fun (_ : Unit) => True) (fun _ t => YWd D cI cZ a shp V' t) A
def YPc (D : va_G) (cI cZ : ClassId) (a : Nat → Nat) (shp : List Shp) (av : List Value) (V : Sto) (sz : Nat) : Array Value → State → Prop := va_Pc av (fun U => U.heap.size = sz ∧ YWd D cI cZ a shp V U)
def YMi (l : Launch) (D : va_G) (cI cZ : ClassId) (a : Nat → Nat) (shp : List Shp) (y : MethodName) (cc : ByteArray) (maxL : Nat) (ret : Option FieldType) (rm : Room) (w : Bool) (av : List Value) (V : Sto) (r : Int32) (V' : Sto) : Prop :=
  ∀ sz : Nat, Met l y (Cond.code y cc maxL ret :: ALLW) rm (YPc D cI cZ a shp av V sz) (YQi D cI cZ a shp (RA w a shp.length sz) r V') 0 0 (RA w a shp.length sz)
def YMv (l : Launch) (D : va_G) (cI cZ : ClassId) (a : Nat → Nat) (shp : List Shp) (y : MethodName) (cc : ByteArray) (maxL : Nat) (rm : Room) (w : Bool) (av : List Value) (V V' : Sto) : Prop :=
  ∀ sz : Nat, Met l y (Cond.code y cc maxL none :: ALLW) rm (YPc D cI cZ a shp av V sz) (YQv D cI cZ a shp (RA w a shp.length sz) V') 0 0 (RA w a shp.length sz)
/-- the end that a walk comes to -/
def YEi (C : YC) (ty : FieldType) (shp : List Shp) (r : Int32) (V' : Sto) : Prop := C.meth.sig.returnType = some ty ∧ C.Q = MQ C.below (YQi C.D C.cI C.cZ C.a shp C.A r V') C.args C.s C.k C.n C.A
def YEv (C : YC) (shp : List Shp) (V' : Sto) : Prop := C.meth.sig.returnType = none ∧ C.Q = MQ C.below (YQv C.D C.cI C.cZ C.a shp C.A V') C.args C.s C.k C.n C.A
theorem RA_in {C : YC} {shp : List Shp} {w : Bool} {H : Heap} {locs : List Loc} (hw : w = true → YWr C shp) (hS : va_S C.A C.s.heap H locs) (hA : ∀ q : Nat, C.s.heap.size ≤ q → C.A q) : ∀ q, RA w C.a shp.length H.size q → C.A q := by
  intro q h
  rcases h with ⟨h0, k, hk, rfl⟩ | h
  · exact hw h0 k hk
  · exact hA q (Nat.le_trans hS.1 h)
theorem YPc_blind {D : va_G} {cI cZ : ClassId} {a : Nat → Nat} {shp : List Shp} {av : List Value} {V : Sto} {sz : Nat} : FrameBlind (YPc D cI cZ a shp av V sz) := fun a U g mk q => by
  obtain ⟨q0, q1, qP, qK, qD⟩ := q
  exact ⟨q0, q1, qP, va_K.moved (u := U) (U := U.calling g mk a) (Vm.Alike.refl U.vm) qK, qD⟩
section YCo
variable {l : Launch} {D : va_G} {cI cZ : ClassId} {a : Nat → Nat} {shp : List Shp} {y : MethodName} {cc : ByteArray} {maxL : Nat} {rm : Room} {w : Bool} {av : List Value} {V : Sto}
theorem YMi_of {ty : FieldType} {r : Int32} {V' : Sto} (hy : plainName y.cls = true) (hlen : (lg_sl av).length ≤ maxL)
    (body : ∀ C : YC, C.l = l → C.D = D → C.cI = cI → C.cZ = cZ → C.a = a → YF C y.cls cc maxL rm → (w = true → YWr C shp) → YEi C ty shp r V' → Y C shp maxL 0 (lv_args 0 av) [] V) : YMi l D cI cZ a shp y cc maxL (some ty) rm w av V r V' := by
  intro sz
  refine Met.ofW (cc := cc) (maxL := maxL) (ret := some ty) hy rfl ?_
  intro p e s m args below meth c s₁ B hml hv
  obtain ⟨rfl, hsz, hP, hK, hD0⟩ := hv
  subst hsz
  have hts0 := atoms_spec (ws := Cond.code y cc maxL (some ty) :: ALLW) B.pre
  have hb := body ((p, l, e, (headSpec (Cond.code y cc maxL (some ty) :: ALLW) rm).room, s), (m, av.toArray, below, meth, c), (D, cI, cZ), (a, RA w a shp.length s.heap.size), (0, 0), MQ below (YQi D cI cZ a shp (RA w a shp.length s.heap.size) r V') av.toArray s 0 0 (RA w a shp.length s.heap.size)) rfl rfl rfl rfl rfl
    ⟨B.exec, B.bytes, hml, findClass_of_methodNamed B.named, fun w hw => hts0 w (List.mem_cons_of_mem _ hw), hK, B.notSynchronized, rfl, fun q h => Or.inr h, Nat.zero_le _, Nat.zero_le _⟩ (fun h k hk => Or.inl ⟨h, k, hk, rfl⟩) ⟨B.returns, rfl⟩
  have hl := lv_entry av (n := maxL) hlen
  rw [lg_entry_eq]
  exact hb s.heap [] _ hP hD0 va_S.rf hl
theorem YMv_of {V' : Sto} (hy : plainName y.cls = true) (hlen : (lg_sl av).length ≤ maxL)
    (body : ∀ C : YC, C.l = l → C.D = D → C.cI = cI → C.cZ = cZ → C.a = a → YF C y.cls cc maxL rm → (w = true → YWr C shp) → YEv C shp V' → Y C shp maxL 0 (lv_args 0 av) [] V) : YMv l D cI cZ a shp y cc maxL rm w av V V' := by
  intro sz
  refine Met.ofW (cc := cc) (maxL := maxL) (ret := none) hy rfl ?_
  intro p e s m args below meth c s₁ B hml hv
  obtain ⟨rfl, hsz, hP, hK, hD0⟩ := hv
  subst hsz
  have hts0 := atoms_spec (ws := Cond.code y cc maxL none :: ALLW) B.pre
  have hb := body ((p, l, e, (headSpec (Cond.code y cc maxL none :: ALLW) rm).room, s), (m, av.toArray, below, meth, c), (D, cI, cZ), (a, RA w a shp.length s.heap.size), (0, 0), MQ below (YQv D cI cZ a shp (RA w a shp.length s.heap.size) V') av.toArray s 0 0 (RA w a shp.length s.heap.size)) rfl rfl rfl rfl rfl
    ⟨B.exec, B.bytes, hml, findClass_of_methodNamed B.named, fun w hw => hts0 w (List.mem_cons_of_mem _ hw), hK, B.notSynchronized, rfl, fun q h => Or.inr h, Nat.zero_le _, Nat.zero_le _⟩ (fun h k hk => Or.inl ⟨h, k, hk, rfl⟩) ⟨B.returns, rfl⟩
  have hl := lv_entry av (n := maxL) hlen
  rw [lg_entry_eq]
  exact hb s.heap [] _ hP hD0 va_S.rf hl
end YCo
section YCa
variable {C : YC} {own : String} {cc : ByteArray} {nL pc : Nat} {rm : Room} {shp : List Shp} {L : List (Nat × Value)} {st : List Value} {V : Sto}
theorem Y_iret {r v : Int32} {V' : Sto} (hC : YF C own cc nL rm) (hE : YEi C .int shp r V') (d : decode cc pc = .ok (.ireturn, 1)) (h : some (v, V) = some (r, V')) : Y C shp nL pc L [.int v] V := by
  obtain ⟨hx, hb, hml, hown, hts, hK, hlk, hR, hA, hk1, hk2⟩ := hC
  obtain ⟨hr, hQ⟩ := hE
  cases h
  intro H locs ls hP hD hS hl
  show W _ _ _ _ _ _ _ _ _ _ _ _ _ _ C.Q _
  rw [hQ]
  exact W.iret (v := r) hx hb hr (fun t ht hW => ⟨⟨r, (), rfl, rfl, by rw [ht]; exact hP, va_K.moved hW.alike hK, hD⟩, hS.F ht⟩) hS.2.2 d hlk
theorem Y_zret {r v : Int32} {V' : Sto} (hC : YF C own cc nL rm) (hE : YEi C .boolean shp r V') (d : decode cc pc = .ok (.ireturn, 1)) (hn : bb v = true) (h : some (v, V) = some (r, V')) : Y C shp nL pc L [.int v] V := by
  obtain ⟨hx, hb, hml, hown, hts, hK, hlk, hR, hA, hk1, hk2⟩ := hC
  obtain ⟨hr, hQ⟩ := hE
  cases h
  intro H locs ls hP hD hS hl
  show W _ _ _ _ _ _ _ _ _ _ _ _ _ _ C.Q _
  rw [hQ]
  have hnv : narrow .boolean (.int r) = .int r := by
    unfold bb at hn
    rw [Bool.or_eq_true, decide_eq_true_eq, decide_eq_true_eq] at hn
    rcases hn with rfl | rfl <;> rfl
  exact W.zret (v := r) hx hb hr hnv (fun t ht hW => ⟨⟨r, (), rfl, rfl, by rw [ht]; exact hP, va_K.moved hW.alike hK, hD⟩, hS.F ht⟩) hS.2.2 d hlk
theorem Y_vret {r : Int32} {V' : Sto} (hC : YF C own cc nL rm) (hE : YEv C shp V') (d : decode cc pc = .ok (.return_, 1)) (h : some ((0 : Int32), V) = some (r, V')) : Y C shp nL pc L [] V := by
  obtain ⟨hx, hb, hml, hown, hts, hK, hlk, hR, hA, hk1, hk2⟩ := hC
  obtain ⟨hr, hQ⟩ := hE
  cases h
  intro H locs ls hP hD hS hl
  show W _ _ _ _ _ _ _ _ _ _ _ _ _ _ C.Q _
  rw [hQ]
  exact W.vret hx hb hr (fun t ht hW => ⟨⟨(), rfl, trivial, by rw [ht]; exact hP, va_K.moved hW.alike hK, hD⟩, hS.F ht⟩) hS.2.2 d hlk
/-- a method's words, as a call needs them -/
def MLb (own : String) (idx : Nat) (y : MethodName) (cc : ByteArray) (maxL : Nat) (ret : Option FieldType) (n : Nat) : Prop :=
  Cond.code y cc maxL ret ∈ ALLW ∧ Cond.methodLink own idx y ∈ ALLW ∧ Cond.initialized y.cls ∈ ALLW ∧ (y.cls ≠ "java/lang/invoke/MethodHandle" ∧ y.cls ≠ "java/lang/invoke/VarHandle" ∧ (parseMethodDescriptor y.desc).map (fun d => d.parameters.length) = some n)
def MLv (y : MethodName) : Prop := Cond.instanceMethod y ∈ ALLW ∧ Cond.selects y.cls y y ∈ ALLW
theorem gd_code {y : MethodName} {cc : ByteArray} {maxL : Nat} {ret : Option FieldType} (h : Cond.code y cc maxL ret ∈ ALLW) : GoodIn ALLW (Cond.code y cc maxL ret :: ALLW) := fun w hw => by
  rcases List.mem_cons.mp hw with rfl | hw
  · exact ⟨h, goodAll _ h⟩
  · exact ⟨hw, goodAll _ hw⟩
variable {idx k ci N : Nat} {y : MethodName} {cc' : ByteArray} {maxL' : Nat} {rm' : Room} {As rest : List Value} {T : u_T} {fs : List (Option Nat)} {w : Bool}
theorem Y_cbase {ret' : Option FieldType} (hC : YF C own cc nL rm) (hm : MLb own idx y cc' maxL' ret' As.length) (hroom : (rm'.frames + 1 ≤ rm.frames ∧ 8 + (maxL' + 11) + rm'.locals ≤ rm.locals) ∧ rm'.cells = 0 ∧ rm'.slots = 0) : CallB C.R C.s C.args own idx y cc' maxL' ret' (Cond.code y cc' maxL' ret' :: ALLW) rm' 0 0 As.length := by
  obtain ⟨hx, hb, hml, hown, hts, hK, hlk, hR, hA, hk1, hk2⟩ := hC
  exact callB_of As.length hts (gd_code hm.1) rfl hroom.2.1 hroom.2.2 (hts _ hm.2.2.1) (hts _ hm.2.1) hm.2.2.2 (by rw [hR]; exact hroom.1)
theorem Y_recv {H : Heap} (hC : YF C own cc nL rm) (hs : shp[k]? = some (.inl (ci, fs))) (hc : classes[ci]? = some (y.cls, T, N)) (hP : va_P C.D classes (C.ws shp V) H) : ∃ cell : Cell, H[C.a k]? = some cell ∧ cell.vm.isStatics = false ∧ C.s.vm.findClass y.cls = some cell.cls := by
  obtain ⟨hx, hb, hml, hown, hts, hK, hlk, hR, hA, hk1, hk2⟩ := hC
  refine va_recv hK hP (ci := ci) (q0 := k) (fs := fvs C.a (V k) 0 fs) hc ?_
  show (wsF _ _ _ _ _ _)[k]? = _
  rw [wsF_at, hs]
  simp [cellE]
theorem Y_callV {ty' : FieldType} {r : Int32} {V1 : Sto} (hC : YF C own cc nL rm) (hM : YMi C.l C.D C.cI C.cZ C.a shp y cc' maxL' (some ty') rm' w (.ref (C.a k) :: As) V r V1) (hwk : w = true → YWr C shp) (hs : shp[k]? = some (.inl (ci, fs))) (hc : classes[ci]? = some (y.cls, T, N)) (hm : MLb own idx y cc' maxL' (some ty') As.length) (hv : MLv y)
    (hroom : (rm'.frames + 1 ≤ rm.frames ∧ 8 + (maxL' + 11) + rm'.locals ≤ rm.locals) ∧ rm'.cells = 0 ∧ rm'.slots = 0) (hcat : (rest.map fun v => v.category).sum ≤ 8) (hst : st = As.reverse ++ .ref (C.a k) :: rest) (d : decode cc pc = .ok (.invokevirtual idx, 3)) (kk : Y C shp nL (pc + 3) L (.int r :: rest) V1) : Y C shp nL pc L st V := by
  have hcb := Y_cbase hC hm hroom
  have hC' := hC
  obtain ⟨hx, hb, hml, hown, hts, hK, hlk, hR, hA, hk1, hk2⟩ := hC'
  subst hst
  intro H locs ls hP hD hS hl
  have hFc := RA_in hwk hS hA
  refine va_calli (va_runV (As := As) (rest := rest) ⟨hx, hb, hml, hown, hts⟩ (hM H.size) ⟨hcb, hts _ hv.1, hts _ hv.2⟩ ⟨YPc_blind, Y_recv hC hs hc hP, fun U hU hW => ⟨rfl, by rw [hU], by rw [hU]; exact hP, va_K.moved hW.alike hK, hD⟩⟩ rfl rfl hl.1 rfl (lv_room hcat) d ⟨hk1, hk2⟩) hS (fun q _ h => hFc q h) hFc (fun r' u t H1 locs ht hvm hw hB hz1 hkk hS => ?_)
  subst hw
  obtain ⟨hP1, hK1, hD1⟩ := hB
  rw [ht] at hP1
  exact kk H1 locs ls hP1 hD1 hS hl
theorem Y_callVv {V1 : Sto} (hC : YF C own cc nL rm) (hM : YMv C.l C.D C.cI C.cZ C.a shp y cc' maxL' rm' w (.ref (C.a k) :: As) V V1) (hwk : w = true → YWr C shp) (hs : shp[k]? = some (.inl (ci, fs))) (hc : classes[ci]? = some (y.cls, T, N)) (hm : MLb own idx y cc' maxL' none As.length) (hv : MLv y)
    (hroom : (rm'.frames + 1 ≤ rm.frames ∧ 8 + (maxL' + 11) + rm'.locals ≤ rm.locals) ∧ rm'.cells = 0 ∧ rm'.slots = 0) (hcat : (rest.map fun v => v.category).sum ≤ 8) (hst : st = As.reverse ++ .ref (C.a k) :: rest) (d : decode cc pc = .ok (.invokevirtual idx, 3)) (kk : Y C shp nL (pc + 3) L rest V1) : Y C shp nL pc L st V := by
  have hcb := Y_cbase hC hm hroom
  have hC' := hC
  obtain ⟨hx, hb, hml, hown, hts, hK, hlk, hR, hA, hk1, hk2⟩ := hC'
  subst hst
  intro H locs ls hP hD hS hl
  have hFc := RA_in hwk hS hA
  refine va_callv (va_runV (As := As) (rest := rest) ⟨hx, hb, hml, hown, hts⟩ (hM H.size) ⟨hcb, hts _ hv.1, hts _ hv.2⟩ ⟨YPc_blind, Y_recv hC hs hc hP, fun U hU hW => ⟨rfl, by rw [hU], by rw [hU]; exact hP, va_K.moved hW.alike hK, hD⟩⟩ rfl rfl hl.1 rfl (lv_room hcat) d ⟨hk1, hk2⟩) hS (fun q _ h => hFc q h) hFc (fun u t H1 locs ht hvm hw hB hz1 hkk hS => ?_)
  obtain ⟨hP1, hK1, hD1⟩ := hB
  rw [ht] at hP1
  exact kk H1 locs ls hP1 hD1 hS hl
theorem Y_callS {ty' : FieldType} {r : Int32} {V1 : Sto} (hC : YF C own cc nL rm) (hM : YMi C.l C.D C.cI C.cZ C.a shp y cc' maxL' (some ty') rm' w As V r V1) (hwk : w = true → YWr C shp) (hm : MLb own idx y cc' maxL' (some ty') As.length) (hv : Cond.static y ∈ ALLW)
    (hroom : (rm'.frames + 1 ≤ rm.frames ∧ 8 + (maxL' + 11) + rm'.locals ≤ rm.locals) ∧ rm'.cells = 0 ∧ rm'.slots = 0) (hcat : (rest.map fun v => v.category).sum ≤ 8) (hst : st = As.reverse ++ rest) (d : decode cc pc = .ok (.invokestatic idx, 3)) (kk : Y C shp nL (pc + 3) L (.int r :: rest) V1) : Y C shp nL pc L st V := by
  have hcb := Y_cbase hC hm hroom
  obtain ⟨hx, hb, hml, hown, hts, hK, hlk, hR, hA, hk1, hk2⟩ := hC
  subst hst
  intro H locs ls hP hD hS hl
  have hFc := RA_in hwk hS hA
  refine va_calli (va_runS (As := As) (rest := rest) ⟨hx, hb, hml, hown, hts⟩ (hM H.size) ⟨hcb, hts _ hv⟩ ⟨YPc_blind, fun U hU hW => ⟨rfl, by rw [hU], by rw [hU]; exact hP, va_K.moved hW.alike hK, hD⟩⟩ rfl rfl hl.1 rfl (lv_room hcat) d ⟨hk1, hk2⟩) hS (fun q _ h => hFc q h) hFc (fun r' u t H1 locs ht hvm hw hB hz1 hkk hS => ?_)
  subst hw
  obtain ⟨hP1, hK1, hD1⟩ := hB
  rw [ht] at hP1
  exact kk H1 locs ls hP1 hD1 hS hl
theorem Y_callSv {V1 : Sto} (hC : YF C own cc nL rm) (hM : YMv C.l C.D C.cI C.cZ C.a shp y cc' maxL' rm' w As V V1) (hwk : w = true → YWr C shp) (hm : MLb own idx y cc' maxL' none As.length) (hv : Cond.static y ∈ ALLW)
    (hroom : (rm'.frames + 1 ≤ rm.frames ∧ 8 + (maxL' + 11) + rm'.locals ≤ rm.locals) ∧ rm'.cells = 0 ∧ rm'.slots = 0) (hcat : (rest.map fun v => v.category).sum ≤ 8) (hst : st = As.reverse ++ rest) (d : decode cc pc = .ok (.invokestatic idx, 3)) (kk : Y C shp nL (pc + 3) L rest V1) : Y C shp nL pc L st V := by
  have hcb := Y_cbase hC hm hroom
  obtain ⟨hx, hb, hml, hown, hts, hK, hlk, hR, hA, hk1, hk2⟩ := hC
  subst hst
  intro H locs ls hP hD hS hl
  have hFc := RA_in hwk hS hA
  refine va_callv (va_runS (As := As) (rest := rest) ⟨hx, hb, hml, hown, hts⟩ (hM H.size) ⟨hcb, hts _ hv⟩ ⟨YPc_blind, fun U hU hW => ⟨rfl, by rw [hU], by rw [hU]; exact hP, va_K.moved hW.alike hK, hD⟩⟩ rfl rfl hl.1 rfl (lv_room hcat) d ⟨hk1, hk2⟩) hS (fun q _ h => hFc q h) hFc (fun u t H1 locs ht hvm hw hB hz1 hkk hS => ?_)
  obtain ⟨hP1, hK1, hD1⟩ := hB
  rw [ht] at hP1
  exact kk H1 locs ls hP1 hD1 hS hl
end YCa
end
section
theorem fp_Ly : FPc 0 := ⟨R_Ly, F_Ly, N_Ly, t_Ly, rfl, t_Ly_ok, n_Ly⟩
theorem fp_Un : FPc 1 := ⟨R_Un, F_Un, N_Un, t_Un, rfl, t_Un_ok, n_Un⟩
theorem fp_Se : FPc 2 := ⟨R_Se, F_Se, N_Se, t_Se, rfl, t_Se_ok, n_Se⟩
theorem fp_Sy : FPc 3 := ⟨R_Sy, F_Sy, N_Sy, t_Sy, rfl, t_Sy_ok, n_Sy⟩
theorem fp_Re : FPc 4 := ⟨R_Re, F_Re, N_Re, t_Re, rfl, t_Re_ok, n_Re⟩
theorem fp_Ar : FPc 5 := ⟨R_Ar, F_Ar, N_Ar, t_Ar, rfl, t_Ar_ok, n_Ar⟩
theorem fp_Na : FPc 6 := ⟨R_Na, F_Na, N_Na, t_Na, rfl, t_Na_ok, n_Na⟩
theorem fp_Rc : FPc 7 := ⟨R_Rc, F_Rc, N_Rc, t_Rc, rfl, t_Rc_ok, n_Rc⟩
theorem fp_Fo : FPc 8 := ⟨R_Fo, F_Fo, N_Fo, t_Fo, rfl, t_Fo_ok, n_Fo⟩
theorem fp_La : FPc 9 := ⟨R_La, F_La, N_La, t_La, rfl, t_La_ok, n_La⟩
theorem fp_Is : FPc 10 := ⟨R_Is, F_Is, N_Is, t_Is, rfl, t_Is_ok, n_Is⟩
theorem fp_Me : FPc 11 := ⟨R_Me, F_Me, N_Me, t_Me, rfl, t_Me_ok, n_Me⟩
theorem fp_Mo : FPc 12 := ⟨R_Mo, F_Mo, N_Mo, t_Mo, rfl, t_Mo_ok, n_Mo⟩
def shpC : List Shp := [.inl (0, [some 1, some 2, some 3, some 4, some 5, some 6, some 7, some 8, some 9, some 10, some 11, none, none, none, none, none, none, none]), .inl (1, [none, some 12, some 13]), .inl (2, [none, none, none, some 14, some 15, some 16, some 17, some 18, some 19, some 20]), .inl (3, [none, some 21, some 22, some 23, some 24, some 25, some 26]), .inl (4, [none, some 27, some 28, some 29, some 30, some 31, some 32, some 33, some 34]), .inl (5, [some 1, some 3, some 35, some 36]), .inl (6, [some 1, some 3, some 37, some 38, some 39, none, some 40, some 41, some 42]), .inl (7, [some 1, some 2, some 4, some 6, some 43, some 44, none, some 45]), .inl (8, [some 2, some 4, some 6, some 7, some 46, some 47]), .inl (9, [some 2, some 6, some 7, some 8, none, none, none, none, some 48, some 49]), .inl (10, [some 2, some 4, some 6, some 8, some 9, none, none, some 50, some 51, some 52, some 53]), .inl (11, [some 2, some 4, some 9, some 10]), .inr (false, some 24), .inr (true, some 24), .inr (false, none), .inr (false, some 96), .inr (false, some 96), .inr (false, some 96), .inr (false, some 96), .inr (false, some 96), .inr (true, some 96), .inr (false, some 400), .inr (false, some 400), .inr (false, some 400), .inr (false, some 400), .inr (false, some 400), .inr (false, some 400), .inr (false, some 600), .inr (false, some 600), .inr (false, some 600), .inr (false, some 600), .inr (false, some 600), .inr (false, some 600), .inr (false, some 97), .inr (false, some 96), .inr (true, some 200), .inr (true, some 200), .inr (false, some 200), .inr (false, some 200), .inr (false, some 200), .inr (false, some 400), .inr (false, some 400), .inr (false, some 400), .inr (true, some 96), .inr (true, some 200), .inr (false, some 96), .inr (false, some 96), .inr (false, some 96), .inr (false, some 96), .inr (false, some 200), .inr (false, some 32), .inr (false, some 32), .inr (false, some 32), .inr (false, some 600)]
theorem sc_0 : shpC[0]? = some (.inl (0, [some 1, some 2, some 3, some 4, some 5, some 6, some 7, some 8, some 9, some 10, some 11, none, none, none, none, none, none, none])) := rfl
theorem sc_1 : shpC[1]? = some (.inl (1, [none, some 12, some 13])) := rfl
theorem sc_2 : shpC[2]? = some (.inl (2, [none, none, none, some 14, some 15, some 16, some 17, some 18, some 19, some 20])) := rfl
theorem sc_3 : shpC[3]? = some (.inl (3, [none, some 21, some 22, some 23, some 24, some 25, some 26])) := rfl
theorem sc_4 : shpC[4]? = some (.inl (4, [none, some 27, some 28, some 29, some 30, some 31, some 32, some 33, some 34])) := rfl
theorem sc_5 : shpC[5]? = some (.inl (5, [some 1, some 3, some 35, some 36])) := rfl
theorem sc_6 : shpC[6]? = some (.inl (6, [some 1, some 3, some 37, some 38, some 39, none, some 40, some 41, some 42])) := rfl
theorem sc_7 : shpC[7]? = some (.inl (7, [some 1, some 2, some 4, some 6, some 43, some 44, none, some 45])) := rfl
theorem sc_8 : shpC[8]? = some (.inl (8, [some 2, some 4, some 6, some 7, some 46, some 47])) := rfl
theorem sc_9 : shpC[9]? = some (.inl (9, [some 2, some 6, some 7, some 8, none, none, none, none, some 48, some 49])) := rfl
theorem sc_10 : shpC[10]? = some (.inl (10, [some 2, some 4, some 6, some 8, some 9, none, none, some 50, some 51, some 52, some 53])) := rfl
theorem sc_11 : shpC[11]? = some (.inl (11, [some 2, some 4, some 9, some 10])) := rfl
theorem sc_12 : shpC[12]? = some (.inr (false, some 24)) := rfl
theorem sc_13 : shpC[13]? = some (.inr (true, some 24)) := rfl
theorem sc_14 : shpC[14]? = some (.inr (false, none)) := rfl
theorem sc_15 : shpC[15]? = some (.inr (false, some 96)) := rfl
theorem sc_16 : shpC[16]? = some (.inr (false, some 96)) := rfl
theorem sc_17 : shpC[17]? = some (.inr (false, some 96)) := rfl
theorem sc_18 : shpC[18]? = some (.inr (false, some 96)) := rfl
theorem sc_19 : shpC[19]? = some (.inr (false, some 96)) := rfl
theorem sc_20 : shpC[20]? = some (.inr (true, some 96)) := rfl
theorem sc_21 : shpC[21]? = some (.inr (false, some 400)) := rfl
theorem sc_22 : shpC[22]? = some (.inr (false, some 400)) := rfl
theorem sc_23 : shpC[23]? = some (.inr (false, some 400)) := rfl
theorem sc_24 : shpC[24]? = some (.inr (false, some 400)) := rfl
theorem sc_25 : shpC[25]? = some (.inr (false, some 400)) := rfl
theorem sc_26 : shpC[26]? = some (.inr (false, some 400)) := rfl
theorem sc_27 : shpC[27]? = some (.inr (false, some 600)) := rfl
theorem sc_28 : shpC[28]? = some (.inr (false, some 600)) := rfl
theorem sc_29 : shpC[29]? = some (.inr (false, some 600)) := rfl
theorem sc_30 : shpC[30]? = some (.inr (false, some 600)) := rfl
theorem sc_31 : shpC[31]? = some (.inr (false, some 600)) := rfl
theorem sc_32 : shpC[32]? = some (.inr (false, some 600)) := rfl
theorem sc_33 : shpC[33]? = some (.inr (false, some 97)) := rfl
theorem sc_34 : shpC[34]? = some (.inr (false, some 96)) := rfl
theorem sc_35 : shpC[35]? = some (.inr (true, some 200)) := rfl
theorem sc_36 : shpC[36]? = some (.inr (true, some 200)) := rfl
theorem sc_37 : shpC[37]? = some (.inr (false, some 200)) := rfl
theorem sc_38 : shpC[38]? = some (.inr (false, some 200)) := rfl
theorem sc_39 : shpC[39]? = some (.inr (false, some 200)) := rfl
theorem sc_40 : shpC[40]? = some (.inr (false, some 400)) := rfl
theorem sc_41 : shpC[41]? = some (.inr (false, some 400)) := rfl
theorem sc_42 : shpC[42]? = some (.inr (false, some 400)) := rfl
theorem sc_43 : shpC[43]? = some (.inr (true, some 96)) := rfl
theorem sc_44 : shpC[44]? = some (.inr (true, some 200)) := rfl
theorem sc_45 : shpC[45]? = some (.inr (false, some 96)) := rfl
theorem sc_46 : shpC[46]? = some (.inr (false, some 96)) := rfl
theorem sc_47 : shpC[47]? = some (.inr (false, some 96)) := rfl
theorem sc_48 : shpC[48]? = some (.inr (false, some 96)) := rfl
theorem sc_49 : shpC[49]? = some (.inr (false, some 200)) := rfl
theorem sc_50 : shpC[50]? = some (.inr (false, some 32)) := rfl
theorem sc_51 : shpC[51]? = some (.inr (false, some 32)) := rfl
theorem sc_52 : shpC[52]? = some (.inr (false, some 32)) := rfl
theorem sc_53 : shpC[53]? = some (.inr (false, some 600)) := rfl
def shpM : List Shp := [.inl (12, [none, none, some 1, none, some 2, some 3, some 4, some 5, some 6, some 7, none, none, some 8, none, some 9, some 10, some 11, some 12, some 13, some 14, none, some 15, some 16, some 17, some 18, some 19, none, none, none, none, none, none, none, none, none, none, some 20, some 21, some 22, some 23, some 24, some 25, some 26, some 27, some 28, some 29, some 30, none, some 31, none]), .inr (false, some 24), .inr (false, some 96), .inr (false, some 96), .inr (false, some 96), .inr (false, some 96), .inr (false, some 96), .inr (true, some 96), .inr (false, some 100000), .inr (false, some 400), .inr (false, some 400), .inr (false, some 400), .inr (false, some 400), .inr (false, some 400), .inr (false, some 400), .inr (false, some 600), .inr (false, some 600), .inr (false, some 600), .inr (false, some 600), .inr (false, some 600), .inr (true, some 24), .inr (false, some 200), .inr (false, some 200), .inr (true, some 200), .inr (false, some 200), .inr (true, some 96), .inr (false, some 96), .inr (false, some 96), .inr (true, some 9216), .inr (false, some 100000), .inr (false, some 600), .inr (false, some 32)]
theorem sm_0 : shpM[0]? = some (.inl (12, [none, none, some 1, none, some 2, some 3, some 4, some 5, some 6, some 7, none, none, some 8, none, some 9, some 10, some 11, some 12, some 13, some 14, none, some 15, some 16, some 17, some 18, some 19, none, none, none, none, none, none, none, none, none, none, some 20, some 21, some 22, some 23, some 24, some 25, some 26, some 27, some 28, some 29, some 30, none, some 31, none])) := rfl
theorem sm_1 : shpM[1]? = some (.inr (false, some 24)) := rfl
theorem sm_2 : shpM[2]? = some (.inr (false, some 96)) := rfl
theorem sm_3 : shpM[3]? = some (.inr (false, some 96)) := rfl
theorem sm_4 : shpM[4]? = some (.inr (false, some 96)) := rfl
theorem sm_5 : shpM[5]? = some (.inr (false, some 96)) := rfl
theorem sm_6 : shpM[6]? = some (.inr (false, some 96)) := rfl
theorem sm_7 : shpM[7]? = some (.inr (true, some 96)) := rfl
theorem sm_8 : shpM[8]? = some (.inr (false, some 100000)) := rfl
theorem sm_9 : shpM[9]? = some (.inr (false, some 400)) := rfl
theorem sm_10 : shpM[10]? = some (.inr (false, some 400)) := rfl
theorem sm_11 : shpM[11]? = some (.inr (false, some 400)) := rfl
theorem sm_12 : shpM[12]? = some (.inr (false, some 400)) := rfl
theorem sm_13 : shpM[13]? = some (.inr (false, some 400)) := rfl
theorem sm_14 : shpM[14]? = some (.inr (false, some 400)) := rfl
theorem sm_15 : shpM[15]? = some (.inr (false, some 600)) := rfl
theorem sm_16 : shpM[16]? = some (.inr (false, some 600)) := rfl
theorem sm_17 : shpM[17]? = some (.inr (false, some 600)) := rfl
theorem sm_18 : shpM[18]? = some (.inr (false, some 600)) := rfl
theorem sm_19 : shpM[19]? = some (.inr (false, some 600)) := rfl
theorem sm_20 : shpM[20]? = some (.inr (true, some 24)) := rfl
theorem sm_21 : shpM[21]? = some (.inr (false, some 200)) := rfl
theorem sm_22 : shpM[22]? = some (.inr (false, some 200)) := rfl
theorem sm_23 : shpM[23]? = some (.inr (true, some 200)) := rfl
theorem sm_24 : shpM[24]? = some (.inr (false, some 200)) := rfl
theorem sm_25 : shpM[25]? = some (.inr (true, some 96)) := rfl
theorem sm_26 : shpM[26]? = some (.inr (false, some 96)) := rfl
theorem sm_27 : shpM[27]? = some (.inr (false, some 96)) := rfl
theorem sm_28 : shpM[28]? = some (.inr (true, some 9216)) := rfl
theorem sm_29 : shpM[29]? = some (.inr (false, some 100000)) := rfl
theorem sm_30 : shpM[30]? = some (.inr (false, some 600)) := rfl
theorem sm_31 : shpM[31]? = some (.inr (false, some 32)) := rfl
abbrev b_Ly_takeLinkAway : ByteArray := prog_1_method_21_code
def y_Ly_takeLinkAway : MethodName := ⟨R_Ly, "takeLinkAway", "()V"⟩
abbrev rm_Ly_takeLinkAway : Room := { frames := 0, cells := 0, slots := 0, locals := 0 }
abbrev b_Ly_fold : ByteArray := prog_1_method_10_code
def y_Ly_fold : MethodName := ⟨R_Ly, "fold", "(ZZ)V"⟩
abbrev rm_Ly_fold : Room := { frames := 1, cells := 0, slots := 0, locals := 20 }
abbrev b_Se_forget : ByteArray := prog_10_method_9_code
def y_Se_forget : MethodName := ⟨R_Se, "forget", "()V"⟩
abbrev rm_Se_forget : Room := { frames := 0, cells := 0, slots := 0, locals := 0 }
abbrev b_Ly_clear : ByteArray := prog_1_method_11_code
def y_Ly_clear : MethodName := ⟨R_Ly, "clear", "()V"⟩
abbrev rm_Ly_clear : Room := { frames := 1, cells := 0, slots := 0, locals := 20 }
abbrev b_Sy_asksForName : ByteArray := prog_11_method_7_code
def y_Sy_asksForName : MethodName := ⟨R_Sy, "asksForName", "(I)Z"⟩
abbrev rm_Sy_asksForName : Room := { frames := 0, cells := 0, slots := 0, locals := 0 }
abbrev b_Sy_givesName : ByteArray := prog_11_method_6_code
def y_Sy_givesName : MethodName := ⟨R_Sy, "givesName", "(I)Z"⟩
abbrev rm_Sy_givesName : Room := { frames := 0, cells := 0, slots := 0, locals := 0 }
abbrev b_Ar_note : ByteArray := prog_2_method_6_code
def y_Ar_note : MethodName := ⟨R_Ar, "note", "(I)V"⟩
abbrev rm_Ar_note : Room := { frames := 1, cells := 0, slots := 0, locals := 21 }
abbrev b_Ar_admit : ByteArray := prog_2_method_5_code
def y_Ar_admit : MethodName := ⟨R_Ar, "admit", "(I)V"⟩
abbrev rm_Ar_admit : Room := { frames := 2, cells := 0, slots := 0, locals := 42 }
abbrev b_Ar_begin : ByteArray := prog_2_method_3_code
def y_Ar_begin : MethodName := ⟨R_Ar, "begin", "(I)V"⟩
abbrev rm_Ar_begin : Room := { frames := 3, cells := 0, slots := 0, locals := 64 }
abbrev b_Ar_isNeeded : ByteArray := prog_2_method_8_code
def y_Ar_isNeeded : MethodName := ⟨R_Ar, "isNeeded", "(I)Z"⟩
abbrev rm_Ar_isNeeded : Room := { frames := 1, cells := 0, slots := 0, locals := 21 }
abbrev b_Ar_firstNeeded : ByteArray := prog_2_method_7_code
def y_Ar_firstNeeded : MethodName := ⟨R_Ar, "firstNeeded", "(I)I"⟩
abbrev rm_Ar_firstNeeded : Room := { frames := 2, cells := 0, slots := 0, locals := 43 }
abbrev b_Ar_goThroughArchives : ByteArray := prog_2_method_4_code
def y_Ar_goThroughArchives : MethodName := ⟨R_Ar, "goThroughArchives", "()Z"⟩
abbrev rm_Ar_goThroughArchives : Room := { frames := 3, cells := 0, slots := 0, locals := 68 }
abbrev b_Ar_bringIn : ByteArray := prog_2_method_2_code
def y_Ar_bringIn : MethodName := ⟨R_Ar, "bringIn", "(IZ)V"⟩
abbrev rm_Ar_bringIn : Room := { frames := 4, cells := 0, slots := 0, locals := 92 }
abbrev b_Na_isCommon : ByteArray := prog_7_method_7_code
def y_Na_isCommon : MethodName := ⟨R_Na, "isCommon", "(I)Z"⟩
abbrev rm_Na_isCommon : Room := { frames := 0, cells := 0, slots := 0, locals := 0 }
abbrev b_Na_definer : ByteArray := prog_7_method_8_code
def y_Na_definer : MethodName := ⟨R_Na, "definer", "(I)I"⟩
abbrev rm_Na_definer : Room := { frames := 1, cells := 0, slots := 0, locals := 21 }
abbrev b_Na_isDefined : ByteArray := prog_7_method_6_code
def y_Na_isDefined : MethodName := ⟨R_Na, "isDefined", "(I)Z"⟩
abbrev rm_Na_isDefined : Room := { frames := 2, cells := 0, slots := 0, locals := 42 }
abbrev b_Na_sectionOf : ByteArray := prog_7_method_9_code
def y_Na_sectionOf : MethodName := ⟨R_Na, "sectionOf", "(I)I"⟩
abbrev rm_Na_sectionOf : Room := { frames := 2, cells := 0, slots := 0, locals := 42 }
abbrev b_Na_setMeaning : ByteArray := prog_7_method_12_code
def y_Na_setMeaning : MethodName := ⟨R_Na, "setMeaning", "(IIII)V"⟩
abbrev rm_Na_setMeaning : Room := { frames := 0, cells := 0, slots := 0, locals := 0 }
abbrev b_Na_copyMeaning : ByteArray := prog_7_method_11_code
def y_Na_copyMeaning : MethodName := ⟨R_Na, "copyMeaning", "(II)V"⟩
abbrev rm_Na_copyMeaning : Room := { frames := 1, cells := 0, slots := 0, locals := 24 }
abbrev b_Na_giveMeaning : ByteArray := prog_7_method_10_code
def y_Na_giveMeaning : MethodName := ⟨R_Na, "giveMeaning", "(I)V"⟩
abbrev rm_Na_giveMeaning : Room := { frames := 2, cells := 0, slots := 0, locals := 46 }
abbrev b_Na_takeGlobal : ByteArray := prog_7_method_4_code
def y_Na_takeGlobal : MethodName := ⟨R_Na, "takeGlobal", "(II)V"⟩
abbrev rm_Na_takeGlobal : Room := { frames := 0, cells := 0, slots := 0, locals := 0 }
abbrev b_Na_takeWeak : ByteArray := prog_7_method_5_code
def y_Na_takeWeak : MethodName := ⟨R_Na, "takeWeak", "(II)V"⟩
abbrev rm_Na_takeWeak : Room := { frames := 0, cells := 0, slots := 0, locals := 0 }
abbrev b_Na_take : ByteArray := prog_7_method_3_code
def y_Na_take : MethodName := ⟨R_Na, "take", "(I)V"⟩
abbrev rm_Na_take : Room := { frames := 1, cells := 0, slots := 0, locals := 32 }
abbrev b_fill37 : ByteArray := prog_32_method_103_code
def y_fill37 : MethodName := ⟨"java/util/Arrays", "fill", "([II)V"⟩
abbrev rm_fill37 : Room := { frames := 0, cells := 0, slots := 0, locals := 0 }
abbrev b_fill38 : ByteArray := prog_32_method_103_code
def y_fill38 : MethodName := ⟨"java/util/Arrays", "fill", "([II)V"⟩
abbrev rm_fill38 : Room := { frames := 0, cells := 0, slots := 0, locals := 0 }
abbrev b_fill39 : ByteArray := prog_32_method_103_code
def y_fill39 : MethodName := ⟨"java/util/Arrays", "fill", "([II)V"⟩
abbrev rm_fill39 : Room := { frames := 0, cells := 0, slots := 0, locals := 0 }
abbrev b_Na_settle : ByteArray := prog_7_method_2_code
def y_Na_settle : MethodName := ⟨R_Na, "settle", "()V"⟩
abbrev rm_Na_settle : Room := { frames := 3, cells := 0, slots := 0, locals := 68 }
abbrev b_Rc_firstMissing : ByteArray := prog_8_method_6_code
def y_Rc_firstMissing : MethodName := ⟨R_Rc, "firstMissing", "()I"⟩
abbrev rm_Rc_firstMissing : Room := { frames := 0, cells := 0, slots := 0, locals := 0 }
abbrev b_Rc_find : ByteArray := prog_8_method_4_code
def y_Rc_find : MethodName := ⟨R_Rc, "find", "(I)V"⟩
abbrev rm_Rc_find : Room := { frames := 0, cells := 0, slots := 0, locals := 0 }
abbrev b_Rc_forget : ByteArray := prog_8_method_3_code
def y_Rc_forget : MethodName := ⟨R_Rc, "forget", "()V"⟩
abbrev rm_Rc_forget : Room := { frames := 0, cells := 0, slots := 0, locals := 0 }
abbrev b_Re_countOf : ByteArray := prog_9_method_4_code
def y_Re_countOf : MethodName := ⟨R_Re, "countOf", "(I)I"⟩
abbrev rm_Re_countOf : Room := { frames := 0, cells := 0, slots := 0, locals := 0 }
abbrev b_Re_pick : ByteArray := prog_9_method_5_code
def y_Re_pick : MethodName := ⟨R_Re, "pick", "(II)I"⟩
abbrev rm_Re_pick : Room := { frames := 0, cells := 0, slots := 0, locals := 0 }
abbrev b_Rc_spreadFrom : ByteArray := prog_8_method_5_code
def y_Rc_spreadFrom : MethodName := ⟨R_Rc, "spreadFrom", "(I)V"⟩
abbrev rm_Rc_spreadFrom : Room := { frames := 1, cells := 0, slots := 0, locals := 22 }
abbrev b_Rc_spread : ByteArray := prog_8_method_2_code
def y_Rc_spread : MethodName := ⟨R_Rc, "spread", "(I)V"⟩
abbrev rm_Rc_spread : Room := { frames := 2, cells := 0, slots := 0, locals := 45 }
abbrev b_fill33 : ByteArray := prog_32_method_103_code
def y_fill33 : MethodName := ⟨"java/util/Arrays", "fill", "([II)V"⟩
abbrev rm_fill33 : Room := { frames := 0, cells := 0, slots := 0, locals := 0 }
abbrev b_Re_putInOrder : ByteArray := prog_9_method_3_code
def y_Re_putInOrder : MethodName := ⟨R_Re, "putInOrder", "(I)V"⟩
abbrev rm_Re_putInOrder : Room := { frames := 1, cells := 0, slots := 0, locals := 23 }
abbrev b_Ly_fails : ByteArray := prog_1_method_26_code
def y_Ly_fails : MethodName := ⟨R_Ly, "fails", "(III)Z"⟩
abbrev rm_Ly_fails : Room := { frames := 0, cells := 0, slots := 0, locals := 0 }
abbrev b_Ly_linksNames : ByteArray := prog_1_method_24_code
def y_Ly_linksNames : MethodName := ⟨R_Ly, "linksNames", "()Z"⟩
abbrev rm_Ly_linksNames : Room := { frames := 5, cells := 0, slots := 0, locals := 116 }
abbrev b_Fo_isSame : ByteArray := prog_3_method_10_code
def y_Fo_isSame : MethodName := ⟨R_Fo, "isSame", "(II)Z"⟩
abbrev rm_Fo_isSame : Room := { frames := 0, cells := 0, slots := 0, locals := 0 }
abbrev b_Fo_hasSameRelocations : ByteArray := prog_3_method_9_code
def y_Fo_hasSameRelocations : MethodName := ⟨R_Fo, "hasSameRelocations", "(II)Z"⟩
abbrev rm_Fo_hasSameRelocations : Room := { frames := 1, cells := 0, slots := 0, locals := 24 }
abbrev b_Se_read : ByteArray := prog_10_method_7_code
def y_Se_read : MethodName := ⟨R_Se, "read", "(II)I"⟩
abbrev rm_Se_read : Room := { frames := 0, cells := 0, slots := 0, locals := 0 }
abbrev b_Fo_hasSameWords : ByteArray := prog_3_method_8_code
def y_Fo_hasSameWords : MethodName := ⟨R_Fo, "hasSameWords", "(II)Z"⟩
abbrev rm_Fo_hasSameWords : Room := { frames := 1, cells := 0, slots := 0, locals := 22 }
abbrev b_Fo_looksSame : ByteArray := prog_3_method_7_code
def y_Fo_looksSame : MethodName := ⟨R_Fo, "looksSame", "(II)Z"⟩
abbrev rm_Fo_looksSame : Room := { frames := 2, cells := 0, slots := 0, locals := 47 }
abbrev b_Fo_mayFold : ByteArray := prog_3_method_5_code
def y_Fo_mayFold : MethodName := ⟨R_Fo, "mayFold", "(I)Z"⟩
abbrev rm_Fo_mayFold : Room := { frames := 0, cells := 0, slots := 0, locals := 0 }
abbrev b_Fo_firstOfSameLook : ByteArray := prog_3_method_6_code
def y_Fo_firstOfSameLook : MethodName := ⟨R_Fo, "firstOfSameLook", "(I)I"⟩
abbrev rm_Fo_firstOfSameLook : Room := { frames := 3, cells := 0, slots := 0, locals := 69 }
abbrev b_Fo_leaderOfMeant : ByteArray := prog_3_method_14_code
def y_Fo_leaderOfMeant : MethodName := ⟨R_Fo, "leaderOfMeant", "(I)I"⟩
abbrev rm_Fo_leaderOfMeant : Room := { frames := 0, cells := 0, slots := 0, locals := 0 }
abbrev b_Fo_hasSameTargets : ByteArray := prog_3_method_13_code
def y_Fo_hasSameTargets : MethodName := ⟨R_Fo, "hasSameTargets", "(II)Z"⟩
abbrev rm_Fo_hasSameTargets : Room := { frames := 1, cells := 0, slots := 0, locals := 22 }
abbrev b_Fo_firstOfSameTargets : ByteArray := prog_3_method_12_code
def y_Fo_firstOfSameTargets : MethodName := ⟨R_Fo, "firstOfSameTargets", "(I)I"⟩
abbrev rm_Fo_firstOfSameTargets : Room := { frames := 2, cells := 0, slots := 0, locals := 47 }
abbrev b_Fo_split : ByteArray := prog_3_method_11_code
def y_Fo_split : MethodName := ⟨R_Fo, "split", "()Z"⟩
abbrev rm_Fo_split : Room := { frames := 3, cells := 0, slots := 0, locals := 69 }
abbrev b_Fo_settle : ByteArray := prog_3_method_2_code
def y_Fo_settle : MethodName := ⟨R_Fo, "settle", "(Z)V"⟩
abbrev rm_Fo_settle : Room := { frames := 4, cells := 0, slots := 0, locals := 91 }
abbrev b_Is_placeOf : ByteArray := prog_4_method_9_code
def y_Is_placeOf : MethodName := ⟨R_Is, "placeOf", "(I)I"⟩
abbrev rm_Is_placeOf : Room := { frames := 0, cells := 0, slots := 0, locals := 0 }
abbrev b_Is_isNear : ByteArray := prog_4_method_11_code
def y_Is_isNear : MethodName := ⟨R_Is, "isNear", "(II)Z"⟩
abbrev rm_Is_isNear : Room := { frames := 1, cells := 0, slots := 0, locals := 21 }
abbrev b_Fo_isFolded : ByteArray := prog_3_method_3_code
def y_Fo_isFolded : MethodName := ⟨R_Fo, "isFolded", "(I)Z"⟩
abbrev rm_Fo_isFolded : Room := { frames := 0, cells := 0, slots := 0, locals := 0 }
abbrev b_La_isStanding : ByteArray := prog_5_method_6_code
def y_La_isStanding : MethodName := ⟨R_La, "isStanding", "(I)Z"⟩
abbrev rm_La_isStanding : Room := { frames := 1, cells := 0, slots := 0, locals := 21 }
abbrev b_Is_mayGo : ByteArray := prog_4_method_4_code
def y_Is_mayGo : MethodName := ⟨R_Is, "mayGo", "(I)Z"⟩
abbrev rm_Is_mayGo : Room := { frames := 2, cells := 0, slots := 0, locals := 42 }
abbrev b_La_startOf : ByteArray := prog_5_method_9_code
def y_La_startOf : MethodName := ⟨R_La, "startOf", "(II)I"⟩
abbrev rm_La_startOf : Room := { frames := 0, cells := 0, slots := 0, locals := 0 }
abbrev b_La_addressOf : ByteArray := prog_5_method_8_code
def y_La_addressOf : MethodName := ⟨R_La, "addressOf", "(I)I"⟩
abbrev rm_La_addressOf : Room := { frames := 1, cells := 0, slots := 0, locals := 22 }
abbrev b_Is_targetOf : ByteArray := prog_4_method_8_code
def y_Is_targetOf : MethodName := ⟨R_Is, "targetOf", "(I)I"⟩
abbrev rm_Is_targetOf : Room := { frames := 2, cells := 0, slots := 0, locals := 43 }
abbrev b_Is_firstStranded : ByteArray := prog_4_method_3_code
def y_Is_firstStranded : MethodName := ⟨R_Is, "firstStranded", "()I"⟩
abbrev rm_Is_firstStranded : Room := { frames := 3, cells := 0, slots := 0, locals := 64 }
abbrev b_Is_find : ByteArray := prog_4_method_6_code
def y_Is_find : MethodName := ⟨R_Is, "find", "(I)I"⟩
abbrev rm_Is_find : Room := { frames := 1, cells := 0, slots := 0, locals := 22 }
abbrev b_Is_raise : ByteArray := prog_4_method_7_code
def y_Is_raise : MethodName := ⟨R_Is, "raise", "(I)V"⟩
abbrev rm_Is_raise : Room := { frames := 1, cells := 0, slots := 0, locals := 22 }
abbrev b_Is_send : ByteArray := prog_4_method_5_code
def y_Is_send : MethodName := ⟨R_Is, "send", "(I)Z"⟩
abbrev rm_Is_send : Room := { frames := 2, cells := 0, slots := 0, locals := 45 }
abbrev b_La_put : ByteArray := prog_5_method_5_code
def y_La_put : MethodName := ⟨R_La, "put", "(II)I"⟩
abbrev rm_La_put : Room := { frames := 0, cells := 0, slots := 0, locals := 0 }
abbrev b_La_laySections : ByteArray := prog_5_method_4_code
def y_La_laySections : MethodName := ⟨R_La, "laySections", "(I)V"⟩
abbrev rm_La_laySections : Room := { frames := 1, cells := 0, slots := 0, locals := 23 }
abbrev b_La_lay : ByteArray := prog_5_method_3_code
def y_La_lay : MethodName := ⟨R_La, "lay", "(I)V"⟩
abbrev rm_La_lay : Room := { frames := 2, cells := 0, slots := 0, locals := 45 }
abbrev b_fill53 : ByteArray := prog_32_method_103_code
def y_fill53 : MethodName := ⟨"java/util/Arrays", "fill", "([II)V"⟩
abbrev rm_fill53 : Room := { frames := 0, cells := 0, slots := 0, locals := 0 }
abbrev b_Is_settle : ByteArray := prog_4_method_2_code
def y_Is_settle : MethodName := ⟨R_Is, "settle", "()Z"⟩
abbrev rm_Is_settle : Room := { frames := 4, cells := 0, slots := 0, locals := 86 }
abbrev b_fill48 : ByteArray := prog_32_method_103_code
def y_fill48 : MethodName := ⟨"java/util/Arrays", "fill", "([II)V"⟩
abbrev rm_fill48 : Room := { frames := 0, cells := 0, slots := 0, locals := 0 }
abbrev b_fill49 : ByteArray := prog_32_method_103_code
def y_fill49 : MethodName := ⟨"java/util/Arrays", "fill", "([II)V"⟩
abbrev rm_fill49 : Room := { frames := 0, cells := 0, slots := 0, locals := 0 }
abbrev b_La_begin : ByteArray := prog_5_method_2_code
def y_La_begin : MethodName := ⟨R_La, "begin", "(I)V"⟩
abbrev rm_La_begin : Room := { frames := 1, cells := 0, slots := 0, locals := 23 }
abbrev b_Is_goalOf : ByteArray := prog_4_method_10_code
def y_Is_goalOf : MethodName := ⟨R_Is, "goalOf", "(II)I"⟩
abbrev rm_Is_goalOf : Room := { frames := 0, cells := 0, slots := 0, locals := 0 }
abbrev b_Me_isMended : ByteArray := prog_6_method_4_code
def y_Me_isMended : MethodName := ⟨R_Me, "isMended", "(II)Z"⟩
abbrev rm_Me_isMended : Room := { frames := 2, cells := 0, slots := 0, locals := 42 }
abbrev b_Me_firstFar : ByteArray := prog_6_method_2_code
def y_Me_firstFar : MethodName := ⟨R_Me, "firstFar", "()I"⟩
abbrev rm_Me_firstFar : Room := { frames := 3, cells := 0, slots := 0, locals := 64 }
abbrev b_Me_firstMisplacedJump : ByteArray := prog_6_method_3_code
def y_Me_firstMisplacedJump : MethodName := ⟨R_Me, "firstMisplacedJump", "()I"⟩
abbrev rm_Me_firstMisplacedJump : Room := { frames := 3, cells := 0, slots := 0, locals := 64 }
abbrev b_Ly_linksPlaces : ByteArray := prog_1_method_25_code
def y_Ly_linksPlaces : MethodName := ⟨R_Ly, "linksPlaces", "(I)Z"⟩
abbrev rm_Ly_linksPlaces : Room := { frames := 5, cells := 0, slots := 0, locals := 113 }
abbrev b_Ly_isName : ByteArray := prog_1_method_27_code
def y_Ly_isName : MethodName := ⟨R_Ly, "isName", "(I)Z"⟩
abbrev rm_Ly_isName : Room := { frames := 0, cells := 0, slots := 0, locals := 0 }
abbrev b_Ly_isSize : ByteArray := prog_1_method_28_code
def y_Ly_isSize : MethodName := ⟨R_Ly, "isSize", "(II)Z"⟩
abbrev rm_Ly_isSize : Room := { frames := 0, cells := 0, slots := 0, locals := 0 }
abbrev b_bitCount : ByteArray := prog_22_method_49_code
def y_bitCount : MethodName := ⟨"java/lang/Integer", "bitCount", "(I)I"⟩
abbrev rm_bitCount : Room := { frames := 0, cells := 0, slots := 0, locals := 0 }
abbrev b_Ly_isAlignment : ByteArray := prog_1_method_29_code
def y_Ly_isAlignment : MethodName := ⟨R_Ly, "isAlignment", "(I)Z"⟩
abbrev rm_Ly_isAlignment : Room := { frames := 1, cells := 0, slots := 0, locals := 20 }
abbrev b_Ly_isOther : ByteArray := prog_1_method_30_code
def y_Ly_isOther : MethodName := ⟨R_Ly, "isOther", "(III)Z"⟩
abbrev rm_Ly_isOther : Room := { frames := 1, cells := 0, slots := 0, locals := 21 }
abbrev b_Ly_formOfOther : ByteArray := prog_1_method_31_code
def y_Ly_formOfOther : MethodName := ⟨R_Ly, "formOfOther", "(I)I"⟩
abbrev rm_Ly_formOfOther : Room := { frames := 0, cells := 0, slots := 0, locals := 0 }
abbrev b_Un_has : ByteArray := prog_12_method_2_code
def y_Un_has : MethodName := ⟨R_Un, "has", "(I)Z"⟩
abbrev rm_Un_has : Room := { frames := 0, cells := 0, slots := 0, locals := 0 }
abbrev b_Un_add : ByteArray := prog_12_method_3_code
def y_Un_add : MethodName := ⟨R_Un, "add", "(I)I"⟩
abbrev rm_Un_add : Room := { frames := 0, cells := 0, slots := 0, locals := 0 }
abbrev b_Un_countIn : ByteArray := prog_12_method_4_code
def y_Un_countIn : MethodName := ⟨R_Un, "countIn", "()I"⟩
abbrev rm_Un_countIn : Room := { frames := 0, cells := 0, slots := 0, locals := 0 }
abbrev b_Se_has : ByteArray := prog_10_method_2_code
def y_Se_has : MethodName := ⟨R_Se, "has", "(I)Z"⟩
abbrev rm_Se_has : Room := { frames := 0, cells := 0, slots := 0, locals := 0 }
abbrev b_Se_hasWord : ByteArray := prog_10_method_3_code
def y_Se_hasWord : MethodName := ⟨R_Se, "hasWord", "(II)Z"⟩
abbrev rm_Se_hasWord : Room := { frames := 1, cells := 0, slots := 0, locals := 21 }
abbrev b_Se_roomier : ByteArray := prog_10_method_6_code
def y_Se_roomier : MethodName := ⟨R_Se, "roomier", "(I)I"⟩
abbrev rm_Se_roomier : Room := { frames := 1, cells := 0, slots := 0, locals := 32 }
abbrev b_Se_write : ByteArray := prog_10_method_8_code
def y_Se_write : MethodName := ⟨R_Se, "write", "(III)V"⟩
abbrev rm_Se_write : Room := { frames := 0, cells := 0, slots := 0, locals := 0 }
abbrev b_Sy_has : ByteArray := prog_11_method_2_code
def y_Sy_has : MethodName := ⟨R_Sy, "has", "(I)Z"⟩
abbrev rm_Sy_has : Room := { frames := 0, cells := 0, slots := 0, locals := 0 }
abbrev b_Sy_clashes : ByteArray := prog_11_method_3_code
def y_Sy_clashes : MethodName := ⟨R_Sy, "clashes", "(III)Z"⟩
abbrev rm_Sy_clashes : Room := { frames := 0, cells := 0, slots := 0, locals := 0 }
abbrev b_Sy_add : ByteArray := prog_11_method_4_code
def y_Sy_add : MethodName := ⟨R_Sy, "add", "(III)I"⟩
abbrev rm_Sy_add : Room := { frames := 0, cells := 0, slots := 0, locals := 0 }
abbrev b_Sy_define : ByteArray := prog_11_method_5_code
def y_Sy_define : MethodName := ⟨R_Sy, "define", "(IIII)V"⟩
abbrev rm_Sy_define : Room := { frames := 0, cells := 0, slots := 0, locals := 0 }
abbrev b_Re_add : ByteArray := prog_9_method_2_code
def y_Re_add : MethodName := ⟨R_Re, "add", "(IIIII)I"⟩
abbrev rm_Re_add : Room := { frames := 0, cells := 0, slots := 0, locals := 0 }
abbrev b_Fo_countFolded : ByteArray := prog_3_method_4_code
def y_Fo_countFolded : MethodName := ⟨R_Fo, "countFolded", "()I"⟩
abbrev rm_Fo_countFolded : Room := { frames := 1, cells := 0, slots := 0, locals := 21 }
abbrev b_La_isLaid : ByteArray := prog_5_method_7_code
def y_La_isLaid : MethodName := ⟨R_La, "isLaid", "(I)Z"⟩
abbrev rm_La_isLaid : Room := { frames := 0, cells := 0, slots := 0, locals := 0 }
abbrev b_La_sectionAt : ByteArray := prog_5_method_10_code
def y_La_sectionAt : MethodName := ⟨R_La, "sectionAt", "(I)I"⟩
abbrev rm_La_sectionAt : Room := { frames := 2, cells := 0, slots := 0, locals := 42 }
abbrev b_Is_covers : ByteArray := prog_4_method_12_code
def y_Is_covers : MethodName := ⟨R_Is, "covers", "(I)Z"⟩
abbrev rm_Is_covers : Room := { frames := 0, cells := 0, slots := 0, locals := 0 }
abbrev b_Is_read : ByteArray := prog_4_method_13_code
def y_Is_read : MethodName := ⟨R_Is, "read", "(I)I"⟩
abbrev rm_Is_read : Room := { frames := 1, cells := 0, slots := 0, locals := 22 }
abbrev b_Me_withLowerHalf : ByteArray := prog_6_method_9_code
def y_Me_withLowerHalf : MethodName := ⟨R_Me, "withLowerHalf", "(II)I"⟩
abbrev rm_Me_withLowerHalf : Room := { frames := 0, cells := 0, slots := 0, locals := 0 }
abbrev b_Me_wordsBetween : ByteArray := prog_6_method_8_code
def y_Me_wordsBetween : MethodName := ⟨R_Me, "wordsBetween", "(II)I"⟩
abbrev rm_Me_wordsBetween : Room := { frames := 0, cells := 0, slots := 0, locals := 0 }
abbrev b_Me_mend : ByteArray := prog_6_method_7_code
def y_Me_mend : MethodName := ⟨R_Me, "mend", "(II)I"⟩
abbrev rm_Me_mend : Room := { frames := 3, cells := 0, slots := 0, locals := 64 }
abbrev b_Me_mended : ByteArray := prog_6_method_6_code
def y_Me_mended : MethodName := ⟨R_Me, "mended", "(II)I"⟩
abbrev rm_Me_mended : Room := { frames := 4, cells := 0, slots := 0, locals := 88 }
abbrev b_Me_read : ByteArray := prog_6_method_5_code
def y_Me_read : MethodName := ⟨R_Me, "read", "(I)I"⟩
abbrev rm_Me_read : Room := { frames := 5, cells := 0, slots := 0, locals := 113 }
abbrev b_Mo_thrown : ByteArray := prog_14_method_2_code
def y_Mo_thrown : MethodName := ⟨R_Mo, "thrown", "()I"⟩
abbrev rm_Mo_thrown : Room := { frames := 0, cells := 0, slots := 0, locals := 0 }
abbrev b_Mo_refuse : ByteArray := prog_14_method_3_code
def y_Mo_refuse : MethodName := ⟨R_Mo, "refuse", "(ZZ)Z"⟩
abbrev rm_Mo_refuse : Room := { frames := 0, cells := 0, slots := 0, locals := 0 }
abbrev b_Mo_within : ByteArray := prog_14_method_4_code
def y_Mo_within : MethodName := ⟨R_Mo, "within", "(III)Z"⟩
abbrev rm_Mo_within : Room := { frames := 0, cells := 0, slots := 0, locals := 0 }
abbrev b_Mo_told : ByteArray := prog_14_method_5_code
def y_Mo_told : MethodName := ⟨R_Mo, "told", "()V"⟩
abbrev rm_Mo_told : Room := { frames := 0, cells := 0, slots := 0, locals := 0 }
abbrev b_Mo_unit : ByteArray := prog_14_method_6_code
def y_Mo_unit : MethodName := ⟨R_Mo, "unit", "(I)I"⟩
abbrev rm_Mo_unit : Room := { frames := 1, cells := 0, slots := 0, locals := 22 }
abbrev b_Mo_isAlignment : ByteArray := prog_14_method_7_code
def y_Mo_isAlignment : MethodName := ⟨R_Mo, "isAlignment", "(I)Z"⟩
abbrev rm_Mo_isAlignment : Room := { frames := 1, cells := 0, slots := 0, locals := 22 }
abbrev b_Mo_section : ByteArray := prog_14_method_8_code
def y_Mo_section : MethodName := ⟨R_Mo, "section", "(IIII)I"⟩
abbrev rm_Mo_section : Room := { frames := 2, cells := 0, slots := 0, locals := 42 }
abbrev b_Mo_isPlace : ByteArray := prog_14_method_9_code
def y_Mo_isPlace : MethodName := ⟨R_Mo, "isPlace", "(II)Z"⟩
abbrev rm_Mo_isPlace : Room := { frames := 1, cells := 0, slots := 0, locals := 22 }
abbrev b_Mo_word : ByteArray := prog_14_method_10_code
def y_Mo_word : MethodName := ⟨R_Mo, "word", "(III)V"⟩
abbrev rm_Mo_word : Room := { frames := 2, cells := 0, slots := 0, locals := 44 }
abbrev b_Mo_hasName : ByteArray := prog_14_method_11_code
def y_Mo_hasName : MethodName := ⟨R_Mo, "hasName", "(III)Z"⟩
abbrev rm_Mo_hasName : Room := { frames := 0, cells := 0, slots := 0, locals := 0 }
abbrev b_Mo_newSymbol : ByteArray := prog_14_method_12_code
def y_Mo_newSymbol : MethodName := ⟨R_Mo, "newSymbol", "(IIIIII)I"⟩
abbrev rm_Mo_newSymbol : Room := { frames := 1, cells := 0, slots := 0, locals := 20 }
abbrev b_Mo_symbol : ByteArray := prog_14_method_13_code
def y_Mo_symbol : MethodName := ⟨R_Mo, "symbol", "(IIII)I"⟩
abbrev rm_Mo_symbol : Room := { frames := 2, cells := 0, slots := 0, locals := 46 }
abbrev b_Mo_other : ByteArray := prog_14_method_14_code
def y_Mo_other : MethodName := ⟨R_Mo, "other", "(IIIII)I"⟩
abbrev rm_Mo_other : Room := { frames := 2, cells := 0, slots := 0, locals := 46 }
abbrev b_Mo_relocation : ByteArray := prog_14_method_15_code
def y_Mo_relocation : MethodName := ⟨R_Mo, "relocation", "(IIIII)I"⟩
abbrev rm_Mo_relocation : Room := { frames := 2, cells := 0, slots := 0, locals := 44 }
abbrev b_Mo_entry : ByteArray := prog_14_method_16_code
def y_Mo_entry : MethodName := ⟨R_Mo, "entry", "(I)V"⟩
abbrev rm_Mo_entry : Room := { frames := 1, cells := 0, slots := 0, locals := 22 }
abbrev b_Mo_keep : ByteArray := prog_14_method_17_code
def y_Mo_keep : MethodName := ⟨R_Mo, "keep", "(IZ)V"⟩
abbrev rm_Mo_keep : Room := { frames := 1, cells := 0, slots := 0, locals := 22 }
abbrev b_Mo_fold : ByteArray := prog_14_method_18_code
def y_Mo_fold : MethodName := ⟨R_Mo, "fold", "(ZZ)V"⟩
abbrev rm_Mo_fold : Room := { frames := 1, cells := 0, slots := 0, locals := 20 }
abbrev b_Mo_clear : ByteArray := prog_14_method_19_code
def y_Mo_clear : MethodName := ⟨R_Mo, "clear", "()V"⟩
abbrev rm_Mo_clear : Room := { frames := 1, cells := 0, slots := 0, locals := 20 }
abbrev b_Mo_fail : ByteArray := prog_14_method_20_code
def y_Mo_fail : MethodName := ⟨R_Mo, "fail", "(III)Z"⟩
abbrev rm_Mo_fail : Room := { frames := 0, cells := 0, slots := 0, locals := 0 }
abbrev b_Mo_isGiven : ByteArray := prog_14_method_21_code
def y_Mo_isGiven : MethodName := ⟨R_Mo, "isGiven", "(I)Z"⟩
abbrev rm_Mo_isGiven : Room := { frames := 0, cells := 0, slots := 0, locals := 0 }
abbrev b_Mo_isNeeded : ByteArray := prog_14_method_22_code
def y_Mo_isNeeded : MethodName := ⟨R_Mo, "isNeeded", "(I)Z"⟩
abbrev rm_Mo_isNeeded : Room := { frames := 1, cells := 0, slots := 0, locals := 23 }
abbrev b_Mo_helps : ByteArray := prog_14_method_23_code
def y_Mo_helps : MethodName := ⟨R_Mo, "helps", "(I)Z"⟩
abbrev rm_Mo_helps : Room := { frames := 2, cells := 0, slots := 0, locals := 46 }
abbrev b_Mo_bring : ByteArray := prog_14_method_24_code
def y_Mo_bring : MethodName := ⟨R_Mo, "bring", "(I)Z"⟩
abbrev rm_Mo_bring : Room := { frames := 3, cells := 0, slots := 0, locals := 70 }
abbrev b_Mo_findIn : ByteArray := prog_14_method_25_code
def y_Mo_findIn : MethodName := ⟨R_Mo, "findIn", "()V"⟩
abbrev rm_Mo_findIn : Room := { frames := 4, cells := 0, slots := 0, locals := 95 }
abbrev b_Mo_define : ByteArray := prog_14_method_26_code
def y_Mo_define : MethodName := ⟨R_Mo, "define", "()Z"⟩
abbrev rm_Mo_define : Room := { frames := 1, cells := 0, slots := 0, locals := 23 }
abbrev b_Mo_itself : ByteArray := prog_14_method_27_code
def y_Mo_itself : MethodName := ⟨R_Mo, "itself", "(I)I"⟩
abbrev rm_Mo_itself : Room := { frames := 0, cells := 0, slots := 0, locals := 0 }
abbrev b_Mo_isCommon : ByteArray := prog_14_method_28_code
def y_Mo_isCommon : MethodName := ⟨R_Mo, "isCommon", "(I)Z"⟩
abbrev rm_Mo_isCommon : Room := { frames := 0, cells := 0, slots := 0, locals := 0 }
abbrev b_Mo_sortOf : ByteArray := prog_14_method_29_code
def y_Mo_sortOf : MethodName := ⟨R_Mo, "sortOf", "(I)I"⟩
abbrev rm_Mo_sortOf : Room := { frames := 1, cells := 0, slots := 0, locals := 21 }
abbrev b_Mo_numberOf : ByteArray := prog_14_method_30_code
def y_Mo_numberOf : MethodName := ⟨R_Mo, "numberOf", "(I)I"⟩
abbrev rm_Mo_numberOf : Room := { frames := 1, cells := 0, slots := 0, locals := 21 }
abbrev b_Mo_sectionOf : ByteArray := prog_14_method_31_code
def y_Mo_sectionOf : MethodName := ⟨R_Mo, "sectionOf", "(I)I"⟩
abbrev rm_Mo_sectionOf : Room := { frames := 2, cells := 0, slots := 0, locals := 43 }
abbrev b_Mo_reachBy : ByteArray := prog_14_method_33_code
def y_Mo_reachBy : MethodName := ⟨R_Mo, "reachBy", "(I)Z"⟩
abbrev rm_Mo_reachBy : Room := { frames := 3, cells := 0, slots := 0, locals := 64 }
abbrev b_Mo_reach : ByteArray := prog_14_method_32_code
def y_Mo_reach : MethodName := ⟨R_Mo, "reach", "()Z"⟩
abbrev rm_Mo_reach : Room := { frames := 4, cells := 0, slots := 0, locals := 88 }
abbrev b_Mo_mayFold : ByteArray := prog_14_method_34_code
def y_Mo_mayFold : MethodName := ⟨R_Mo, "mayFold", "(I)Z"⟩
abbrev rm_Mo_mayFold : Room := { frames := 0, cells := 0, slots := 0, locals := 0 }
abbrev b_Mo_haveLikeWords : ByteArray := prog_14_method_35_code
def y_Mo_haveLikeWords : MethodName := ⟨R_Mo, "haveLikeWords", "(II)Z"⟩
abbrev rm_Mo_haveLikeWords : Room := { frames := 0, cells := 0, slots := 0, locals := 0 }
abbrev b_Mo_nextOf : ByteArray := prog_14_method_36_code
def y_Mo_nextOf : MethodName := ⟨R_Mo, "nextOf", "(II)I"⟩
abbrev rm_Mo_nextOf : Room := { frames := 0, cells := 0, slots := 0, locals := 0 }
abbrev b_Mo_meanLike : ByteArray := prog_14_method_37_code
def y_Mo_meanLike : MethodName := ⟨R_Mo, "meanLike", "(II)Z"⟩
abbrev rm_Mo_meanLike : Room := { frames := 3, cells := 0, slots := 0, locals := 64 }
abbrev b_Mo_haveLikeRelocations : ByteArray := prog_14_method_38_code
def y_Mo_haveLikeRelocations : MethodName := ⟨R_Mo, "haveLikeRelocations", "(II)Z"⟩
abbrev rm_Mo_haveLikeRelocations : Room := { frames := 4, cells := 0, slots := 0, locals := 88 }
abbrev b_Mo_findLike : ByteArray := prog_14_method_39_code
def y_Mo_findLike : MethodName := ⟨R_Mo, "findLike", "()V"⟩
abbrev rm_Mo_findLike : Room := { frames := 5, cells := 0, slots := 0, locals := 112 }
abbrev b_Mo_stays : ByteArray := prog_14_method_40_code
def y_Mo_stays : MethodName := ⟨R_Mo, "stays", "(I)Z"⟩
abbrev rm_Mo_stays : Room := { frames := 0, cells := 0, slots := 0, locals := 0 }
abbrev b_Mo_up : ByteArray := prog_14_method_41_code
def y_Mo_up : MethodName := ⟨R_Mo, "up", "(II)I"⟩
abbrev rm_Mo_up : Room := { frames := 0, cells := 0, slots := 0, locals := 0 }
abbrev b_Mo_layKind : ByteArray := prog_14_method_42_code
def y_Mo_layKind : MethodName := ⟨R_Mo, "layKind", "(II)I"⟩
abbrev rm_Mo_layKind : Room := { frames := 1, cells := 0, slots := 0, locals := 21 }
abbrev b_Mo_lay : ByteArray := prog_14_method_43_code
def y_Mo_lay : MethodName := ⟨R_Mo, "lay", "()V"⟩
abbrev rm_Mo_lay : Room := { frames := 2, cells := 0, slots := 0, locals := 45 }
abbrev b_Mo_meaning : ByteArray := prog_14_method_44_code
def y_Mo_meaning : MethodName := ⟨R_Mo, "meaning", "(I)I"⟩
abbrev rm_Mo_meaning : Room := { frames := 3, cells := 0, slots := 0, locals := 64 }
abbrev b_Mo_placeAt : ByteArray := prog_14_method_45_code
def y_Mo_placeAt : MethodName := ⟨R_Mo, "placeAt", "(I)I"⟩
abbrev rm_Mo_placeAt : Room := { frames := 0, cells := 0, slots := 0, locals := 0 }
abbrev b_Mo_isNear : ByteArray := prog_14_method_46_code
def y_Mo_isNear : MethodName := ⟨R_Mo, "isNear", "(J)Z"⟩
abbrev rm_Mo_isNear : Room := { frames := 0, cells := 0, slots := 0, locals := 0 }
abbrev b_Mo_isNearTarget : ByteArray := prog_14_method_47_code
def y_Mo_isNearTarget : MethodName := ⟨R_Mo, "isNearTarget", "(I)Z"⟩
abbrev rm_Mo_isNearTarget : Room := { frames := 4, cells := 0, slots := 0, locals := 86 }
abbrev b_Mo_islandAt : ByteArray := prog_14_method_48_code
def y_Mo_islandAt : MethodName := ⟨R_Mo, "islandAt", "(I)I"⟩
abbrev rm_Mo_islandAt : Room := { frames := 0, cells := 0, slots := 0, locals := 0 }
abbrev b_Mo_sameTarget : ByteArray := prog_14_method_49_code
def y_Mo_sameTarget : MethodName := ⟨R_Mo, "sameTarget", "(II)Z"⟩
abbrev rm_Mo_sameTarget : Room := { frames := 3, cells := 0, slots := 0, locals := 64 }
abbrev b_Mo_needy : ByteArray := prog_14_method_50_code
def y_Mo_needy : MethodName := ⟨R_Mo, "needy", "()I"⟩
abbrev rm_Mo_needy : Room := { frames := 5, cells := 0, slots := 0, locals := 107 }
abbrev b_Mo_findIslands : ByteArray := prog_14_method_51_code
def y_Mo_findIslands : MethodName := ⟨R_Mo, "findIslands", "()Z"⟩
abbrev rm_Mo_findIslands : Room := { frames := 6, cells := 0, slots := 0, locals := 130 }
abbrev b_Mo_checkFar : ByteArray := prog_14_method_52_code
def y_Mo_checkFar : MethodName := ⟨R_Mo, "checkFar", "()Z"⟩
abbrev rm_Mo_checkFar : Room := { frames := 5, cells := 0, slots := 0, locals := 107 }
abbrev b_Mo_mendOne : ByteArray := prog_14_method_54_code
def y_Mo_mendOne : MethodName := ⟨R_Mo, "mendOne", "(I)Z"⟩
abbrev rm_Mo_mendOne : Room := { frames := 4, cells := 0, slots := 0, locals := 86 }
abbrev b_Mo_mend : ByteArray := prog_14_method_53_code
def y_Mo_mend : MethodName := ⟨R_Mo, "mend", "()Z"⟩
abbrev rm_Mo_mend : Room := { frames := 5, cells := 0, slots := 0, locals := 111 }
abbrev b_Mo_link : ByteArray := prog_14_method_55_code
def y_Mo_link : MethodName := ⟨R_Mo, "link", "(I)I"⟩
abbrev rm_Mo_link : Room := { frames := 7, cells := 0, slots := 0, locals := 152 }
abbrev b_Mo_fault : ByteArray := prog_14_method_56_code
def y_Mo_fault : MethodName := ⟨R_Mo, "fault", "(I)I"⟩
abbrev rm_Mo_fault : Room := { frames := 1, cells := 0, slots := 0, locals := 22 }
abbrev b_Mo_isIn : ByteArray := prog_14_method_57_code
def y_Mo_isIn : MethodName := ⟨R_Mo, "isIn", "(I)Z"⟩
abbrev rm_Mo_isIn : Room := { frames := 1, cells := 0, slots := 0, locals := 22 }
abbrev b_Mo_address : ByteArray := prog_14_method_58_code
def y_Mo_address : MethodName := ⟨R_Mo, "address", "(I)I"⟩
abbrev rm_Mo_address : Room := { frames := 1, cells := 0, slots := 0, locals := 22 }
abbrev b_Mo_like : ByteArray := prog_14_method_59_code
def y_Mo_like : MethodName := ⟨R_Mo, "like", "(I)I"⟩
abbrev rm_Mo_like : Room := { frames := 1, cells := 0, slots := 0, locals := 22 }
abbrev b_Mo_means : ByteArray := prog_14_method_60_code
def y_Mo_means : MethodName := ⟨R_Mo, "means", "(II)I"⟩
abbrev rm_Mo_means : Room := { frames := 4, cells := 0, slots := 0, locals := 86 }
abbrev b_Mo_common : ByteArray := prog_14_method_61_code
def y_Mo_common : MethodName := ⟨R_Mo, "common", "(I)I"⟩
abbrev rm_Mo_common : Room := { frames := 1, cells := 0, slots := 0, locals := 22 }
abbrev b_Mo_at : ByteArray := prog_14_method_62_code
def y_Mo_at : MethodName := ⟨R_Mo, "at", "(I)I"⟩
abbrev rm_Mo_at : Room := { frames := 4, cells := 0, slots := 0, locals := 86 }
abbrev b_Mo_about : ByteArray := prog_14_method_63_code
def y_Mo_about : MethodName := ⟨R_Mo, "about", "(I)I"⟩
abbrev rm_Mo_about : Room := { frames := 1, cells := 0, slots := 0, locals := 22 }
end
section
def f_Ly_takeLinkAway (V : Sto) : RT :=
  nm (sw V 0 14 0) fun V1 =>
  nm (sw V1 0 15 0) fun V2 =>
  nm (sw V2 0 16 (-1)) fun V3 =>
  nm (sw V3 0 17 (-1)) fun V4 =>
  some (0, V4)
def f_Ly_fold (V : Sto) (p1 : Int32) (p2 : Int32) : RT :=
  cl (f_Ly_takeLinkAway V) fun r1 V1 =>
  ck (bb p1) <| nm (sw V1 0 12 p1) fun V2 =>
  ck (bb p2) <| nm (sw V2 0 13 p2) fun V3 =>
  some (0, V3)
def f_Se_forget (V : Sto) : RT :=
  nm (sw V 2 0 0) fun V1 =>
  nm (sw V1 2 1 0) fun V2 =>
  nm (sw V2 2 2 0) fun V3 =>
  some (0, V3)
def f_Ly_clear (V : Sto) : RT :=
  cl (f_Ly_takeLinkAway V) fun r1 V1 =>
  nm (sw V1 1 0 0) fun V2 =>
  cl (f_Se_forget V2) fun r2 V3 =>
  nm (sw V3 3 0 0) fun V4 =>
  nm (sw V4 4 0 0) fun V5 =>
  nm (sw V5 0 11 (-1)) fun V6 =>
  nm (sw V6 0 12 0) fun V7 =>
  nm (sw V7 0 13 0) fun V8 =>
  some (0, V8)
def f_Sy_asksForName (V : Sto) (p1 : Int32) : RT :=
  ck (ib p1 400) <|
  if (V 23 p1.toNatClampNeg) = 1 then
    ck (ib p1 400) <|
    if (V 24 p1.toNatClampNeg) = 0 then
      some (1, V)
    else
    some (0, V)
  else
  some (0, V)
def f_Sy_givesName (V : Sto) (p1 : Int32) : RT :=
  ck (ib p1 400) <|
  if (V 23 p1.toNatClampNeg) = 0 then
    some (0, V)
  else
  ck (ib p1 400) <|
  if (V 24 p1.toNatClampNeg) = 0 then
    some (0, V)
  else
  some (1, V)
def f_Ar_note (V : Sto) (p1 : Int32) : RT :=
  cl (f_Sy_asksForName V p1) fun r1 V1 =>
  jn (fun (V3 : Sto) =>
      cl (f_Sy_givesName V3 p1) fun r2 V4 =>
      if r2 = 0 then
        some (0, V4)
      else
      ck (ib p1 400) <|
      ck (ib (V4 22 p1.toNatClampNeg) 200) <| nm (sw V4 36 (V4 22 p1.toNatClampNeg).toNatClampNeg 1) fun V5 =>
      some (0, V5)) fun j1 =>
  if r1 = 0 then
    j1 V1
  else
  ck (ib p1 400) <|
  ck (ib (V1 22 p1.toNatClampNeg) 200) <| nm (sw V1 35 (V1 22 p1.toNatClampNeg).toNatClampNeg 1) fun V2 =>
  j1 V2
def lp_Ar_admit_12 (x1 : Int32) (k47 : Sto → RT) : Nat → Int32 → Sto → RT
  | 0, _, _ => none
  | n + 1, x2, V =>
    if (V 3 0) ≤ x2 then
      k47 V
    else
    ck (ib x2 400) <|
    if (V 21 x2.toNatClampNeg) = x1 then
      cl (f_Ar_note V x2) fun r1 V2 =>
      lp_Ar_admit_12 x1 k47 n (x2 + 1) V2
    else
    lp_Ar_admit_12 x1 k47 n (x2 + 1) V
def f_Ar_admit (V : Sto) (p1 : Int32) : RT :=
  ck (ib p1 24) <| nm (sw V 13 p1.toNatClampNeg 1) fun V1 =>
  lp_Ar_admit_12 p1
    (fun V3 =>
      some (0, V3)) FU 0 V1
def lp_Ar_begin_2 (x1 : Int32) (k38 : Sto → RT) : Nat → Int32 → Sto → RT
  | 0, _, _ => none
  | n + 1, x2, V =>
    if 200 ≤ x2 then
      k38 V
    else
    if x2 = x1 then
      ck (ib x2 200) <| nm (sw V 35 x2.toNatClampNeg 1) fun V3 =>
      ck (ib x2 200) <| nm (sw V3 36 x2.toNatClampNeg 0) fun V4 =>
      lp_Ar_begin_2 x1 k38 n (x2 + 1) V4
    else
    ck (ib x2 200) <| nm (sw V 35 x2.toNatClampNeg 0) fun V1 =>
    ck (ib x2 200) <| nm (sw V1 36 x2.toNatClampNeg 0) fun V2 =>
    lp_Ar_begin_2 x1 k38 n (x2 + 1) V2
def lp_Ar_begin_40 (k67 : Sto → RT) : Nat → Int32 → Sto → RT
  | 0, _, _ => none
  | n + 1, x2, V =>
    if (V 1 0) ≤ x2 then
      k67 V
    else
    ck (ib x2 24) <| nm (sw V 13 x2.toNatClampNeg 0) fun V6 =>
    lp_Ar_begin_40 k67 n (x2 + 1) V6
def lp_Ar_begin_69 (k104 : Sto → RT) : Nat → Int32 → Sto → RT
  | 0, _, _ => none
  | n + 1, x2, V =>
    if (V 1 0) ≤ x2 then
      k104 V
    else
    ck (ib x2 24) <|
    if (V 12 x2.toNatClampNeg) = (-1) then
      cl (f_Ar_admit V x2) fun r1 V8 =>
      lp_Ar_begin_69 k104 n (x2 + 1) V8
    else
    lp_Ar_begin_69 k104 n (x2 + 1) V
def f_Ar_begin (V : Sto) (p1 : Int32) : RT :=
  lp_Ar_begin_2 p1
    (fun V5 =>
      lp_Ar_begin_40
        (fun V7 =>
          lp_Ar_begin_69
            (fun V9 =>
              some (0, V9)) FU 0 V7) FU 0 V5) FU 0 V
def f_Ar_isNeeded (V : Sto) (p1 : Int32) : RT :=
  ck (ib p1 400) <|
  cl (f_Sy_givesName V p1) fun r1 V1 =>
  if r1 = 0 then
    some (0, V1)
  else
  ck (ib p1 400) <|
  if (V1 23 p1.toNatClampNeg) = 2 then
    some (0, V1)
  else
  ck (ib (V 22 p1.toNatClampNeg) 200) <|
  if (V1 35 (V 22 p1.toNatClampNeg).toNatClampNeg) = 0 then
    some (0, V1)
  else
  ck (ib (V 22 p1.toNatClampNeg) 200) <|
  if (V1 36 (V 22 p1.toNatClampNeg).toNatClampNeg) = 0 then
    some (1, V1)
  else
  some (0, V1)
def lp_Ar_firstNeeded_4 (x1 : Int32) (k93 : Int32 → Sto → RT) : Nat → Int32 → Int32 → Sto → RT
  | 0, _, _, _ => none
  | n + 1, x2, x3, V =>
    if (V 3 0) ≤ x3 then
      k93 x2 V
    else
    ck (ib x3 400) <|
    ck (ib (V 21 x3.toNatClampNeg) 24) <|
    jn (fun (z1 : Int32) =>
        if z1 = 0 then
          lp_Ar_firstNeeded_4 x1 k93 n x2 (x3 + 1) V
        else
        cl (f_Ar_isNeeded V x3) fun r1 V1 =>
        if r1 = 0 then
          lp_Ar_firstNeeded_4 x1 k93 n x2 (x3 + 1) V1
        else
        if x2 = (-1) then
          lp_Ar_firstNeeded_4 x1 k93 n (V 21 x3.toNatClampNeg) (x3 + 1) V1
        else
        if x2 ≤ (V 21 x3.toNatClampNeg) then
          lp_Ar_firstNeeded_4 x1 k93 n x2 (x3 + 1) V1
        else
        lp_Ar_firstNeeded_4 x1 k93 n (V 21 x3.toNatClampNeg) (x3 + 1) V1) fun j1 =>
    if (V 12 (V 21 x3.toNatClampNeg).toNatClampNeg) = x1 then
      ck (ib (V 21 x3.toNatClampNeg) 24) <|
      if (V 13 (V 21 x3.toNatClampNeg).toNatClampNeg) = 0 then
        j1 1
      else
      j1 0
    else
    j1 0
def f_Ar_firstNeeded (V : Sto) (p1 : Int32) : RT :=
  lp_Ar_firstNeeded_4 p1
    (fun y1 V2 =>
      some (y1, V2)) FU (-1) 0 V
def lp_Ar_goThroughArchives_11 (x2 : Int32) (k47 : Int32 → Sto → RT) : Nat → Int32 → Int32 → Sto → RT
  | 0, _, _, _ => none
  | n + 1, x1, x3, V =>
    if 24 ≤ x3 then
      k47 x1 V
    else
    cl (f_Ar_firstNeeded V x2) fun r1 V1 =>
    if r1 = (-1) then
      k47 x1 V1
    else
    cl (f_Ar_admit V1 r1) fun r2 V2 =>
    lp_Ar_goThroughArchives_11 x2 k47 n 1 (x3 + 1) V2
def lp_Ar_goThroughArchives_4 (k53 : Int32 → Sto → RT) : Nat → Int32 → Int32 → Sto → RT
  | 0, _, _, _ => none
  | n + 1, x1, x2, V =>
    if 4 ≤ x2 then
      k53 x1 V
    else
    lp_Ar_goThroughArchives_11 x2
      (fun y1 V3 =>
        lp_Ar_goThroughArchives_4 k53 n y1 (x2 + 1) V3) FU x1 0 V
def f_Ar_goThroughArchives (V : Sto) : RT :=
  lp_Ar_goThroughArchives_4
    (fun y2 V4 =>
      ck (bb y2) <| some (y2, V4)) FU 0 0 V
def lp_Ar_bringIn_19 (x3 : Int32) (k41 : Sto → RT) : Nat → Int32 → Sto → RT
  | 0, _, _ => none
  | n + 1, x4, V =>
    if x3 ≤ x4 then
      k41 V
    else
    cl (f_Ar_goThroughArchives V) fun r2 V2 =>
    if r2 = 0 then
      k41 V2
    else
    lp_Ar_bringIn_19 x3 k41 n (x4 + 1) V2
def f_Ar_bringIn (V : Sto) (p1 : Int32) (p2 : Int32) : RT :=
  cl (f_Ar_begin V p1) fun r1 V1 =>
  jn (fun (z1 : Int32) =>
      lp_Ar_bringIn_19 z1
        (fun V3 =>
          some (0, V3)) FU 0 V1) fun j1 =>
  if p2 = 0 then
    j1 1
  else
  j1 25
def f_Na_isCommon (V : Sto) (p1 : Int32) : RT :=
  ck (ib p1 200) <|
  if (V 37 p1.toNatClampNeg) = (-1) then
    ck (ib p1 200) <|
    if (V 39 p1.toNatClampNeg) ≤ 0 then
      some (0, V)
    else
    some (1, V)
  else
  some (0, V)
def f_Na_definer (V : Sto) (p1 : Int32) : RT :=
  ck (ib p1 200) <|
  if (V 37 p1.toNatClampNeg) = (-1) then
    cl (f_Na_isCommon V p1) fun r1 V1 =>
    if r1 = 0 then
      ck (ib p1 200) <|
      some (V1 38 p1.toNatClampNeg, V1)
    else
    some ((-1), V1)
  else
  ck (ib p1 200) <|
  some (V 37 p1.toNatClampNeg, V)
def f_Na_isDefined (V : Sto) (p1 : Int32) : RT :=
  cl (f_Na_isCommon V p1) fun r1 V1 =>
  if r1 = 0 then
    cl (f_Na_definer V1 p1) fun r2 V2 =>
    if r2 = (-1) then
      some (0, V2)
    else
    some (1, V2)
  else
  some (1, V1)
def f_Na_sectionOf (V : Sto) (p1 : Int32) : RT :=
  cl (f_Na_definer V p1) fun r1 V1 =>
  if r1 = (-1) then
    some ((-1), V1)
  else
  ck (ib r1 400) <|
  some (V1 25 r1.toNatClampNeg, V1)
def f_Na_setMeaning (V : Sto) (p1 : Int32) (p2 : Int32) (p3 : Int32) (p4 : Int32) : RT :=
  ck (ib p1 400) <| nm (sw V 40 p1.toNatClampNeg p2) fun V1 =>
  ck (ib p1 400) <| nm (sw V1 41 p1.toNatClampNeg p3) fun V2 =>
  ck (ib p1 400) <| nm (sw V2 42 p1.toNatClampNeg p4) fun V3 =>
  some (0, V3)
def f_Na_copyMeaning (V : Sto) (p1 : Int32) (p2 : Int32) : RT :=
  ck (ib p2 400) <|
  ck (ib p2 400) <|
  ck (ib p2 400) <|
  cl (f_Na_setMeaning V p1 (V 24 p2.toNatClampNeg) (V 25 p2.toNatClampNeg) (V 26 p2.toNatClampNeg)) fun r1 V1 =>
  some (0, V1)
end
section
theorem ki_0 : Int32.ofInt 0 = 0 := by decide
theorem fl_Ly_243 : FL R_Ly 243 0 14 := ⟨R_Ly, F_Ly, N_Ly, rfl, by decide, i_Ly, (mw 553 (by decide +kernel))⟩
theorem ft_Ly_14 : FT 0 14 .boolean := ⟨R_Ly, F_Ly, N_Ly, rfl, rfl, by decide +kernel⟩
theorem fl_Ly_249 : FL R_Ly 249 0 15 := ⟨R_Ly, F_Ly, N_Ly, rfl, by decide, i_Ly, (mw 554 (by decide +kernel))⟩
theorem ft_Ly_15 : FT 0 15 .int := ⟨R_Ly, F_Ly, N_Ly, rfl, rfl, by decide +kernel⟩
theorem ki_m1 : Int32.ofInt (-1) = (-1) := by decide
theorem fl_Ly_102 : FL R_Ly 102 0 16 := ⟨R_Ly, F_Ly, N_Ly, rfl, by decide, i_Ly, (mw 555 (by decide +kernel))⟩
theorem ft_Ly_16 : FT 0 16 .int := ⟨R_Ly, F_Ly, N_Ly, rfl, rfl, by decide +kernel⟩
theorem fl_Ly_105 : FL R_Ly 105 0 17 := ⟨R_Ly, F_Ly, N_Ly, rfl, by decide, i_Ly, (mw 556 (by decide +kernel))⟩
theorem ft_Ly_17 : FT 0 17 .int := ⟨R_Ly, F_Ly, N_Ly, rfl, rfl, by decide +kernel⟩
theorem ml_Ly_123 : MLb R_Ly 123 y_Ly_takeLinkAway b_Ly_takeLinkAway 1 (none) 0 := ⟨(mw 601 (by decide +kernel)), (mw 598 (by decide +kernel)), (mw 83 (by decide +kernel)), by decide +kernel⟩
theorem mv_Ly_takeLinkAway : MLv y_Ly_takeLinkAway := ⟨(mw 600 (by decide +kernel)), (mw 0 (by decide +kernel))⟩
theorem fl_Ly_223 : FL R_Ly 223 0 12 := ⟨R_Ly, F_Ly, N_Ly, rfl, by decide, i_Ly, (mw 551 (by decide +kernel))⟩
theorem ft_Ly_12 : FT 0 12 .boolean := ⟨R_Ly, F_Ly, N_Ly, rfl, rfl, by decide +kernel⟩
theorem fl_Ly_227 : FL R_Ly 227 0 13 := ⟨R_Ly, F_Ly, N_Ly, rfl, by decide, i_Ly, (mw 552 (by decide +kernel))⟩
theorem ft_Ly_13 : FT 0 13 .boolean := ⟨R_Ly, F_Ly, N_Ly, rfl, rfl, by decide +kernel⟩
theorem fl_Se_34 : FL R_Se 34 2 0 := ⟨R_Se, F_Se, N_Se, rfl, by decide, i_Se, (mw 154 (by decide +kernel))⟩
theorem ft_Se_0 : FT 2 0 .int := ⟨R_Se, F_Se, N_Se, rfl, rfl, by decide +kernel⟩
theorem fl_Se_45 : FL R_Se 45 2 1 := ⟨R_Se, F_Se, N_Se, rfl, by decide, i_Se, (mw 160 (by decide +kernel))⟩
theorem ft_Se_1 : FT 2 1 .int := ⟨R_Se, F_Se, N_Se, rfl, rfl, by decide +kernel⟩
theorem fl_Se_42 : FL R_Se 42 2 2 := ⟨R_Se, F_Se, N_Se, rfl, by decide, i_Se, (mw 161 (by decide +kernel))⟩
theorem ft_Se_2 : FT 2 2 .int := ⟨R_Se, F_Se, N_Se, rfl, rfl, by decide +kernel⟩
theorem fl_Ly_10 : FL R_Ly 10 0 0 := ⟨R_Ly, F_Ly, N_Ly, rfl, by decide, i_Ly, (mw 539 (by decide +kernel))⟩
theorem fl_Ly_115 : FL R_Ly 115 1 0 := ⟨R_Un, F_Un, N_Un, rfl, by decide, i_Un, (mw 130 (by decide +kernel))⟩
theorem ft_Un_0 : FT 1 0 .int := ⟨R_Un, F_Un, N_Un, rfl, rfl, by decide +kernel⟩
theorem fl_Ly_19 : FL R_Ly 19 0 1 := ⟨R_Ly, F_Ly, N_Ly, rfl, by decide, i_Ly, (mw 540 (by decide +kernel))⟩
theorem ml_Ly_230 : MLb R_Ly 230 y_Se_forget b_Se_forget 1 (none) 0 := ⟨(mw 609 (by decide +kernel)), (mw 606 (by decide +kernel)), (mw 85 (by decide +kernel)), by decide +kernel⟩
theorem mv_Se_forget : MLv y_Se_forget := ⟨(mw 607 (by decide +kernel)), (mw 608 (by decide +kernel))⟩
theorem fl_Ly_26 : FL R_Ly 26 0 2 := ⟨R_Ly, F_Ly, N_Ly, rfl, by decide, i_Ly, (mw 541 (by decide +kernel))⟩
theorem fl_Ly_185 : FL R_Ly 185 3 0 := ⟨R_Sy, F_Sy, N_Sy, rfl, by decide, i_Sy, (mw 213 (by decide +kernel))⟩
theorem ft_Sy_0 : FT 3 0 .int := ⟨R_Sy, F_Sy, N_Sy, rfl, rfl, by decide +kernel⟩
theorem fl_Ly_33 : FL R_Ly 33 0 3 := ⟨R_Ly, F_Ly, N_Ly, rfl, by decide, i_Ly, (mw 542 (by decide +kernel))⟩
theorem fl_Ly_209 : FL R_Ly 209 4 0 := ⟨R_Re, F_Re, N_Re, rfl, by decide, i_Re, (mw 256 (by decide +kernel))⟩
theorem ft_Re_0 : FT 4 0 .int := ⟨R_Re, F_Re, N_Re, rfl, rfl, by decide +kernel⟩
theorem fl_Ly_98 : FL R_Ly 98 0 11 := ⟨R_Ly, F_Ly, N_Ly, rfl, by decide, i_Ly, (mw 550 (by decide +kernel))⟩
theorem ft_Ly_11 : FT 0 11 .int := ⟨R_Ly, F_Ly, N_Ly, rfl, rfl, by decide +kernel⟩
theorem fl_Sy_18 : FL R_Sy 18 3 3 := ⟨R_Sy, F_Sy, N_Sy, rfl, by decide, i_Sy, (mw 222 (by decide +kernel))⟩
theorem ki_1 : Int32.ofInt 1 = 1 := by decide
theorem fl_Sy_21 : FL R_Sy 21 3 4 := ⟨R_Sy, F_Sy, N_Sy, rfl, by decide, i_Sy, (mw 225 (by decide +kernel))⟩
theorem fl_Ar_22 : FL R_Ar 22 5 1 := ⟨R_Ar, F_Ar, N_Ar, rfl, by decide, i_Ar, (mw 309 (by decide +kernel))⟩
theorem ml_Ar_63 : MLb R_Ar 63 y_Sy_asksForName b_Sy_asksForName 2 (some .boolean) 1 := ⟨(mw 1162 (by decide +kernel)), (mw 1159 (by decide +kernel)), (mw 86 (by decide +kernel)), by decide +kernel⟩
theorem mv_Sy_asksForName : MLv y_Sy_asksForName := ⟨(mw 1160 (by decide +kernel)), (mw 1161 (by decide +kernel))⟩
theorem ml_Ar_70 : MLb R_Ar 70 y_Sy_givesName b_Sy_givesName 2 (some .boolean) 1 := ⟨(mw 1166 (by decide +kernel)), (mw 1163 (by decide +kernel)), (mw 86 (by decide +kernel)), by decide +kernel⟩
theorem mv_Sy_givesName : MLv y_Sy_givesName := ⟨(mw 1164 (by decide +kernel)), (mw 1165 (by decide +kernel))⟩
theorem fl_Ar_15 : FL R_Ar 15 5 3 := ⟨R_Ar, F_Ar, N_Ar, rfl, by decide, i_Ar, (mw 311 (by decide +kernel))⟩
theorem fl_Ar_67 : FL R_Ar 67 3 2 := ⟨R_Sy, F_Sy, N_Sy, rfl, by decide, i_Sy, (mw 220 (by decide +kernel))⟩
theorem fl_Ar_9 : FL R_Ar 9 5 2 := ⟨R_Ar, F_Ar, N_Ar, rfl, by decide, i_Ar, (mw 310 (by decide +kernel))⟩
theorem fl_Ar_54 : FL R_Ar 54 3 0 := ⟨R_Sy, F_Sy, N_Sy, rfl, by decide, i_Sy, (mw 212 (by decide +kernel))⟩
theorem fl_Ar_57 : FL R_Ar 57 3 1 := ⟨R_Sy, F_Sy, N_Sy, rfl, by decide, i_Sy, (mw 216 (by decide +kernel))⟩
theorem ml_Ar_60 : MLb R_Ar 60 y_Ar_note b_Ar_note 2 (none) 1 := ⟨(mw 1158 (by decide +kernel)), (mw 1155 (by decide +kernel)), (mw 88 (by decide +kernel)), by decide +kernel⟩
theorem mv_Ar_note : MLv y_Ar_note := ⟨(mw 1157 (by decide +kernel)), (mw 6 (by decide +kernel))⟩
theorem fl_Ar_18 : FL R_Ar 18 5 0 := ⟨R_Ar, F_Ar, N_Ar, rfl, by decide, i_Ar, (mw 308 (by decide +kernel))⟩
theorem fl_Ar_40 : FL R_Ar 40 1 2 := ⟨R_Un, F_Un, N_Un, rfl, by decide, i_Un, (mw 137 (by decide +kernel))⟩
theorem ks_200 : (Int16.ofInt 200).toInt32 = 200 := by decide
theorem fl_Ar_34 : FL R_Ar 34 1 0 := ⟨R_Un, F_Un, N_Un, rfl, by decide, i_Un, (mw 131 (by decide +kernel))⟩
theorem fl_Ar_43 : FL R_Ar 43 1 1 := ⟨R_Un, F_Un, N_Un, rfl, by decide, i_Un, (mw 133 (by decide +kernel))⟩
theorem ml_Ar_47 : MLb R_Ar 47 y_Ar_admit b_Ar_admit 3 (none) 1 := ⟨(mw 1154 (by decide +kernel)), (mw 1151 (by decide +kernel)), (mw 88 (by decide +kernel)), by decide +kernel⟩
theorem mv_Ar_admit : MLv y_Ar_admit := ⟨(mw 1153 (by decide +kernel)), (mw 5 (by decide +kernel))⟩
theorem fl_Ar_76 : FL R_Ar 76 3 3 := ⟨R_Sy, F_Sy, N_Sy, rfl, by decide, i_Sy, (mw 224 (by decide +kernel))⟩
theorem ki_2 : Int32.ofInt 2 = 2 := by decide
theorem ml_Ar_73 : MLb R_Ar 73 y_Ar_isNeeded b_Ar_isNeeded 3 (some .boolean) 1 := ⟨(mw 1178 (by decide +kernel)), (mw 1175 (by decide +kernel)), (mw 88 (by decide +kernel)), by decide +kernel⟩
theorem mv_Ar_isNeeded : MLv y_Ar_isNeeded := ⟨(mw 1177 (by decide +kernel)), (mw 9 (by decide +kernel))⟩
theorem kb_24 : (Int8.ofInt 24).toInt32 = 24 := by decide
theorem ml_Ar_50 : MLb R_Ar 50 y_Ar_firstNeeded b_Ar_firstNeeded 6 (some .int) 1 := ⟨(mw 1174 (by decide +kernel)), (mw 1171 (by decide +kernel)), (mw 88 (by decide +kernel)), by decide +kernel⟩
theorem mv_Ar_firstNeeded : MLv y_Ar_firstNeeded := ⟨(mw 1173 (by decide +kernel)), (mw 8 (by decide +kernel))⟩
theorem ki_4 : Int32.ofInt 4 = 4 := by decide
theorem ml_Ar_30 : MLb R_Ar 30 y_Ar_goThroughArchives b_Ar_goThroughArchives 5 (some .boolean) 0 := ⟨(mw 1170 (by decide +kernel)), (mw 1167 (by decide +kernel)), (mw 88 (by decide +kernel)), by decide +kernel⟩
theorem mv_Ar_goThroughArchives : MLv y_Ar_goThroughArchives := ⟨(mw 1169 (by decide +kernel)), (mw 7 (by decide +kernel))⟩
theorem ml_Ar_26 : MLb R_Ar 26 y_Ar_begin b_Ar_begin 3 (none) 1 := ⟨(mw 1150 (by decide +kernel)), (mw 1147 (by decide +kernel)), (mw 88 (by decide +kernel)), by decide +kernel⟩
theorem mv_Ar_begin : MLv y_Ar_begin := ⟨(mw 1149 (by decide +kernel)), (mw 4 (by decide +kernel))⟩
theorem kb_25 : (Int8.ofInt 25).toInt32 = 25 := by decide
theorem fl_Na_9 : FL R_Na 9 6 2 := ⟨R_Na, F_Na, N_Na, rfl, by decide, i_Na, (mw 329 (by decide +kernel))⟩
theorem fl_Na_18 : FL R_Na 18 6 4 := ⟨R_Na, F_Na, N_Na, rfl, by decide, i_Na, (mw 331 (by decide +kernel))⟩
theorem ml_Na_93 : MLb R_Na 93 y_Na_isCommon b_Na_isCommon 2 (some .boolean) 1 := ⟨(mw 1213 (by decide +kernel)), (mw 1210 (by decide +kernel)), (mw 89 (by decide +kernel)), by decide +kernel⟩
theorem mv_Na_isCommon : MLv y_Na_isCommon := ⟨(mw 1212 (by decide +kernel)), (mw 16 (by decide +kernel))⟩
theorem fl_Na_15 : FL R_Na 15 6 3 := ⟨R_Na, F_Na, N_Na, rfl, by decide, i_Na, (mw 330 (by decide +kernel))⟩
theorem ml_Na_96 : MLb R_Na 96 y_Na_definer b_Na_definer 2 (some .int) 1 := ⟨(mw 1217 (by decide +kernel)), (mw 1214 (by decide +kernel)), (mw 89 (by decide +kernel)), by decide +kernel⟩
theorem mv_Na_definer : MLv y_Na_definer := ⟨(mw 1216 (by decide +kernel)), (mw 17 (by decide +kernel))⟩
theorem fl_Na_34 : FL R_Na 34 6 1 := ⟨R_Na, F_Na, N_Na, rfl, by decide, i_Na, (mw 328 (by decide +kernel))⟩
theorem fl_Na_100 : FL R_Na 100 3 5 := ⟨R_Sy, F_Sy, N_Sy, rfl, by decide, i_Sy, (mw 228 (by decide +kernel))⟩
theorem fl_Na_21 : FL R_Na 21 6 6 := ⟨R_Na, F_Na, N_Na, rfl, by decide, i_Na, (mw 335 (by decide +kernel))⟩
theorem fl_Na_24 : FL R_Na 24 6 7 := ⟨R_Na, F_Na, N_Na, rfl, by decide, i_Na, (mw 341 (by decide +kernel))⟩
theorem fl_Na_27 : FL R_Na 27 6 8 := ⟨R_Na, F_Na, N_Na, rfl, by decide, i_Na, (mw 346 (by decide +kernel))⟩
theorem fl_Na_110 : FL R_Na 110 3 4 := ⟨R_Sy, F_Sy, N_Sy, rfl, by decide, i_Sy, (mw 226 (by decide +kernel))⟩
theorem fl_Na_83 : FL R_Na 83 3 6 := ⟨R_Sy, F_Sy, N_Sy, rfl, by decide, i_Sy, (mw 230 (by decide +kernel))⟩
theorem ml_Na_103 : MLb R_Na 103 y_Na_setMeaning b_Na_setMeaning 5 (none) 4 := ⟨(mw 1205 (by decide +kernel)), (mw 1202 (by decide +kernel)), (mw 89 (by decide +kernel)), by decide +kernel⟩
theorem mv_Na_setMeaning : MLv y_Na_setMeaning := ⟨(mw 1204 (by decide +kernel)), (mw 14 (by decide +kernel))⟩
theorem d_Ly_takeLinkAway_0 : decode b_Ly_takeLinkAway 0 = .ok (.aload_n 0, 1) := by decide +kernel
theorem d_Ly_takeLinkAway_1 : decode b_Ly_takeLinkAway 1 = .ok (.iconst 0, 1) := by decide +kernel
theorem d_Ly_takeLinkAway_2 : decode b_Ly_takeLinkAway 2 = .ok (.putfield 243, 3) := by decide +kernel
theorem d_Ly_takeLinkAway_5 : decode b_Ly_takeLinkAway 5 = .ok (.aload_n 0, 1) := by decide +kernel
theorem d_Ly_takeLinkAway_6 : decode b_Ly_takeLinkAway 6 = .ok (.iconst 0, 1) := by decide +kernel
theorem d_Ly_takeLinkAway_7 : decode b_Ly_takeLinkAway 7 = .ok (.putfield 249, 3) := by decide +kernel
theorem d_Ly_takeLinkAway_10 : decode b_Ly_takeLinkAway 10 = .ok (.aload_n 0, 1) := by decide +kernel
theorem d_Ly_takeLinkAway_11 : decode b_Ly_takeLinkAway 11 = .ok (.iconst (-1), 1) := by decide +kernel
theorem d_Ly_takeLinkAway_12 : decode b_Ly_takeLinkAway 12 = .ok (.putfield 102, 3) := by decide +kernel
theorem d_Ly_takeLinkAway_15 : decode b_Ly_takeLinkAway 15 = .ok (.aload_n 0, 1) := by decide +kernel
theorem d_Ly_takeLinkAway_16 : decode b_Ly_takeLinkAway 16 = .ok (.iconst (-1), 1) := by decide +kernel
theorem d_Ly_takeLinkAway_17 : decode b_Ly_takeLinkAway 17 = .ok (.putfield 105, 3) := by decide +kernel
theorem d_Ly_takeLinkAway_20 : decode b_Ly_takeLinkAway 20 = .ok (.return_, 1) := by decide +kernel
theorem d_Ly_fold_0 : decode b_Ly_fold 0 = .ok (.aload_n 0, 1) := by decide +kernel
theorem d_Ly_fold_1 : decode b_Ly_fold 1 = .ok (.invokevirtual 123, 3) := by decide +kernel
theorem d_Ly_fold_4 : decode b_Ly_fold 4 = .ok (.aload_n 0, 1) := by decide +kernel
theorem d_Ly_fold_5 : decode b_Ly_fold 5 = .ok (.iload_n 1, 1) := by decide +kernel
theorem d_Ly_fold_6 : decode b_Ly_fold 6 = .ok (.putfield 223, 3) := by decide +kernel
theorem d_Ly_fold_9 : decode b_Ly_fold 9 = .ok (.aload_n 0, 1) := by decide +kernel
theorem d_Ly_fold_10 : decode b_Ly_fold 10 = .ok (.iload_n 2, 1) := by decide +kernel
theorem d_Ly_fold_11 : decode b_Ly_fold 11 = .ok (.putfield 227, 3) := by decide +kernel
theorem d_Ly_fold_14 : decode b_Ly_fold 14 = .ok (.return_, 1) := by decide +kernel
theorem d_Se_forget_0 : decode b_Se_forget 0 = .ok (.aload_n 0, 1) := by decide +kernel
theorem d_Se_forget_1 : decode b_Se_forget 1 = .ok (.iconst 0, 1) := by decide +kernel
theorem d_Se_forget_2 : decode b_Se_forget 2 = .ok (.putfield 34, 3) := by decide +kernel
theorem d_Se_forget_5 : decode b_Se_forget 5 = .ok (.aload_n 0, 1) := by decide +kernel
theorem d_Se_forget_6 : decode b_Se_forget 6 = .ok (.iconst 0, 1) := by decide +kernel
theorem d_Se_forget_7 : decode b_Se_forget 7 = .ok (.putfield 45, 3) := by decide +kernel
theorem d_Se_forget_10 : decode b_Se_forget 10 = .ok (.aload_n 0, 1) := by decide +kernel
theorem d_Se_forget_11 : decode b_Se_forget 11 = .ok (.iconst 0, 1) := by decide +kernel
theorem d_Se_forget_12 : decode b_Se_forget 12 = .ok (.putfield 42, 3) := by decide +kernel
theorem d_Se_forget_15 : decode b_Se_forget 15 = .ok (.return_, 1) := by decide +kernel
theorem d_Ly_clear_0 : decode b_Ly_clear 0 = .ok (.aload_n 0, 1) := by decide +kernel
theorem d_Ly_clear_1 : decode b_Ly_clear 1 = .ok (.invokevirtual 123, 3) := by decide +kernel
theorem d_Ly_clear_4 : decode b_Ly_clear 4 = .ok (.aload_n 0, 1) := by decide +kernel
theorem d_Ly_clear_5 : decode b_Ly_clear 5 = .ok (.getfield 10, 3) := by decide +kernel
theorem d_Ly_clear_8 : decode b_Ly_clear 8 = .ok (.iconst 0, 1) := by decide +kernel
theorem d_Ly_clear_9 : decode b_Ly_clear 9 = .ok (.putfield 115, 3) := by decide +kernel
theorem d_Ly_clear_12 : decode b_Ly_clear 12 = .ok (.aload_n 0, 1) := by decide +kernel
theorem d_Ly_clear_13 : decode b_Ly_clear 13 = .ok (.getfield 19, 3) := by decide +kernel
theorem d_Ly_clear_16 : decode b_Ly_clear 16 = .ok (.invokevirtual 230, 3) := by decide +kernel
theorem d_Ly_clear_19 : decode b_Ly_clear 19 = .ok (.aload_n 0, 1) := by decide +kernel
theorem d_Ly_clear_20 : decode b_Ly_clear 20 = .ok (.getfield 26, 3) := by decide +kernel
theorem d_Ly_clear_23 : decode b_Ly_clear 23 = .ok (.iconst 0, 1) := by decide +kernel
theorem d_Ly_clear_24 : decode b_Ly_clear 24 = .ok (.putfield 185, 3) := by decide +kernel
theorem d_Ly_clear_27 : decode b_Ly_clear 27 = .ok (.aload_n 0, 1) := by decide +kernel
theorem d_Ly_clear_28 : decode b_Ly_clear 28 = .ok (.getfield 33, 3) := by decide +kernel
theorem d_Ly_clear_31 : decode b_Ly_clear 31 = .ok (.iconst 0, 1) := by decide +kernel
theorem d_Ly_clear_32 : decode b_Ly_clear 32 = .ok (.putfield 209, 3) := by decide +kernel
theorem d_Ly_clear_35 : decode b_Ly_clear 35 = .ok (.aload_n 0, 1) := by decide +kernel
theorem d_Ly_clear_36 : decode b_Ly_clear 36 = .ok (.iconst (-1), 1) := by decide +kernel
theorem d_Ly_clear_37 : decode b_Ly_clear 37 = .ok (.putfield 98, 3) := by decide +kernel
theorem d_Ly_clear_40 : decode b_Ly_clear 40 = .ok (.aload_n 0, 1) := by decide +kernel
theorem d_Ly_clear_41 : decode b_Ly_clear 41 = .ok (.iconst 0, 1) := by decide +kernel
theorem d_Ly_clear_42 : decode b_Ly_clear 42 = .ok (.putfield 223, 3) := by decide +kernel
theorem d_Ly_clear_45 : decode b_Ly_clear 45 = .ok (.aload_n 0, 1) := by decide +kernel
theorem d_Ly_clear_46 : decode b_Ly_clear 46 = .ok (.iconst 0, 1) := by decide +kernel
theorem d_Ly_clear_47 : decode b_Ly_clear 47 = .ok (.putfield 227, 3) := by decide +kernel
theorem d_Ly_clear_50 : decode b_Ly_clear 50 = .ok (.return_, 1) := by decide +kernel
theorem d_Sy_asksForName_0 : decode b_Sy_asksForName 0 = .ok (.aload_n 0, 1) := by decide +kernel
theorem d_Sy_asksForName_1 : decode b_Sy_asksForName 1 = .ok (.getfield 18, 3) := by decide +kernel
theorem d_Sy_asksForName_4 : decode b_Sy_asksForName 4 = .ok (.iload_n 1, 1) := by decide +kernel
theorem d_Sy_asksForName_5 : decode b_Sy_asksForName 5 = .ok (.iaload, 1) := by decide +kernel
theorem d_Sy_asksForName_6 : decode b_Sy_asksForName 6 = .ok (.iconst 1, 1) := by decide +kernel
theorem d_Sy_asksForName_7 : decode b_Sy_asksForName 7 = .ok (.if_icmp .ne 16, 3) := by decide +kernel
theorem d_Sy_asksForName_10 : decode b_Sy_asksForName 10 = .ok (.aload_n 0, 1) := by decide +kernel
theorem d_Sy_asksForName_11 : decode b_Sy_asksForName 11 = .ok (.getfield 21, 3) := by decide +kernel
theorem d_Sy_asksForName_14 : decode b_Sy_asksForName 14 = .ok (.iload_n 1, 1) := by decide +kernel
theorem d_Sy_asksForName_15 : decode b_Sy_asksForName 15 = .ok (.iaload, 1) := by decide +kernel
theorem d_Sy_asksForName_16 : decode b_Sy_asksForName 16 = .ok (.ifCond .ne 7, 3) := by decide +kernel
theorem d_Sy_asksForName_19 : decode b_Sy_asksForName 19 = .ok (.iconst 1, 1) := by decide +kernel
theorem d_Sy_asksForName_20 : decode b_Sy_asksForName 20 = .ok (.goto 4, 3) := by decide +kernel
theorem d_Sy_asksForName_23 : decode b_Sy_asksForName 23 = .ok (.iconst 0, 1) := by decide +kernel
theorem d_Sy_asksForName_24 : decode b_Sy_asksForName 24 = .ok (.ireturn, 1) := by decide +kernel
theorem d_Sy_givesName_0 : decode b_Sy_givesName 0 = .ok (.aload_n 0, 1) := by decide +kernel
theorem d_Sy_givesName_1 : decode b_Sy_givesName 1 = .ok (.getfield 18, 3) := by decide +kernel
theorem d_Sy_givesName_4 : decode b_Sy_givesName 4 = .ok (.iload_n 1, 1) := by decide +kernel
theorem d_Sy_givesName_5 : decode b_Sy_givesName 5 = .ok (.iaload, 1) := by decide +kernel
theorem d_Sy_givesName_6 : decode b_Sy_givesName 6 = .ok (.ifCond .eq 16, 3) := by decide +kernel
theorem d_Sy_givesName_9 : decode b_Sy_givesName 9 = .ok (.aload_n 0, 1) := by decide +kernel
theorem d_Sy_givesName_10 : decode b_Sy_givesName 10 = .ok (.getfield 21, 3) := by decide +kernel
theorem d_Sy_givesName_13 : decode b_Sy_givesName 13 = .ok (.iload_n 1, 1) := by decide +kernel
theorem d_Sy_givesName_14 : decode b_Sy_givesName 14 = .ok (.iaload, 1) := by decide +kernel
theorem d_Sy_givesName_15 : decode b_Sy_givesName 15 = .ok (.ifCond .eq 7, 3) := by decide +kernel
theorem d_Sy_givesName_18 : decode b_Sy_givesName 18 = .ok (.iconst 1, 1) := by decide +kernel
theorem d_Sy_givesName_19 : decode b_Sy_givesName 19 = .ok (.goto 4, 3) := by decide +kernel
theorem d_Sy_givesName_22 : decode b_Sy_givesName 22 = .ok (.iconst 0, 1) := by decide +kernel
theorem d_Sy_givesName_23 : decode b_Sy_givesName 23 = .ok (.ireturn, 1) := by decide +kernel
theorem d_Ar_note_0 : decode b_Ar_note 0 = .ok (.aload_n 0, 1) := by decide +kernel
theorem d_Ar_note_1 : decode b_Ar_note 1 = .ok (.getfield 22, 3) := by decide +kernel
theorem d_Ar_note_4 : decode b_Ar_note 4 = .ok (.iload_n 1, 1) := by decide +kernel
theorem d_Ar_note_5 : decode b_Ar_note 5 = .ok (.invokevirtual 63, 3) := by decide +kernel
theorem d_Ar_note_8 : decode b_Ar_note 8 = .ok (.ifCond .eq 18, 3) := by decide +kernel
theorem d_Ar_note_11 : decode b_Ar_note 11 = .ok (.aload_n 0, 1) := by decide +kernel
theorem d_Ar_note_12 : decode b_Ar_note 12 = .ok (.getfield 9, 3) := by decide +kernel
theorem d_Ar_note_15 : decode b_Ar_note 15 = .ok (.aload_n 0, 1) := by decide +kernel
theorem d_Ar_note_16 : decode b_Ar_note 16 = .ok (.getfield 22, 3) := by decide +kernel
theorem d_Ar_note_19 : decode b_Ar_note 19 = .ok (.getfield 67, 3) := by decide +kernel
theorem d_Ar_note_22 : decode b_Ar_note 22 = .ok (.iload_n 1, 1) := by decide +kernel
theorem d_Ar_note_23 : decode b_Ar_note 23 = .ok (.iaload, 1) := by decide +kernel
theorem d_Ar_note_24 : decode b_Ar_note 24 = .ok (.iconst 1, 1) := by decide +kernel
theorem d_Ar_note_25 : decode b_Ar_note 25 = .ok (.bastore, 1) := by decide +kernel
theorem d_Ar_note_26 : decode b_Ar_note 26 = .ok (.aload_n 0, 1) := by decide +kernel
theorem d_Ar_note_27 : decode b_Ar_note 27 = .ok (.getfield 22, 3) := by decide +kernel
theorem d_Ar_note_30 : decode b_Ar_note 30 = .ok (.iload_n 1, 1) := by decide +kernel
theorem d_Ar_note_31 : decode b_Ar_note 31 = .ok (.invokevirtual 70, 3) := by decide +kernel
theorem d_Ar_note_34 : decode b_Ar_note 34 = .ok (.ifCond .eq 18, 3) := by decide +kernel
theorem d_Ar_note_37 : decode b_Ar_note 37 = .ok (.aload_n 0, 1) := by decide +kernel
theorem d_Ar_note_38 : decode b_Ar_note 38 = .ok (.getfield 15, 3) := by decide +kernel
theorem d_Ar_note_41 : decode b_Ar_note 41 = .ok (.aload_n 0, 1) := by decide +kernel
theorem d_Ar_note_42 : decode b_Ar_note 42 = .ok (.getfield 22, 3) := by decide +kernel
theorem d_Ar_note_45 : decode b_Ar_note 45 = .ok (.getfield 67, 3) := by decide +kernel
theorem d_Ar_note_48 : decode b_Ar_note 48 = .ok (.iload_n 1, 1) := by decide +kernel
theorem d_Ar_note_49 : decode b_Ar_note 49 = .ok (.iaload, 1) := by decide +kernel
theorem d_Ar_note_50 : decode b_Ar_note 50 = .ok (.iconst 1, 1) := by decide +kernel
theorem d_Ar_note_51 : decode b_Ar_note 51 = .ok (.bastore, 1) := by decide +kernel
theorem d_Ar_note_52 : decode b_Ar_note 52 = .ok (.return_, 1) := by decide +kernel
theorem d_Ar_admit_0 : decode b_Ar_admit 0 = .ok (.aload_n 0, 1) := by decide +kernel
theorem d_Ar_admit_1 : decode b_Ar_admit 1 = .ok (.getfield 18, 3) := by decide +kernel
theorem d_Ar_admit_4 : decode b_Ar_admit 4 = .ok (.getfield 40, 3) := by decide +kernel
theorem d_Ar_admit_7 : decode b_Ar_admit 7 = .ok (.iload_n 1, 1) := by decide +kernel
theorem d_Ar_admit_8 : decode b_Ar_admit 8 = .ok (.iconst 1, 1) := by decide +kernel
theorem d_Ar_admit_9 : decode b_Ar_admit 9 = .ok (.bastore, 1) := by decide +kernel
theorem d_Ar_admit_10 : decode b_Ar_admit 10 = .ok (.iconst 0, 1) := by decide +kernel
theorem d_Ar_admit_11 : decode b_Ar_admit 11 = .ok (.istore_n 2, 1) := by decide +kernel
theorem d_Ar_admit_12 : decode b_Ar_admit 12 = .ok (.iload_n 2, 1) := by decide +kernel
theorem d_Ar_admit_13 : decode b_Ar_admit 13 = .ok (.aload_n 0, 1) := by decide +kernel
theorem d_Ar_admit_14 : decode b_Ar_admit 14 = .ok (.getfield 22, 3) := by decide +kernel
theorem d_Ar_admit_17 : decode b_Ar_admit 17 = .ok (.getfield 54, 3) := by decide +kernel
theorem d_Ar_admit_20 : decode b_Ar_admit 20 = .ok (.if_icmp .ge 27, 3) := by decide +kernel
theorem d_Ar_admit_23 : decode b_Ar_admit 23 = .ok (.aload_n 0, 1) := by decide +kernel
theorem d_Ar_admit_24 : decode b_Ar_admit 24 = .ok (.getfield 22, 3) := by decide +kernel
theorem d_Ar_admit_27 : decode b_Ar_admit 27 = .ok (.getfield 57, 3) := by decide +kernel
theorem d_Ar_admit_30 : decode b_Ar_admit 30 = .ok (.iload_n 2, 1) := by decide +kernel
theorem d_Ar_admit_31 : decode b_Ar_admit 31 = .ok (.iaload, 1) := by decide +kernel
theorem d_Ar_admit_32 : decode b_Ar_admit 32 = .ok (.iload_n 1, 1) := by decide +kernel
theorem d_Ar_admit_33 : decode b_Ar_admit 33 = .ok (.if_icmp .ne 8, 3) := by decide +kernel
theorem d_Ar_admit_36 : decode b_Ar_admit 36 = .ok (.aload_n 0, 1) := by decide +kernel
theorem d_Ar_admit_37 : decode b_Ar_admit 37 = .ok (.iload_n 2, 1) := by decide +kernel
theorem d_Ar_admit_38 : decode b_Ar_admit 38 = .ok (.invokevirtual 60, 3) := by decide +kernel
theorem d_Ar_admit_41 : decode b_Ar_admit 41 = .ok (.iinc 2 1, 3) := by decide +kernel
theorem d_Ar_admit_44 : decode b_Ar_admit 44 = .ok (.goto (-32), 3) := by decide +kernel
theorem d_Ar_admit_47 : decode b_Ar_admit 47 = .ok (.return_, 1) := by decide +kernel
theorem d_Ar_begin_0 : decode b_Ar_begin 0 = .ok (.iconst 0, 1) := by decide +kernel
theorem d_Ar_begin_1 : decode b_Ar_begin 1 = .ok (.istore_n 2, 1) := by decide +kernel
theorem d_Ar_begin_2 : decode b_Ar_begin 2 = .ok (.iload_n 2, 1) := by decide +kernel
theorem d_Ar_begin_3 : decode b_Ar_begin 3 = .ok (.sipush 200, 3) := by decide +kernel
theorem d_Ar_begin_6 : decode b_Ar_begin 6 = .ok (.if_icmp .ge 32, 3) := by decide +kernel
theorem d_Ar_begin_9 : decode b_Ar_begin 9 = .ok (.aload_n 0, 1) := by decide +kernel
theorem d_Ar_begin_10 : decode b_Ar_begin 10 = .ok (.getfield 9, 3) := by decide +kernel
theorem d_Ar_begin_13 : decode b_Ar_begin 13 = .ok (.iload_n 2, 1) := by decide +kernel
theorem d_Ar_begin_14 : decode b_Ar_begin 14 = .ok (.iload_n 2, 1) := by decide +kernel
theorem d_Ar_begin_15 : decode b_Ar_begin 15 = .ok (.iload_n 1, 1) := by decide +kernel
theorem d_Ar_begin_16 : decode b_Ar_begin 16 = .ok (.if_icmp .ne 7, 3) := by decide +kernel
theorem d_Ar_begin_19 : decode b_Ar_begin 19 = .ok (.iconst 1, 1) := by decide +kernel
theorem d_Ar_begin_20 : decode b_Ar_begin 20 = .ok (.goto 4, 3) := by decide +kernel
theorem d_Ar_begin_23 : decode b_Ar_begin 23 = .ok (.iconst 0, 1) := by decide +kernel
theorem d_Ar_begin_24 : decode b_Ar_begin 24 = .ok (.bastore, 1) := by decide +kernel
theorem d_Ar_begin_25 : decode b_Ar_begin 25 = .ok (.aload_n 0, 1) := by decide +kernel
theorem d_Ar_begin_26 : decode b_Ar_begin 26 = .ok (.getfield 15, 3) := by decide +kernel
theorem d_Ar_begin_29 : decode b_Ar_begin 29 = .ok (.iload_n 2, 1) := by decide +kernel
theorem d_Ar_begin_30 : decode b_Ar_begin 30 = .ok (.iconst 0, 1) := by decide +kernel
theorem d_Ar_begin_31 : decode b_Ar_begin 31 = .ok (.bastore, 1) := by decide +kernel
theorem d_Ar_begin_32 : decode b_Ar_begin 32 = .ok (.iinc 2 1, 3) := by decide +kernel
theorem d_Ar_begin_35 : decode b_Ar_begin 35 = .ok (.goto (-33), 3) := by decide +kernel
theorem d_Ar_begin_38 : decode b_Ar_begin 38 = .ok (.iconst 0, 1) := by decide +kernel
theorem d_Ar_begin_39 : decode b_Ar_begin 39 = .ok (.istore_n 2, 1) := by decide +kernel
theorem d_Ar_begin_40 : decode b_Ar_begin 40 = .ok (.iload_n 2, 1) := by decide +kernel
theorem d_Ar_begin_41 : decode b_Ar_begin 41 = .ok (.aload_n 0, 1) := by decide +kernel
theorem d_Ar_begin_42 : decode b_Ar_begin 42 = .ok (.getfield 18, 3) := by decide +kernel
theorem d_Ar_begin_45 : decode b_Ar_begin 45 = .ok (.getfield 34, 3) := by decide +kernel
theorem d_Ar_begin_48 : decode b_Ar_begin 48 = .ok (.if_icmp .ge 19, 3) := by decide +kernel
theorem d_Ar_begin_51 : decode b_Ar_begin 51 = .ok (.aload_n 0, 1) := by decide +kernel
theorem d_Ar_begin_52 : decode b_Ar_begin 52 = .ok (.getfield 18, 3) := by decide +kernel
theorem d_Ar_begin_55 : decode b_Ar_begin 55 = .ok (.getfield 40, 3) := by decide +kernel
theorem d_Ar_begin_58 : decode b_Ar_begin 58 = .ok (.iload_n 2, 1) := by decide +kernel
theorem d_Ar_begin_59 : decode b_Ar_begin 59 = .ok (.iconst 0, 1) := by decide +kernel
theorem d_Ar_begin_60 : decode b_Ar_begin 60 = .ok (.bastore, 1) := by decide +kernel
theorem d_Ar_begin_61 : decode b_Ar_begin 61 = .ok (.iinc 2 1, 3) := by decide +kernel
theorem d_Ar_begin_64 : decode b_Ar_begin 64 = .ok (.goto (-24), 3) := by decide +kernel
theorem d_Ar_begin_67 : decode b_Ar_begin 67 = .ok (.iconst 0, 1) := by decide +kernel
theorem d_Ar_begin_68 : decode b_Ar_begin 68 = .ok (.istore_n 2, 1) := by decide +kernel
theorem d_Ar_begin_69 : decode b_Ar_begin 69 = .ok (.iload_n 2, 1) := by decide +kernel
theorem d_Ar_begin_70 : decode b_Ar_begin 70 = .ok (.aload_n 0, 1) := by decide +kernel
theorem d_Ar_begin_71 : decode b_Ar_begin 71 = .ok (.getfield 18, 3) := by decide +kernel
theorem d_Ar_begin_74 : decode b_Ar_begin 74 = .ok (.getfield 34, 3) := by decide +kernel
theorem d_Ar_begin_77 : decode b_Ar_begin 77 = .ok (.if_icmp .ge 27, 3) := by decide +kernel
theorem d_Ar_begin_80 : decode b_Ar_begin 80 = .ok (.aload_n 0, 1) := by decide +kernel
theorem d_Ar_begin_81 : decode b_Ar_begin 81 = .ok (.getfield 18, 3) := by decide +kernel
theorem d_Ar_begin_84 : decode b_Ar_begin 84 = .ok (.getfield 43, 3) := by decide +kernel
theorem d_Ar_begin_87 : decode b_Ar_begin 87 = .ok (.iload_n 2, 1) := by decide +kernel
theorem d_Ar_begin_88 : decode b_Ar_begin 88 = .ok (.iaload, 1) := by decide +kernel
theorem d_Ar_begin_89 : decode b_Ar_begin 89 = .ok (.iconst (-1), 1) := by decide +kernel
theorem d_Ar_begin_90 : decode b_Ar_begin 90 = .ok (.if_icmp .ne 8, 3) := by decide +kernel
theorem d_Ar_begin_93 : decode b_Ar_begin 93 = .ok (.aload_n 0, 1) := by decide +kernel
theorem d_Ar_begin_94 : decode b_Ar_begin 94 = .ok (.iload_n 2, 1) := by decide +kernel
theorem d_Ar_begin_95 : decode b_Ar_begin 95 = .ok (.invokevirtual 47, 3) := by decide +kernel
theorem d_Ar_begin_98 : decode b_Ar_begin 98 = .ok (.iinc 2 1, 3) := by decide +kernel
theorem d_Ar_begin_101 : decode b_Ar_begin 101 = .ok (.goto (-32), 3) := by decide +kernel
theorem d_Ar_begin_104 : decode b_Ar_begin 104 = .ok (.return_, 1) := by decide +kernel
theorem d_Ar_isNeeded_0 : decode b_Ar_isNeeded 0 = .ok (.aload_n 0, 1) := by decide +kernel
theorem d_Ar_isNeeded_1 : decode b_Ar_isNeeded 1 = .ok (.getfield 22, 3) := by decide +kernel
theorem d_Ar_isNeeded_4 : decode b_Ar_isNeeded 4 = .ok (.getfield 67, 3) := by decide +kernel
theorem d_Ar_isNeeded_7 : decode b_Ar_isNeeded 7 = .ok (.iload_n 1, 1) := by decide +kernel
theorem d_Ar_isNeeded_8 : decode b_Ar_isNeeded 8 = .ok (.iaload, 1) := by decide +kernel
theorem d_Ar_isNeeded_9 : decode b_Ar_isNeeded 9 = .ok (.istore_n 2, 1) := by decide +kernel
theorem d_Ar_isNeeded_10 : decode b_Ar_isNeeded 10 = .ok (.aload_n 0, 1) := by decide +kernel
theorem d_Ar_isNeeded_11 : decode b_Ar_isNeeded 11 = .ok (.getfield 22, 3) := by decide +kernel
theorem d_Ar_isNeeded_14 : decode b_Ar_isNeeded 14 = .ok (.iload_n 1, 1) := by decide +kernel
theorem d_Ar_isNeeded_15 : decode b_Ar_isNeeded 15 = .ok (.invokevirtual 70, 3) := by decide +kernel
theorem d_Ar_isNeeded_18 : decode b_Ar_isNeeded 18 = .ok (.ifCond .eq 38, 3) := by decide +kernel
theorem d_Ar_isNeeded_21 : decode b_Ar_isNeeded 21 = .ok (.aload_n 0, 1) := by decide +kernel
theorem d_Ar_isNeeded_22 : decode b_Ar_isNeeded 22 = .ok (.getfield 22, 3) := by decide +kernel
theorem d_Ar_isNeeded_25 : decode b_Ar_isNeeded 25 = .ok (.getfield 76, 3) := by decide +kernel
theorem d_Ar_isNeeded_28 : decode b_Ar_isNeeded 28 = .ok (.iload_n 1, 1) := by decide +kernel
theorem d_Ar_isNeeded_29 : decode b_Ar_isNeeded 29 = .ok (.iaload, 1) := by decide +kernel
theorem d_Ar_isNeeded_30 : decode b_Ar_isNeeded 30 = .ok (.iconst 2, 1) := by decide +kernel
theorem d_Ar_isNeeded_31 : decode b_Ar_isNeeded 31 = .ok (.if_icmp .eq 25, 3) := by decide +kernel
theorem d_Ar_isNeeded_34 : decode b_Ar_isNeeded 34 = .ok (.aload_n 0, 1) := by decide +kernel
theorem d_Ar_isNeeded_35 : decode b_Ar_isNeeded 35 = .ok (.getfield 9, 3) := by decide +kernel
theorem d_Ar_isNeeded_38 : decode b_Ar_isNeeded 38 = .ok (.iload_n 2, 1) := by decide +kernel
theorem d_Ar_isNeeded_39 : decode b_Ar_isNeeded 39 = .ok (.baload, 1) := by decide +kernel
theorem d_Ar_isNeeded_40 : decode b_Ar_isNeeded 40 = .ok (.ifCond .eq 16, 3) := by decide +kernel
theorem d_Ar_isNeeded_43 : decode b_Ar_isNeeded 43 = .ok (.aload_n 0, 1) := by decide +kernel
theorem d_Ar_isNeeded_44 : decode b_Ar_isNeeded 44 = .ok (.getfield 15, 3) := by decide +kernel
theorem d_Ar_isNeeded_47 : decode b_Ar_isNeeded 47 = .ok (.iload_n 2, 1) := by decide +kernel
theorem d_Ar_isNeeded_48 : decode b_Ar_isNeeded 48 = .ok (.baload, 1) := by decide +kernel
theorem d_Ar_isNeeded_49 : decode b_Ar_isNeeded 49 = .ok (.ifCond .ne 7, 3) := by decide +kernel
theorem d_Ar_isNeeded_52 : decode b_Ar_isNeeded 52 = .ok (.iconst 1, 1) := by decide +kernel
theorem d_Ar_isNeeded_53 : decode b_Ar_isNeeded 53 = .ok (.goto 4, 3) := by decide +kernel
theorem d_Ar_isNeeded_56 : decode b_Ar_isNeeded 56 = .ok (.iconst 0, 1) := by decide +kernel
theorem d_Ar_isNeeded_57 : decode b_Ar_isNeeded 57 = .ok (.ireturn, 1) := by decide +kernel
theorem d_Ar_firstNeeded_0 : decode b_Ar_firstNeeded 0 = .ok (.iconst (-1), 1) := by decide +kernel
theorem d_Ar_firstNeeded_1 : decode b_Ar_firstNeeded 1 = .ok (.istore_n 2, 1) := by decide +kernel
theorem d_Ar_firstNeeded_2 : decode b_Ar_firstNeeded 2 = .ok (.iconst 0, 1) := by decide +kernel
theorem d_Ar_firstNeeded_3 : decode b_Ar_firstNeeded 3 = .ok (.istore_n 3, 1) := by decide +kernel
theorem d_Ar_firstNeeded_4 : decode b_Ar_firstNeeded 4 = .ok (.iload_n 3, 1) := by decide +kernel
theorem d_Ar_firstNeeded_5 : decode b_Ar_firstNeeded 5 = .ok (.aload_n 0, 1) := by decide +kernel
theorem d_Ar_firstNeeded_6 : decode b_Ar_firstNeeded 6 = .ok (.getfield 22, 3) := by decide +kernel
theorem d_Ar_firstNeeded_9 : decode b_Ar_firstNeeded 9 = .ok (.getfield 54, 3) := by decide +kernel
theorem d_Ar_firstNeeded_12 : decode b_Ar_firstNeeded 12 = .ok (.if_icmp .ge 81, 3) := by decide +kernel
theorem d_Ar_firstNeeded_15 : decode b_Ar_firstNeeded 15 = .ok (.aload_n 0, 1) := by decide +kernel
theorem d_Ar_firstNeeded_16 : decode b_Ar_firstNeeded 16 = .ok (.getfield 22, 3) := by decide +kernel
theorem d_Ar_firstNeeded_19 : decode b_Ar_firstNeeded 19 = .ok (.getfield 57, 3) := by decide +kernel
theorem d_Ar_firstNeeded_22 : decode b_Ar_firstNeeded 22 = .ok (.iload_n 3, 1) := by decide +kernel
theorem d_Ar_firstNeeded_23 : decode b_Ar_firstNeeded 23 = .ok (.iaload, 1) := by decide +kernel
theorem d_Ar_firstNeeded_24 : decode b_Ar_firstNeeded 24 = .ok (.istore 4, 2) := by decide +kernel
theorem d_Ar_firstNeeded_26 : decode b_Ar_firstNeeded 26 = .ok (.aload_n 0, 1) := by decide +kernel
theorem d_Ar_firstNeeded_27 : decode b_Ar_firstNeeded 27 = .ok (.getfield 18, 3) := by decide +kernel
theorem d_Ar_firstNeeded_30 : decode b_Ar_firstNeeded 30 = .ok (.getfield 43, 3) := by decide +kernel
theorem d_Ar_firstNeeded_33 : decode b_Ar_firstNeeded 33 = .ok (.iload 4, 2) := by decide +kernel
theorem d_Ar_firstNeeded_35 : decode b_Ar_firstNeeded 35 = .ok (.iaload, 1) := by decide +kernel
theorem d_Ar_firstNeeded_36 : decode b_Ar_firstNeeded 36 = .ok (.iload_n 1, 1) := by decide +kernel
theorem d_Ar_firstNeeded_37 : decode b_Ar_firstNeeded 37 = .ok (.if_icmp .ne 20, 3) := by decide +kernel
theorem d_Ar_firstNeeded_40 : decode b_Ar_firstNeeded 40 = .ok (.aload_n 0, 1) := by decide +kernel
theorem d_Ar_firstNeeded_41 : decode b_Ar_firstNeeded 41 = .ok (.getfield 18, 3) := by decide +kernel
theorem d_Ar_firstNeeded_44 : decode b_Ar_firstNeeded 44 = .ok (.getfield 40, 3) := by decide +kernel
theorem d_Ar_firstNeeded_47 : decode b_Ar_firstNeeded 47 = .ok (.iload 4, 2) := by decide +kernel
theorem d_Ar_firstNeeded_49 : decode b_Ar_firstNeeded 49 = .ok (.baload, 1) := by decide +kernel
theorem d_Ar_firstNeeded_50 : decode b_Ar_firstNeeded 50 = .ok (.ifCond .ne 7, 3) := by decide +kernel
theorem d_Ar_firstNeeded_53 : decode b_Ar_firstNeeded 53 = .ok (.iconst 1, 1) := by decide +kernel
theorem d_Ar_firstNeeded_54 : decode b_Ar_firstNeeded 54 = .ok (.goto 4, 3) := by decide +kernel
theorem d_Ar_firstNeeded_57 : decode b_Ar_firstNeeded 57 = .ok (.iconst 0, 1) := by decide +kernel
theorem d_Ar_firstNeeded_58 : decode b_Ar_firstNeeded 58 = .ok (.istore 5, 2) := by decide +kernel
theorem d_Ar_firstNeeded_60 : decode b_Ar_firstNeeded 60 = .ok (.iload 5, 2) := by decide +kernel
theorem d_Ar_firstNeeded_62 : decode b_Ar_firstNeeded 62 = .ok (.ifCond .eq 25, 3) := by decide +kernel
theorem d_Ar_firstNeeded_65 : decode b_Ar_firstNeeded 65 = .ok (.aload_n 0, 1) := by decide +kernel
theorem d_Ar_firstNeeded_66 : decode b_Ar_firstNeeded 66 = .ok (.iload_n 3, 1) := by decide +kernel
theorem d_Ar_firstNeeded_67 : decode b_Ar_firstNeeded 67 = .ok (.invokevirtual 73, 3) := by decide +kernel
theorem d_Ar_firstNeeded_70 : decode b_Ar_firstNeeded 70 = .ok (.ifCond .eq 17, 3) := by decide +kernel
theorem d_Ar_firstNeeded_73 : decode b_Ar_firstNeeded 73 = .ok (.iload_n 2, 1) := by decide +kernel
theorem d_Ar_firstNeeded_74 : decode b_Ar_firstNeeded 74 = .ok (.iconst (-1), 1) := by decide +kernel
theorem d_Ar_firstNeeded_75 : decode b_Ar_firstNeeded 75 = .ok (.if_icmp .eq 9, 3) := by decide +kernel
theorem d_Ar_firstNeeded_78 : decode b_Ar_firstNeeded 78 = .ok (.iload 4, 2) := by decide +kernel
theorem d_Ar_firstNeeded_80 : decode b_Ar_firstNeeded 80 = .ok (.iload_n 2, 1) := by decide +kernel
theorem d_Ar_firstNeeded_81 : decode b_Ar_firstNeeded 81 = .ok (.if_icmp .ge 6, 3) := by decide +kernel
theorem d_Ar_firstNeeded_84 : decode b_Ar_firstNeeded 84 = .ok (.iload 4, 2) := by decide +kernel
theorem d_Ar_firstNeeded_86 : decode b_Ar_firstNeeded 86 = .ok (.istore_n 2, 1) := by decide +kernel
theorem d_Ar_firstNeeded_87 : decode b_Ar_firstNeeded 87 = .ok (.iinc 3 1, 3) := by decide +kernel
theorem d_Ar_firstNeeded_90 : decode b_Ar_firstNeeded 90 = .ok (.goto (-86), 3) := by decide +kernel
theorem d_Ar_firstNeeded_93 : decode b_Ar_firstNeeded 93 = .ok (.iload_n 2, 1) := by decide +kernel
theorem d_Ar_firstNeeded_94 : decode b_Ar_firstNeeded 94 = .ok (.ireturn, 1) := by decide +kernel
theorem d_Ar_goThroughArchives_0 : decode b_Ar_goThroughArchives 0 = .ok (.iconst 0, 1) := by decide +kernel
theorem d_Ar_goThroughArchives_1 : decode b_Ar_goThroughArchives 1 = .ok (.istore_n 1, 1) := by decide +kernel
theorem d_Ar_goThroughArchives_2 : decode b_Ar_goThroughArchives 2 = .ok (.iconst 0, 1) := by decide +kernel
theorem d_Ar_goThroughArchives_3 : decode b_Ar_goThroughArchives 3 = .ok (.istore_n 2, 1) := by decide +kernel
theorem d_Ar_goThroughArchives_4 : decode b_Ar_goThroughArchives 4 = .ok (.iload_n 2, 1) := by decide +kernel
theorem d_Ar_goThroughArchives_5 : decode b_Ar_goThroughArchives 5 = .ok (.iconst 4, 1) := by decide +kernel
theorem d_Ar_goThroughArchives_6 : decode b_Ar_goThroughArchives 6 = .ok (.if_icmp .ge 47, 3) := by decide +kernel
theorem d_Ar_goThroughArchives_9 : decode b_Ar_goThroughArchives 9 = .ok (.iconst 0, 1) := by decide +kernel
theorem d_Ar_goThroughArchives_10 : decode b_Ar_goThroughArchives 10 = .ok (.istore_n 3, 1) := by decide +kernel
theorem d_Ar_goThroughArchives_11 : decode b_Ar_goThroughArchives 11 = .ok (.iload_n 3, 1) := by decide +kernel
theorem d_Ar_goThroughArchives_12 : decode b_Ar_goThroughArchives 12 = .ok (.bipush 24, 2) := by decide +kernel
theorem d_Ar_goThroughArchives_14 : decode b_Ar_goThroughArchives 14 = .ok (.if_icmp .ge 33, 3) := by decide +kernel
theorem d_Ar_goThroughArchives_17 : decode b_Ar_goThroughArchives 17 = .ok (.aload_n 0, 1) := by decide +kernel
theorem d_Ar_goThroughArchives_18 : decode b_Ar_goThroughArchives 18 = .ok (.iload_n 2, 1) := by decide +kernel
theorem d_Ar_goThroughArchives_19 : decode b_Ar_goThroughArchives 19 = .ok (.invokevirtual 50, 3) := by decide +kernel
theorem d_Ar_goThroughArchives_22 : decode b_Ar_goThroughArchives 22 = .ok (.istore 4, 2) := by decide +kernel
theorem d_Ar_goThroughArchives_24 : decode b_Ar_goThroughArchives 24 = .ok (.iload 4, 2) := by decide +kernel
theorem d_Ar_goThroughArchives_26 : decode b_Ar_goThroughArchives 26 = .ok (.iconst (-1), 1) := by decide +kernel
theorem d_Ar_goThroughArchives_27 : decode b_Ar_goThroughArchives 27 = .ok (.if_icmp .ne 6, 3) := by decide +kernel
theorem d_Ar_goThroughArchives_30 : decode b_Ar_goThroughArchives 30 = .ok (.goto 17, 3) := by decide +kernel
theorem d_Ar_goThroughArchives_33 : decode b_Ar_goThroughArchives 33 = .ok (.aload_n 0, 1) := by decide +kernel
theorem d_Ar_goThroughArchives_34 : decode b_Ar_goThroughArchives 34 = .ok (.iload 4, 2) := by decide +kernel
theorem d_Ar_goThroughArchives_36 : decode b_Ar_goThroughArchives 36 = .ok (.invokevirtual 47, 3) := by decide +kernel
theorem d_Ar_goThroughArchives_39 : decode b_Ar_goThroughArchives 39 = .ok (.iconst 1, 1) := by decide +kernel
theorem d_Ar_goThroughArchives_40 : decode b_Ar_goThroughArchives 40 = .ok (.istore_n 1, 1) := by decide +kernel
theorem d_Ar_goThroughArchives_41 : decode b_Ar_goThroughArchives 41 = .ok (.iinc 3 1, 3) := by decide +kernel
theorem d_Ar_goThroughArchives_44 : decode b_Ar_goThroughArchives 44 = .ok (.goto (-33), 3) := by decide +kernel
theorem d_Ar_goThroughArchives_47 : decode b_Ar_goThroughArchives 47 = .ok (.iinc 2 1, 3) := by decide +kernel
theorem d_Ar_goThroughArchives_50 : decode b_Ar_goThroughArchives 50 = .ok (.goto (-46), 3) := by decide +kernel
theorem d_Ar_goThroughArchives_53 : decode b_Ar_goThroughArchives 53 = .ok (.iload_n 1, 1) := by decide +kernel
theorem d_Ar_goThroughArchives_54 : decode b_Ar_goThroughArchives 54 = .ok (.ireturn, 1) := by decide +kernel
theorem d_Ar_bringIn_0 : decode b_Ar_bringIn 0 = .ok (.aload_n 0, 1) := by decide +kernel
theorem d_Ar_bringIn_1 : decode b_Ar_bringIn 1 = .ok (.iload_n 1, 1) := by decide +kernel
theorem d_Ar_bringIn_2 : decode b_Ar_bringIn 2 = .ok (.invokevirtual 26, 3) := by decide +kernel
theorem d_Ar_bringIn_5 : decode b_Ar_bringIn 5 = .ok (.iload_n 2, 1) := by decide +kernel
theorem d_Ar_bringIn_6 : decode b_Ar_bringIn 6 = .ok (.ifCond .eq 8, 3) := by decide +kernel
theorem d_Ar_bringIn_9 : decode b_Ar_bringIn 9 = .ok (.bipush 25, 2) := by decide +kernel
theorem d_Ar_bringIn_11 : decode b_Ar_bringIn 11 = .ok (.goto 4, 3) := by decide +kernel
theorem d_Ar_bringIn_14 : decode b_Ar_bringIn 14 = .ok (.iconst 1, 1) := by decide +kernel
theorem d_Ar_bringIn_15 : decode b_Ar_bringIn 15 = .ok (.istore_n 3, 1) := by decide +kernel
theorem d_Ar_bringIn_16 : decode b_Ar_bringIn 16 = .ok (.iconst 0, 1) := by decide +kernel
theorem d_Ar_bringIn_17 : decode b_Ar_bringIn 17 = .ok (.istore 4, 2) := by decide +kernel
theorem d_Ar_bringIn_19 : decode b_Ar_bringIn 19 = .ok (.iload 4, 2) := by decide +kernel
theorem d_Ar_bringIn_21 : decode b_Ar_bringIn 21 = .ok (.iload_n 3, 1) := by decide +kernel
theorem d_Ar_bringIn_22 : decode b_Ar_bringIn 22 = .ok (.if_icmp .ge 19, 3) := by decide +kernel
theorem d_Ar_bringIn_25 : decode b_Ar_bringIn 25 = .ok (.aload_n 0, 1) := by decide +kernel
theorem d_Ar_bringIn_26 : decode b_Ar_bringIn 26 = .ok (.invokevirtual 30, 3) := by decide +kernel
theorem d_Ar_bringIn_29 : decode b_Ar_bringIn 29 = .ok (.ifCond .ne 6, 3) := by decide +kernel
theorem d_Ar_bringIn_32 : decode b_Ar_bringIn 32 = .ok (.goto 9, 3) := by decide +kernel
theorem d_Ar_bringIn_35 : decode b_Ar_bringIn 35 = .ok (.iinc 4 1, 3) := by decide +kernel
theorem d_Ar_bringIn_38 : decode b_Ar_bringIn 38 = .ok (.goto (-19), 3) := by decide +kernel
theorem d_Ar_bringIn_41 : decode b_Ar_bringIn 41 = .ok (.return_, 1) := by decide +kernel
theorem d_Na_isCommon_0 : decode b_Na_isCommon 0 = .ok (.aload_n 0, 1) := by decide +kernel
theorem d_Na_isCommon_1 : decode b_Na_isCommon 1 = .ok (.getfield 9, 3) := by decide +kernel
theorem d_Na_isCommon_4 : decode b_Na_isCommon 4 = .ok (.iload_n 1, 1) := by decide +kernel
theorem d_Na_isCommon_5 : decode b_Na_isCommon 5 = .ok (.iaload, 1) := by decide +kernel
theorem d_Na_isCommon_6 : decode b_Na_isCommon 6 = .ok (.iconst (-1), 1) := by decide +kernel
theorem d_Na_isCommon_7 : decode b_Na_isCommon 7 = .ok (.if_icmp .ne 16, 3) := by decide +kernel
theorem d_Na_isCommon_10 : decode b_Na_isCommon 10 = .ok (.aload_n 0, 1) := by decide +kernel
theorem d_Na_isCommon_11 : decode b_Na_isCommon 11 = .ok (.getfield 18, 3) := by decide +kernel
theorem d_Na_isCommon_14 : decode b_Na_isCommon 14 = .ok (.iload_n 1, 1) := by decide +kernel
theorem d_Na_isCommon_15 : decode b_Na_isCommon 15 = .ok (.iaload, 1) := by decide +kernel
theorem d_Na_isCommon_16 : decode b_Na_isCommon 16 = .ok (.ifCond .le 7, 3) := by decide +kernel
theorem d_Na_isCommon_19 : decode b_Na_isCommon 19 = .ok (.iconst 1, 1) := by decide +kernel
theorem d_Na_isCommon_20 : decode b_Na_isCommon 20 = .ok (.goto 4, 3) := by decide +kernel
theorem d_Na_isCommon_23 : decode b_Na_isCommon 23 = .ok (.iconst 0, 1) := by decide +kernel
theorem d_Na_isCommon_24 : decode b_Na_isCommon 24 = .ok (.ireturn, 1) := by decide +kernel
theorem d_Na_definer_0 : decode b_Na_definer 0 = .ok (.aload_n 0, 1) := by decide +kernel
theorem d_Na_definer_1 : decode b_Na_definer 1 = .ok (.getfield 9, 3) := by decide +kernel
theorem d_Na_definer_4 : decode b_Na_definer 4 = .ok (.iload_n 1, 1) := by decide +kernel
theorem d_Na_definer_5 : decode b_Na_definer 5 = .ok (.iaload, 1) := by decide +kernel
theorem d_Na_definer_6 : decode b_Na_definer 6 = .ok (.iconst (-1), 1) := by decide +kernel
theorem d_Na_definer_7 : decode b_Na_definer 7 = .ok (.if_icmp .eq 10, 3) := by decide +kernel
theorem d_Na_definer_10 : decode b_Na_definer 10 = .ok (.aload_n 0, 1) := by decide +kernel
theorem d_Na_definer_11 : decode b_Na_definer 11 = .ok (.getfield 9, 3) := by decide +kernel
theorem d_Na_definer_14 : decode b_Na_definer 14 = .ok (.iload_n 1, 1) := by decide +kernel
theorem d_Na_definer_15 : decode b_Na_definer 15 = .ok (.iaload, 1) := by decide +kernel
theorem d_Na_definer_16 : decode b_Na_definer 16 = .ok (.ireturn, 1) := by decide +kernel
theorem d_Na_definer_17 : decode b_Na_definer 17 = .ok (.aload_n 0, 1) := by decide +kernel
theorem d_Na_definer_18 : decode b_Na_definer 18 = .ok (.iload_n 1, 1) := by decide +kernel
theorem d_Na_definer_19 : decode b_Na_definer 19 = .ok (.invokevirtual 93, 3) := by decide +kernel
theorem d_Na_definer_22 : decode b_Na_definer 22 = .ok (.ifCond .eq 7, 3) := by decide +kernel
theorem d_Na_definer_25 : decode b_Na_definer 25 = .ok (.iconst (-1), 1) := by decide +kernel
theorem d_Na_definer_26 : decode b_Na_definer 26 = .ok (.goto 9, 3) := by decide +kernel
theorem d_Na_definer_29 : decode b_Na_definer 29 = .ok (.aload_n 0, 1) := by decide +kernel
theorem d_Na_definer_30 : decode b_Na_definer 30 = .ok (.getfield 15, 3) := by decide +kernel
theorem d_Na_definer_33 : decode b_Na_definer 33 = .ok (.iload_n 1, 1) := by decide +kernel
theorem d_Na_definer_34 : decode b_Na_definer 34 = .ok (.iaload, 1) := by decide +kernel
theorem d_Na_definer_35 : decode b_Na_definer 35 = .ok (.ireturn, 1) := by decide +kernel
theorem d_Na_isDefined_0 : decode b_Na_isDefined 0 = .ok (.aload_n 0, 1) := by decide +kernel
theorem d_Na_isDefined_1 : decode b_Na_isDefined 1 = .ok (.iload_n 1, 1) := by decide +kernel
theorem d_Na_isDefined_2 : decode b_Na_isDefined 2 = .ok (.invokevirtual 93, 3) := by decide +kernel
theorem d_Na_isDefined_5 : decode b_Na_isDefined 5 = .ok (.ifCond .ne 12, 3) := by decide +kernel
theorem d_Na_isDefined_8 : decode b_Na_isDefined 8 = .ok (.aload_n 0, 1) := by decide +kernel
theorem d_Na_isDefined_9 : decode b_Na_isDefined 9 = .ok (.iload_n 1, 1) := by decide +kernel
theorem d_Na_isDefined_10 : decode b_Na_isDefined 10 = .ok (.invokevirtual 96, 3) := by decide +kernel
theorem d_Na_isDefined_13 : decode b_Na_isDefined 13 = .ok (.iconst (-1), 1) := by decide +kernel
theorem d_Na_isDefined_14 : decode b_Na_isDefined 14 = .ok (.if_icmp .eq 7, 3) := by decide +kernel
theorem d_Na_isDefined_17 : decode b_Na_isDefined 17 = .ok (.iconst 1, 1) := by decide +kernel
theorem d_Na_isDefined_18 : decode b_Na_isDefined 18 = .ok (.goto 4, 3) := by decide +kernel
theorem d_Na_isDefined_21 : decode b_Na_isDefined 21 = .ok (.iconst 0, 1) := by decide +kernel
theorem d_Na_isDefined_22 : decode b_Na_isDefined 22 = .ok (.ireturn, 1) := by decide +kernel
theorem d_Na_sectionOf_0 : decode b_Na_sectionOf 0 = .ok (.aload_n 0, 1) := by decide +kernel
theorem d_Na_sectionOf_1 : decode b_Na_sectionOf 1 = .ok (.iload_n 1, 1) := by decide +kernel
theorem d_Na_sectionOf_2 : decode b_Na_sectionOf 2 = .ok (.invokevirtual 96, 3) := by decide +kernel
theorem d_Na_sectionOf_5 : decode b_Na_sectionOf 5 = .ok (.istore_n 2, 1) := by decide +kernel
theorem d_Na_sectionOf_6 : decode b_Na_sectionOf 6 = .ok (.iload_n 2, 1) := by decide +kernel
theorem d_Na_sectionOf_7 : decode b_Na_sectionOf 7 = .ok (.iconst (-1), 1) := by decide +kernel
theorem d_Na_sectionOf_8 : decode b_Na_sectionOf 8 = .ok (.if_icmp .ne 7, 3) := by decide +kernel
theorem d_Na_sectionOf_11 : decode b_Na_sectionOf 11 = .ok (.iconst (-1), 1) := by decide +kernel
theorem d_Na_sectionOf_12 : decode b_Na_sectionOf 12 = .ok (.goto 12, 3) := by decide +kernel
theorem d_Na_sectionOf_15 : decode b_Na_sectionOf 15 = .ok (.aload_n 0, 1) := by decide +kernel
theorem d_Na_sectionOf_16 : decode b_Na_sectionOf 16 = .ok (.getfield 34, 3) := by decide +kernel
theorem d_Na_sectionOf_19 : decode b_Na_sectionOf 19 = .ok (.getfield 100, 3) := by decide +kernel
theorem d_Na_sectionOf_22 : decode b_Na_sectionOf 22 = .ok (.iload_n 2, 1) := by decide +kernel
theorem d_Na_sectionOf_23 : decode b_Na_sectionOf 23 = .ok (.iaload, 1) := by decide +kernel
theorem d_Na_sectionOf_24 : decode b_Na_sectionOf 24 = .ok (.ireturn, 1) := by decide +kernel
theorem d_Na_setMeaning_0 : decode b_Na_setMeaning 0 = .ok (.aload_n 0, 1) := by decide +kernel
theorem d_Na_setMeaning_1 : decode b_Na_setMeaning 1 = .ok (.getfield 21, 3) := by decide +kernel
theorem d_Na_setMeaning_4 : decode b_Na_setMeaning 4 = .ok (.iload_n 1, 1) := by decide +kernel
theorem d_Na_setMeaning_5 : decode b_Na_setMeaning 5 = .ok (.iload_n 2, 1) := by decide +kernel
theorem d_Na_setMeaning_6 : decode b_Na_setMeaning 6 = .ok (.iastore, 1) := by decide +kernel
theorem d_Na_setMeaning_7 : decode b_Na_setMeaning 7 = .ok (.aload_n 0, 1) := by decide +kernel
theorem d_Na_setMeaning_8 : decode b_Na_setMeaning 8 = .ok (.getfield 24, 3) := by decide +kernel
theorem d_Na_setMeaning_11 : decode b_Na_setMeaning 11 = .ok (.iload_n 1, 1) := by decide +kernel
theorem d_Na_setMeaning_12 : decode b_Na_setMeaning 12 = .ok (.iload_n 3, 1) := by decide +kernel
theorem d_Na_setMeaning_13 : decode b_Na_setMeaning 13 = .ok (.iastore, 1) := by decide +kernel
theorem d_Na_setMeaning_14 : decode b_Na_setMeaning 14 = .ok (.aload_n 0, 1) := by decide +kernel
theorem d_Na_setMeaning_15 : decode b_Na_setMeaning 15 = .ok (.getfield 27, 3) := by decide +kernel
theorem d_Na_setMeaning_18 : decode b_Na_setMeaning 18 = .ok (.iload_n 1, 1) := by decide +kernel
theorem d_Na_setMeaning_19 : decode b_Na_setMeaning 19 = .ok (.iload 4, 2) := by decide +kernel
theorem d_Na_setMeaning_21 : decode b_Na_setMeaning 21 = .ok (.iastore, 1) := by decide +kernel
theorem d_Na_setMeaning_22 : decode b_Na_setMeaning 22 = .ok (.return_, 1) := by decide +kernel
theorem d_Na_copyMeaning_0 : decode b_Na_copyMeaning 0 = .ok (.aload_n 0, 1) := by decide +kernel
theorem d_Na_copyMeaning_1 : decode b_Na_copyMeaning 1 = .ok (.iload_n 1, 1) := by decide +kernel
theorem d_Na_copyMeaning_2 : decode b_Na_copyMeaning 2 = .ok (.aload_n 0, 1) := by decide +kernel
theorem d_Na_copyMeaning_3 : decode b_Na_copyMeaning 3 = .ok (.getfield 34, 3) := by decide +kernel
theorem d_Na_copyMeaning_6 : decode b_Na_copyMeaning 6 = .ok (.getfield 110, 3) := by decide +kernel
theorem d_Na_copyMeaning_9 : decode b_Na_copyMeaning 9 = .ok (.iload_n 2, 1) := by decide +kernel
theorem d_Na_copyMeaning_10 : decode b_Na_copyMeaning 10 = .ok (.iaload, 1) := by decide +kernel
theorem d_Na_copyMeaning_11 : decode b_Na_copyMeaning 11 = .ok (.aload_n 0, 1) := by decide +kernel
theorem d_Na_copyMeaning_12 : decode b_Na_copyMeaning 12 = .ok (.getfield 34, 3) := by decide +kernel
theorem d_Na_copyMeaning_15 : decode b_Na_copyMeaning 15 = .ok (.getfield 100, 3) := by decide +kernel
theorem d_Na_copyMeaning_18 : decode b_Na_copyMeaning 18 = .ok (.iload_n 2, 1) := by decide +kernel
theorem d_Na_copyMeaning_19 : decode b_Na_copyMeaning 19 = .ok (.iaload, 1) := by decide +kernel
theorem d_Na_copyMeaning_20 : decode b_Na_copyMeaning 20 = .ok (.aload_n 0, 1) := by decide +kernel
theorem d_Na_copyMeaning_21 : decode b_Na_copyMeaning 21 = .ok (.getfield 34, 3) := by decide +kernel
theorem d_Na_copyMeaning_24 : decode b_Na_copyMeaning 24 = .ok (.getfield 83, 3) := by decide +kernel
theorem d_Na_copyMeaning_27 : decode b_Na_copyMeaning 27 = .ok (.iload_n 2, 1) := by decide +kernel
theorem d_Na_copyMeaning_28 : decode b_Na_copyMeaning 28 = .ok (.iaload, 1) := by decide +kernel
theorem d_Na_copyMeaning_29 : decode b_Na_copyMeaning 29 = .ok (.invokevirtual 103, 3) := by decide +kernel
theorem d_Na_copyMeaning_32 : decode b_Na_copyMeaning 32 = .ok (.return_, 1) := by decide +kernel
end
section
set_option maxHeartbeats 4000000 in
set_option maxRecDepth 100000 in
theorem c_Ly_takeLinkAway (l : Launch) (D : va_G) (cI cZ : ClassId) (a : Nat → Nat) {V : Sto} {r : Int32} {V' : Sto} (h : f_Ly_takeLinkAway V = some (r, V')) : YMv l D cI cZ a shpC y_Ly_takeLinkAway b_Ly_takeLinkAway 1 rm_Ly_takeLinkAway true [.ref (a 0)] V V' := by
  refine YMv_of (by decide) (Nat.le_of_ble_eq_true rfl) ?_
  intro C hl hDD hcI hcZ ha hC hw hE
  subst hl hDD hcI hcZ ha
  show Y C shpC 1 0 [(0, .ref (C.a 0))] [] V
  have hw := hw rfl
  rw [f_Ly_takeLinkAway] at h
  refine Y_aload_n (pc := 0) hC d_Ly_takeLinkAway_0 rfl 0 rfl ?_
  refine Y_iconst (pc := 1) hC d_Ly_takeLinkAway_1 ki_0 ?_
  obtain ⟨V1, hV1, h⟩ := nm_some h
  refine Y_put (pc := 2) hC sc_0 fl_Ly_243 rfl (by decide) fp_Ly ft_Ly_14 rfl rfl hw hV1 d_Ly_takeLinkAway_2 ?_
  refine Y_aload_n (pc := 5) hC d_Ly_takeLinkAway_5 rfl 0 rfl ?_
  refine Y_iconst (pc := 6) hC d_Ly_takeLinkAway_6 ki_0 ?_
  obtain ⟨V2, hV2, h⟩ := nm_some h
  refine Y_put (pc := 7) hC sc_0 fl_Ly_249 rfl (by decide) fp_Ly ft_Ly_15 rfl rfl hw hV2 d_Ly_takeLinkAway_7 ?_
  refine Y_aload_n (pc := 10) hC d_Ly_takeLinkAway_10 rfl 0 rfl ?_
  refine Y_iconst (pc := 11) hC d_Ly_takeLinkAway_11 ki_m1 ?_
  obtain ⟨V3, hV3, h⟩ := nm_some h
  refine Y_put (pc := 12) hC sc_0 fl_Ly_102 rfl (by decide) fp_Ly ft_Ly_16 rfl rfl hw hV3 d_Ly_takeLinkAway_12 ?_
  refine Y_aload_n (pc := 15) hC d_Ly_takeLinkAway_15 rfl 0 rfl ?_
  refine Y_iconst (pc := 16) hC d_Ly_takeLinkAway_16 ki_m1 ?_
  obtain ⟨V4, hV4, h⟩ := nm_some h
  refine Y_put (pc := 17) hC sc_0 fl_Ly_105 rfl (by decide) fp_Ly ft_Ly_17 rfl rfl hw hV4 d_Ly_takeLinkAway_17 ?_
  exact Y_vret (pc := 20) hC hE d_Ly_takeLinkAway_20 h
set_option maxHeartbeats 4000000 in
set_option maxRecDepth 100000 in
theorem c_Ly_fold (l : Launch) (D : va_G) (cI cZ : ClassId) (a : Nat → Nat) {V : Sto} {p1 : Int32} {p2 : Int32} {r : Int32} {V' : Sto} (h : f_Ly_fold V p1 p2 = some (r, V')) : YMv l D cI cZ a shpC y_Ly_fold b_Ly_fold 3 rm_Ly_fold true [.ref (a 0), .int p1, .int p2] V V' := by
  refine YMv_of (by decide) (Nat.le_of_ble_eq_true rfl) ?_
  intro C hl hDD hcI hcZ ha hC hw hE
  subst hl hDD hcI hcZ ha
  show Y C shpC 3 0 [(0, .ref (C.a 0)), (1, .int p1), (2, .int p2)] [] V
  have hw := hw rfl
  rw [f_Ly_fold] at h
  refine Y_aload_n (pc := 0) hC d_Ly_fold_0 rfl 0 rfl ?_
  obtain ⟨r1, V1, hc_r1, h⟩ := cl_some h
  refine Y_callVv (pc := 1) hC (c_Ly_takeLinkAway C.l C.D C.cI C.cZ C.a hc_r1) (fun _ => hw) sc_0 cls_Ly ml_Ly_123 mv_Ly_takeLinkAway (by decide) (Nat.le_of_ble_eq_true rfl) rfl d_Ly_fold_1 ?_
  refine Y_aload_n (pc := 4) hC d_Ly_fold_4 rfl 0 rfl ?_
  refine Y_iload_n (pc := 5) hC d_Ly_fold_5 rfl 1 rfl ?_
  obtain ⟨hbb, h⟩ := ck_some h
  obtain ⟨V2, hV2, h⟩ := nm_some h
  refine Y_put (pc := 6) hC sc_0 fl_Ly_223 rfl (by decide) fp_Ly ft_Ly_12 (bb_nar hbb) (bb_fit hbb) hw hV2 d_Ly_fold_6 ?_
  refine Y_aload_n (pc := 9) hC d_Ly_fold_9 rfl 0 rfl ?_
  refine Y_iload_n (pc := 10) hC d_Ly_fold_10 rfl 2 rfl ?_
  obtain ⟨hbb, h⟩ := ck_some h
  obtain ⟨V3, hV3, h⟩ := nm_some h
  refine Y_put (pc := 11) hC sc_0 fl_Ly_227 rfl (by decide) fp_Ly ft_Ly_13 (bb_nar hbb) (bb_fit hbb) hw hV3 d_Ly_fold_11 ?_
  exact Y_vret (pc := 14) hC hE d_Ly_fold_14 h
set_option maxHeartbeats 4000000 in
set_option maxRecDepth 100000 in
theorem c_Se_forget (l : Launch) (D : va_G) (cI cZ : ClassId) (a : Nat → Nat) {V : Sto} {r : Int32} {V' : Sto} (h : f_Se_forget V = some (r, V')) : YMv l D cI cZ a shpC y_Se_forget b_Se_forget 1 rm_Se_forget true [.ref (a 2)] V V' := by
  refine YMv_of (by decide) (Nat.le_of_ble_eq_true rfl) ?_
  intro C hl hDD hcI hcZ ha hC hw hE
  subst hl hDD hcI hcZ ha
  show Y C shpC 1 0 [(0, .ref (C.a 2))] [] V
  have hw := hw rfl
  rw [f_Se_forget] at h
  refine Y_aload_n (pc := 0) hC d_Se_forget_0 rfl 0 rfl ?_
  refine Y_iconst (pc := 1) hC d_Se_forget_1 ki_0 ?_
  obtain ⟨V1, hV1, h⟩ := nm_some h
  refine Y_put (pc := 2) hC sc_2 fl_Se_34 rfl (by decide) fp_Se ft_Se_0 rfl rfl hw hV1 d_Se_forget_2 ?_
  refine Y_aload_n (pc := 5) hC d_Se_forget_5 rfl 0 rfl ?_
  refine Y_iconst (pc := 6) hC d_Se_forget_6 ki_0 ?_
  obtain ⟨V2, hV2, h⟩ := nm_some h
  refine Y_put (pc := 7) hC sc_2 fl_Se_45 rfl (by decide) fp_Se ft_Se_1 rfl rfl hw hV2 d_Se_forget_7 ?_
  refine Y_aload_n (pc := 10) hC d_Se_forget_10 rfl 0 rfl ?_
  refine Y_iconst (pc := 11) hC d_Se_forget_11 ki_0 ?_
  obtain ⟨V3, hV3, h⟩ := nm_some h
  refine Y_put (pc := 12) hC sc_2 fl_Se_42 rfl (by decide) fp_Se ft_Se_2 rfl rfl hw hV3 d_Se_forget_12 ?_
  exact Y_vret (pc := 15) hC hE d_Se_forget_15 h
set_option maxHeartbeats 4000000 in
set_option maxRecDepth 100000 in
theorem c_Ly_clear (l : Launch) (D : va_G) (cI cZ : ClassId) (a : Nat → Nat) {V : Sto} {r : Int32} {V' : Sto} (h : f_Ly_clear V = some (r, V')) : YMv l D cI cZ a shpC y_Ly_clear b_Ly_clear 1 rm_Ly_clear true [.ref (a 0)] V V' := by
  refine YMv_of (by decide) (Nat.le_of_ble_eq_true rfl) ?_
  intro C hl hDD hcI hcZ ha hC hw hE
  subst hl hDD hcI hcZ ha
  show Y C shpC 1 0 [(0, .ref (C.a 0))] [] V
  have hw := hw rfl
  rw [f_Ly_clear] at h
  refine Y_aload_n (pc := 0) hC d_Ly_clear_0 rfl 0 rfl ?_
  obtain ⟨r1, V1, hc_r1, h⟩ := cl_some h
  refine Y_callVv (pc := 1) hC (c_Ly_takeLinkAway C.l C.D C.cI C.cZ C.a hc_r1) (fun _ => hw) sc_0 cls_Ly ml_Ly_123 mv_Ly_takeLinkAway (by decide) (Nat.le_of_ble_eq_true rfl) rfl d_Ly_clear_1 ?_
  refine Y_aload_n (pc := 4) hC d_Ly_clear_4 rfl 0 rfl ?_
  refine Y_getR (pc := 5) hC sc_0 fl_Ly_10 rfl d_Ly_clear_5 ?_
  refine Y_iconst (pc := 8) hC d_Ly_clear_8 ki_0 ?_
  obtain ⟨V2, hV2, h⟩ := nm_some h
  refine Y_put (pc := 9) hC sc_1 fl_Ly_115 rfl (by decide) fp_Un ft_Un_0 rfl rfl hw hV2 d_Ly_clear_9 ?_
  refine Y_aload_n (pc := 12) hC d_Ly_clear_12 rfl 0 rfl ?_
  refine Y_getR (pc := 13) hC sc_0 fl_Ly_19 rfl d_Ly_clear_13 ?_
  obtain ⟨r2, V3, hc_r2, h⟩ := cl_some h
  refine Y_callVv (pc := 16) hC (c_Se_forget C.l C.D C.cI C.cZ C.a hc_r2) (fun _ => hw) sc_2 cls_Se ml_Ly_230 mv_Se_forget (by decide) (Nat.le_of_ble_eq_true rfl) rfl d_Ly_clear_16 ?_
  refine Y_aload_n (pc := 19) hC d_Ly_clear_19 rfl 0 rfl ?_
  refine Y_getR (pc := 20) hC sc_0 fl_Ly_26 rfl d_Ly_clear_20 ?_
  refine Y_iconst (pc := 23) hC d_Ly_clear_23 ki_0 ?_
  obtain ⟨V4, hV4, h⟩ := nm_some h
  refine Y_put (pc := 24) hC sc_3 fl_Ly_185 rfl (by decide) fp_Sy ft_Sy_0 rfl rfl hw hV4 d_Ly_clear_24 ?_
  refine Y_aload_n (pc := 27) hC d_Ly_clear_27 rfl 0 rfl ?_
  refine Y_getR (pc := 28) hC sc_0 fl_Ly_33 rfl d_Ly_clear_28 ?_
  refine Y_iconst (pc := 31) hC d_Ly_clear_31 ki_0 ?_
  obtain ⟨V5, hV5, h⟩ := nm_some h
  refine Y_put (pc := 32) hC sc_4 fl_Ly_209 rfl (by decide) fp_Re ft_Re_0 rfl rfl hw hV5 d_Ly_clear_32 ?_
  refine Y_aload_n (pc := 35) hC d_Ly_clear_35 rfl 0 rfl ?_
  refine Y_iconst (pc := 36) hC d_Ly_clear_36 ki_m1 ?_
  obtain ⟨V6, hV6, h⟩ := nm_some h
  refine Y_put (pc := 37) hC sc_0 fl_Ly_98 rfl (by decide) fp_Ly ft_Ly_11 rfl rfl hw hV6 d_Ly_clear_37 ?_
  refine Y_aload_n (pc := 40) hC d_Ly_clear_40 rfl 0 rfl ?_
  refine Y_iconst (pc := 41) hC d_Ly_clear_41 ki_0 ?_
  obtain ⟨V7, hV7, h⟩ := nm_some h
  refine Y_put (pc := 42) hC sc_0 fl_Ly_223 rfl (by decide) fp_Ly ft_Ly_12 rfl rfl hw hV7 d_Ly_clear_42 ?_
  refine Y_aload_n (pc := 45) hC d_Ly_clear_45 rfl 0 rfl ?_
  refine Y_iconst (pc := 46) hC d_Ly_clear_46 ki_0 ?_
  obtain ⟨V8, hV8, h⟩ := nm_some h
  refine Y_put (pc := 47) hC sc_0 fl_Ly_227 rfl (by decide) fp_Ly ft_Ly_13 rfl rfl hw hV8 d_Ly_clear_47 ?_
  exact Y_vret (pc := 50) hC hE d_Ly_clear_50 h
set_option maxHeartbeats 4000000 in
set_option maxRecDepth 100000 in
theorem c_Sy_asksForName (l : Launch) (D : va_G) (cI cZ : ClassId) (a : Nat → Nat) {V : Sto} {p1 : Int32} {r : Int32} {V' : Sto} (h : f_Sy_asksForName V p1 = some (r, V')) : YMi l D cI cZ a shpC y_Sy_asksForName b_Sy_asksForName 2 (some .boolean) rm_Sy_asksForName false [.ref (a 3), .int p1] V r V' := by
  refine YMi_of (by decide) (Nat.le_of_ble_eq_true rfl) ?_
  intro C hl hDD hcI hcZ ha hC hw hE
  subst hl hDD hcI hcZ ha
  show Y C shpC 2 0 [(0, .ref (C.a 3)), (1, .int p1)] [] V
  rw [f_Sy_asksForName] at h
  refine Y_aload_n (pc := 0) hC d_Sy_asksForName_0 rfl 0 rfl ?_
  refine Y_getR (pc := 1) hC sc_3 fl_Sy_18 rfl d_Sy_asksForName_1 ?_
  refine Y_iload_n (pc := 4) hC d_Sy_asksForName_4 rfl 1 rfl ?_
  obtain ⟨hi, h⟩ := ck_some h
  refine Y_iald (pc := 5) hC sc_23 rfl hi d_Sy_asksForName_5 ?_
  refine Y_iconst (pc := 6) hC d_Sy_asksForName_6 ki_1 ?_
  refine Y_icmp_ne (pc := 7) hC 23 d_Sy_asksForName_7 rfl (fun cc_7 => ?_) (fun cc_7 => ?_)
  · have h := ifn cc_7 h
    refine Y_iconst (pc := 23) hC d_Sy_asksForName_23 ki_0 ?_
    exact Y_zret (pc := 24) hC hE d_Sy_asksForName_24 rfl h
  · have h := ifp cc_7 h
    refine Y_aload_n (pc := 10) hC d_Sy_asksForName_10 rfl 0 rfl ?_
    refine Y_getR (pc := 11) hC sc_3 fl_Sy_21 rfl d_Sy_asksForName_11 ?_
    refine Y_iload_n (pc := 14) hC d_Sy_asksForName_14 rfl 1 rfl ?_
    obtain ⟨hi, h⟩ := ck_some h
    refine Y_iald (pc := 15) hC sc_24 rfl hi d_Sy_asksForName_15 ?_
    refine Y_if_ne (pc := 16) hC 23 d_Sy_asksForName_16 rfl (fun cc_16 => ?_) (fun cc_16 => ?_)
    · have h := ifn cc_16 h
      refine Y_iconst (pc := 23) hC d_Sy_asksForName_23 ki_0 ?_
      exact Y_zret (pc := 24) hC hE d_Sy_asksForName_24 rfl h
    · have h := ifp cc_16 h
      refine Y_iconst (pc := 19) hC d_Sy_asksForName_19 ki_1 ?_
      refine Y_goto (pc := 20) hC 24 d_Sy_asksForName_20 rfl ?_
      exact Y_zret (pc := 24) hC hE d_Sy_asksForName_24 rfl h
set_option maxHeartbeats 4000000 in
set_option maxRecDepth 100000 in
theorem c_Sy_givesName (l : Launch) (D : va_G) (cI cZ : ClassId) (a : Nat → Nat) {V : Sto} {p1 : Int32} {r : Int32} {V' : Sto} (h : f_Sy_givesName V p1 = some (r, V')) : YMi l D cI cZ a shpC y_Sy_givesName b_Sy_givesName 2 (some .boolean) rm_Sy_givesName false [.ref (a 3), .int p1] V r V' := by
  refine YMi_of (by decide) (Nat.le_of_ble_eq_true rfl) ?_
  intro C hl hDD hcI hcZ ha hC hw hE
  subst hl hDD hcI hcZ ha
  show Y C shpC 2 0 [(0, .ref (C.a 3)), (1, .int p1)] [] V
  rw [f_Sy_givesName] at h
  refine Y_aload_n (pc := 0) hC d_Sy_givesName_0 rfl 0 rfl ?_
  refine Y_getR (pc := 1) hC sc_3 fl_Sy_18 rfl d_Sy_givesName_1 ?_
  refine Y_iload_n (pc := 4) hC d_Sy_givesName_4 rfl 1 rfl ?_
  obtain ⟨hi, h⟩ := ck_some h
  refine Y_iald (pc := 5) hC sc_23 rfl hi d_Sy_givesName_5 ?_
  refine Y_if_eq (pc := 6) hC 22 d_Sy_givesName_6 rfl (fun cc_6 => ?_) (fun cc_6 => ?_)
  · have h := ifp cc_6 h
    refine Y_iconst (pc := 22) hC d_Sy_givesName_22 ki_0 ?_
    exact Y_zret (pc := 23) hC hE d_Sy_givesName_23 rfl h
  · have h := ifn cc_6 h
    refine Y_aload_n (pc := 9) hC d_Sy_givesName_9 rfl 0 rfl ?_
    refine Y_getR (pc := 10) hC sc_3 fl_Sy_21 rfl d_Sy_givesName_10 ?_
    refine Y_iload_n (pc := 13) hC d_Sy_givesName_13 rfl 1 rfl ?_
    obtain ⟨hi, h⟩ := ck_some h
    refine Y_iald (pc := 14) hC sc_24 rfl hi d_Sy_givesName_14 ?_
    refine Y_if_eq (pc := 15) hC 22 d_Sy_givesName_15 rfl (fun cc_15 => ?_) (fun cc_15 => ?_)
    · have h := ifp cc_15 h
      refine Y_iconst (pc := 22) hC d_Sy_givesName_22 ki_0 ?_
      exact Y_zret (pc := 23) hC hE d_Sy_givesName_23 rfl h
    · have h := ifn cc_15 h
      refine Y_iconst (pc := 18) hC d_Sy_givesName_18 ki_1 ?_
      refine Y_goto (pc := 19) hC 23 d_Sy_givesName_19 rfl ?_
      exact Y_zret (pc := 23) hC hE d_Sy_givesName_23 rfl h
set_option maxHeartbeats 4000000 in
set_option maxRecDepth 100000 in
theorem c_Ar_note (l : Launch) (D : va_G) (cI cZ : ClassId) (a : Nat → Nat) {V : Sto} {p1 : Int32} {r : Int32} {V' : Sto} (h : f_Ar_note V p1 = some (r, V')) : YMv l D cI cZ a shpC y_Ar_note b_Ar_note 2 rm_Ar_note true [.ref (a 5), .int p1] V V' := by
  refine YMv_of (by decide) (Nat.le_of_ble_eq_true rfl) ?_
  intro C hl hDD hcI hcZ ha hC hw hE
  subst hl hDD hcI hcZ ha
  show Y C shpC 2 0 [(0, .ref (C.a 5)), (1, .int p1)] [] V
  have hw := hw rfl
  rw [f_Ar_note] at h
  refine Y_aload_n (pc := 0) hC d_Ar_note_0 rfl 0 rfl ?_
  refine Y_getR (pc := 1) hC sc_5 fl_Ar_22 rfl d_Ar_note_1 ?_
  refine Y_iload_n (pc := 4) hC d_Ar_note_4 rfl 1 rfl ?_
  obtain ⟨r1, V1, hc_r1, h⟩ := cl_some h
  refine Y_callV (pc := 5) hC (c_Sy_asksForName C.l C.D C.cI C.cZ C.a hc_r1) (fun q => nomatch q) sc_3 cls_Sy ml_Ar_63 mv_Sy_asksForName (by decide) (Nat.le_of_ble_eq_true rfl) rfl d_Ar_note_5 ?_
  obtain ⟨j1, hj1, h⟩ := jn_some h
  have kj1 : ∀ (V3 : Sto), j1 V3 = some (r, V') → Y C shpC 2 26 [(0, .ref (C.a 5)), (1, .int p1)] [] V3 := by
    intro V3 h
    subst hj1
    dsimp only at h
    refine Y_aload_n (pc := 26) hC d_Ar_note_26 rfl 0 rfl ?_
    refine Y_getR (pc := 27) hC sc_5 fl_Ar_22 rfl d_Ar_note_27 ?_
    refine Y_iload_n (pc := 30) hC d_Ar_note_30 rfl 1 rfl ?_
    obtain ⟨r2, V4, hc_r2, h⟩ := cl_some h
    refine Y_callV (pc := 31) hC (c_Sy_givesName C.l C.D C.cI C.cZ C.a hc_r2) (fun q => nomatch q) sc_3 cls_Sy ml_Ar_70 mv_Sy_givesName (by decide) (Nat.le_of_ble_eq_true rfl) rfl d_Ar_note_31 ?_
    refine Y_if_eq (pc := 34) hC 52 d_Ar_note_34 rfl (fun cc_34 => ?_) (fun cc_34 => ?_)
    · have h := ifp cc_34 h
      exact Y_vret (pc := 52) hC hE d_Ar_note_52 h
    · have h := ifn cc_34 h
      refine Y_aload_n (pc := 37) hC d_Ar_note_37 rfl 0 rfl ?_
      refine Y_getR (pc := 38) hC sc_5 fl_Ar_15 rfl d_Ar_note_38 ?_
      refine Y_aload_n (pc := 41) hC d_Ar_note_41 rfl 0 rfl ?_
      refine Y_getR (pc := 42) hC sc_5 fl_Ar_22 rfl d_Ar_note_42 ?_
      refine Y_getR (pc := 45) hC sc_3 fl_Ar_67 rfl d_Ar_note_45 ?_
      refine Y_iload_n (pc := 48) hC d_Ar_note_48 rfl 1 rfl ?_
      obtain ⟨hi, h⟩ := ck_some h
      refine Y_iald (pc := 49) hC sc_22 rfl hi d_Ar_note_49 ?_
      refine Y_iconst (pc := 50) hC d_Ar_note_50 ki_1 ?_
      obtain ⟨hi, h⟩ := ck_some h
      obtain ⟨V5, hV5, h⟩ := nm_some h
      refine Y_zast (pc := 51) hC sc_36 (by decide) rfl hi hw rfl hV5 d_Ar_note_51 ?_
      exact Y_vret (pc := 52) hC hE d_Ar_note_52 h
  refine Y_if_eq (pc := 8) hC 26 d_Ar_note_8 rfl (fun cc_8 => ?_) (fun cc_8 => ?_)
  · have h := ifp cc_8 h
    refine Y_sub (pc := 26) [0, 1] rfl ?_
    exact kj1 _ h
  · have h := ifn cc_8 h
    refine Y_aload_n (pc := 11) hC d_Ar_note_11 rfl 0 rfl ?_
    refine Y_getR (pc := 12) hC sc_5 fl_Ar_9 rfl d_Ar_note_12 ?_
    refine Y_aload_n (pc := 15) hC d_Ar_note_15 rfl 0 rfl ?_
    refine Y_getR (pc := 16) hC sc_5 fl_Ar_22 rfl d_Ar_note_16 ?_
    refine Y_getR (pc := 19) hC sc_3 fl_Ar_67 rfl d_Ar_note_19 ?_
    refine Y_iload_n (pc := 22) hC d_Ar_note_22 rfl 1 rfl ?_
    obtain ⟨hi, h⟩ := ck_some h
    refine Y_iald (pc := 23) hC sc_22 rfl hi d_Ar_note_23 ?_
    refine Y_iconst (pc := 24) hC d_Ar_note_24 ki_1 ?_
    obtain ⟨hi, h⟩ := ck_some h
    obtain ⟨V2, hV2, h⟩ := nm_some h
    refine Y_zast (pc := 25) hC sc_35 (by decide) rfl hi hw rfl hV2 d_Ar_note_25 ?_
    refine Y_sub (pc := 26) [0, 1] rfl ?_
    exact kj1 _ h
set_option maxHeartbeats 4000000 in
set_option maxRecDepth 100000 in
theorem ylp_Ar_admit_12 {C : YC} {r : Int32} {V' : Sto} {x1 : Int32} {k47 : Sto → RT} (hC : YF C R_Ar b_Ar_admit 3 rm_Ar_admit) (hw : YWr C shpC) (hE : YEv C shpC V') (hk47 : ∀ (V1 : Sto), k47 V1 = some (r, V') → Y C shpC 3 47 [] [] V1) : ∀ (n : Nat) (x2 : Int32) (V : Sto), lp_Ar_admit_12 x1 k47 n x2 V = some (r, V') → Y C shpC 3 12 [(0, .ref (C.a 5)), (1, .int x1), (2, .int x2)] [] V := by
  intro n
  induction n with
  | zero =>
    intro x2 V h
    rw [lp_Ar_admit_12] at h
    cases h
  | succ n ih =>
    intro x2 V h
    rw [lp_Ar_admit_12] at h
    refine Y_iload_n (pc := 12) hC d_Ar_admit_12 rfl 2 rfl ?_
    refine Y_aload_n (pc := 13) hC d_Ar_admit_13 rfl 0 rfl ?_
    refine Y_getR (pc := 14) hC sc_5 fl_Ar_22 rfl d_Ar_admit_14 ?_
    refine Y_getI (pc := 17) hC sc_3 fl_Ar_54 rfl d_Ar_admit_17 ?_
    refine Y_icmp_ge (pc := 20) hC 47 d_Ar_admit_20 rfl (fun cc_20 => ?_) (fun cc_20 => ?_)
    · have h := ifp cc_20 h
      refine Y_sub (pc := 47) [] rfl ?_
      exact hk47 _ h
    · have h := ifn cc_20 h
      refine Y_aload_n (pc := 23) hC d_Ar_admit_23 rfl 0 rfl ?_
      refine Y_getR (pc := 24) hC sc_5 fl_Ar_22 rfl d_Ar_admit_24 ?_
      refine Y_getR (pc := 27) hC sc_3 fl_Ar_57 rfl d_Ar_admit_27 ?_
      refine Y_iload_n (pc := 30) hC d_Ar_admit_30 rfl 2 rfl ?_
      obtain ⟨hi, h⟩ := ck_some h
      refine Y_iald (pc := 31) hC sc_21 rfl hi d_Ar_admit_31 ?_
      refine Y_iload_n (pc := 32) hC d_Ar_admit_32 rfl 1 rfl ?_
      refine Y_icmp_ne (pc := 33) hC 41 d_Ar_admit_33 rfl (fun cc_33 => ?_) (fun cc_33 => ?_)
      · have h := ifn cc_33 h
        refine Y_iinc (pc := 41) hC (v := x2 + 1) (L' := [(2, .int (x2 + 1)), (0, .ref (C.a 5)), (1, .int x1)]) d_Ar_admit_41 2 rfl rfl (by decide) rfl ?_
        refine Y_goto (pc := 44) hC 12 d_Ar_admit_44 rfl ?_
        refine Y_sub (pc := 12) [1, 2, 0] rfl ?_
        exact ih _ _ h
      · have h := ifp cc_33 h
        refine Y_aload_n (pc := 36) hC d_Ar_admit_36 rfl 0 rfl ?_
        refine Y_iload_n (pc := 37) hC d_Ar_admit_37 rfl 2 rfl ?_
        obtain ⟨r1, V2, hc_r1, h⟩ := cl_some h
        refine Y_callVv (pc := 38) hC (c_Ar_note C.l C.D C.cI C.cZ C.a hc_r1) (fun _ => hw) sc_5 cls_Ar ml_Ar_60 mv_Ar_note (by decide) (Nat.le_of_ble_eq_true rfl) rfl d_Ar_admit_38 ?_
        refine Y_iinc (pc := 41) hC (v := x2 + 1) (L' := [(2, .int (x2 + 1)), (0, .ref (C.a 5)), (1, .int x1)]) d_Ar_admit_41 2 rfl rfl (by decide) rfl ?_
        refine Y_goto (pc := 44) hC 12 d_Ar_admit_44 rfl ?_
        refine Y_sub (pc := 12) [1, 2, 0] rfl ?_
        exact ih _ _ h
set_option maxHeartbeats 4000000 in
set_option maxRecDepth 100000 in
theorem c_Ar_admit (l : Launch) (D : va_G) (cI cZ : ClassId) (a : Nat → Nat) {V : Sto} {p1 : Int32} {r : Int32} {V' : Sto} (h : f_Ar_admit V p1 = some (r, V')) : YMv l D cI cZ a shpC y_Ar_admit b_Ar_admit 3 rm_Ar_admit true [.ref (a 5), .int p1] V V' := by
  refine YMv_of (by decide) (Nat.le_of_ble_eq_true rfl) ?_
  intro C hl hDD hcI hcZ ha hC hw hE
  subst hl hDD hcI hcZ ha
  show Y C shpC 3 0 [(0, .ref (C.a 5)), (1, .int p1)] [] V
  have hw := hw rfl
  rw [f_Ar_admit] at h
  refine Y_aload_n (pc := 0) hC d_Ar_admit_0 rfl 0 rfl ?_
  refine Y_getR (pc := 1) hC sc_5 fl_Ar_18 rfl d_Ar_admit_1 ?_
  refine Y_getR (pc := 4) hC sc_1 fl_Ar_40 rfl d_Ar_admit_4 ?_
  refine Y_iload_n (pc := 7) hC d_Ar_admit_7 rfl 1 rfl ?_
  refine Y_iconst (pc := 8) hC d_Ar_admit_8 ki_1 ?_
  obtain ⟨hi, h⟩ := ck_some h
  obtain ⟨V1, hV1, h⟩ := nm_some h
  refine Y_zast (pc := 9) hC sc_13 (by decide) rfl hi hw rfl hV1 d_Ar_admit_9 ?_
  refine Y_iconst (pc := 10) hC d_Ar_admit_10 ki_0 ?_
  refine Y_istore_n (pc := 11) hC (L' := [(2, .int 0), (0, .ref (C.a 5)), (1, .int p1)]) d_Ar_admit_11 rfl (by decide) rfl ?_
  refine Y_sub (pc := 12) [1, 2, 0] rfl ?_
  refine ylp_Ar_admit_12 hC hw hE (fun V3 h => ?_) FU _ _ h
  exact Y_vret (pc := 47) hC hE d_Ar_admit_47 h
set_option maxHeartbeats 4000000 in
set_option maxRecDepth 100000 in
theorem ylp_Ar_begin_2 {C : YC} {r : Int32} {V' : Sto} {x1 : Int32} {k38 : Sto → RT} (hC : YF C R_Ar b_Ar_begin 3 rm_Ar_begin) (hw : YWr C shpC) (hE : YEv C shpC V') (hk38 : ∀ (V1 : Sto), k38 V1 = some (r, V') → Y C shpC 3 38 [(0, .ref (C.a 5))] [] V1) : ∀ (n : Nat) (x2 : Int32) (V : Sto), lp_Ar_begin_2 x1 k38 n x2 V = some (r, V') → Y C shpC 3 2 [(0, .ref (C.a 5)), (1, .int x1), (2, .int x2)] [] V := by
  intro n
  induction n with
  | zero =>
    intro x2 V h
    rw [lp_Ar_begin_2] at h
    cases h
  | succ n ih =>
    intro x2 V h
    rw [lp_Ar_begin_2] at h
    refine Y_iload_n (pc := 2) hC d_Ar_begin_2 rfl 2 rfl ?_
    refine Y_sipush (pc := 3) hC d_Ar_begin_3 ks_200 ?_
    refine Y_icmp_ge (pc := 6) hC 38 d_Ar_begin_6 rfl (fun cc_6 => ?_) (fun cc_6 => ?_)
    · have h := ifp cc_6 h
      refine Y_sub (pc := 38) [0] rfl ?_
      exact hk38 _ h
    · have h := ifn cc_6 h
      refine Y_aload_n (pc := 9) hC d_Ar_begin_9 rfl 0 rfl ?_
      refine Y_getR (pc := 10) hC sc_5 fl_Ar_9 rfl d_Ar_begin_10 ?_
      refine Y_iload_n (pc := 13) hC d_Ar_begin_13 rfl 2 rfl ?_
      refine Y_iload_n (pc := 14) hC d_Ar_begin_14 rfl 2 rfl ?_
      refine Y_iload_n (pc := 15) hC d_Ar_begin_15 rfl 1 rfl ?_
      refine Y_icmp_ne (pc := 16) hC 23 d_Ar_begin_16 rfl (fun cc_16 => ?_) (fun cc_16 => ?_)
      · have h := ifn cc_16 h
        refine Y_iconst (pc := 23) hC d_Ar_begin_23 ki_0 ?_
        obtain ⟨hi, h⟩ := ck_some h
        obtain ⟨V1, hV1, h⟩ := nm_some h
        refine Y_zast (pc := 24) hC sc_35 (by decide) rfl hi hw rfl hV1 d_Ar_begin_24 ?_
        refine Y_aload_n (pc := 25) hC d_Ar_begin_25 rfl 0 rfl ?_
        refine Y_getR (pc := 26) hC sc_5 fl_Ar_15 rfl d_Ar_begin_26 ?_
        refine Y_iload_n (pc := 29) hC d_Ar_begin_29 rfl 2 rfl ?_
        refine Y_iconst (pc := 30) hC d_Ar_begin_30 ki_0 ?_
        obtain ⟨hi, h⟩ := ck_some h
        obtain ⟨V2, hV2, h⟩ := nm_some h
        refine Y_zast (pc := 31) hC sc_36 (by decide) rfl hi hw rfl hV2 d_Ar_begin_31 ?_
        refine Y_iinc (pc := 32) hC (v := x2 + 1) (L' := [(2, .int (x2 + 1)), (0, .ref (C.a 5)), (1, .int x1)]) d_Ar_begin_32 2 rfl rfl (by decide) rfl ?_
        refine Y_goto (pc := 35) hC 2 d_Ar_begin_35 rfl ?_
        refine Y_sub (pc := 2) [1, 2, 0] rfl ?_
        exact ih _ _ h
      · have h := ifp cc_16 h
        refine Y_iconst (pc := 19) hC d_Ar_begin_19 ki_1 ?_
        refine Y_goto (pc := 20) hC 24 d_Ar_begin_20 rfl ?_
        obtain ⟨hi, h⟩ := ck_some h
        obtain ⟨V3, hV3, h⟩ := nm_some h
        refine Y_zast (pc := 24) hC sc_35 (by decide) rfl hi hw rfl hV3 d_Ar_begin_24 ?_
        refine Y_aload_n (pc := 25) hC d_Ar_begin_25 rfl 0 rfl ?_
        refine Y_getR (pc := 26) hC sc_5 fl_Ar_15 rfl d_Ar_begin_26 ?_
        refine Y_iload_n (pc := 29) hC d_Ar_begin_29 rfl 2 rfl ?_
        refine Y_iconst (pc := 30) hC d_Ar_begin_30 ki_0 ?_
        obtain ⟨hi, h⟩ := ck_some h
        obtain ⟨V4, hV4, h⟩ := nm_some h
        refine Y_zast (pc := 31) hC sc_36 (by decide) rfl hi hw rfl hV4 d_Ar_begin_31 ?_
        refine Y_iinc (pc := 32) hC (v := x2 + 1) (L' := [(2, .int (x2 + 1)), (0, .ref (C.a 5)), (1, .int x1)]) d_Ar_begin_32 2 rfl rfl (by decide) rfl ?_
        refine Y_goto (pc := 35) hC 2 d_Ar_begin_35 rfl ?_
        refine Y_sub (pc := 2) [1, 2, 0] rfl ?_
        exact ih _ _ h
set_option maxHeartbeats 4000000 in
set_option maxRecDepth 100000 in
theorem ylp_Ar_begin_40 {C : YC} {r : Int32} {V' : Sto} {k67 : Sto → RT} (hC : YF C R_Ar b_Ar_begin 3 rm_Ar_begin) (hw : YWr C shpC) (hE : YEv C shpC V') (hk67 : ∀ (V1 : Sto), k67 V1 = some (r, V') → Y C shpC 3 67 [(0, .ref (C.a 5))] [] V1) : ∀ (n : Nat) (x2 : Int32) (V : Sto), lp_Ar_begin_40 k67 n x2 V = some (r, V') → Y C shpC 3 40 [(0, .ref (C.a 5)), (2, .int x2)] [] V := by
  intro n
  induction n with
  | zero =>
    intro x2 V h
    rw [lp_Ar_begin_40] at h
    cases h
  | succ n ih =>
    intro x2 V h
    rw [lp_Ar_begin_40] at h
    refine Y_iload_n (pc := 40) hC d_Ar_begin_40 rfl 1 rfl ?_
    refine Y_aload_n (pc := 41) hC d_Ar_begin_41 rfl 0 rfl ?_
    refine Y_getR (pc := 42) hC sc_5 fl_Ar_18 rfl d_Ar_begin_42 ?_
    refine Y_getI (pc := 45) hC sc_1 fl_Ar_34 rfl d_Ar_begin_45 ?_
    refine Y_icmp_ge (pc := 48) hC 67 d_Ar_begin_48 rfl (fun cc_48 => ?_) (fun cc_48 => ?_)
    · have h := ifp cc_48 h
      refine Y_sub (pc := 67) [0] rfl ?_
      exact hk67 _ h
    · have h := ifn cc_48 h
      refine Y_aload_n (pc := 51) hC d_Ar_begin_51 rfl 0 rfl ?_
      refine Y_getR (pc := 52) hC sc_5 fl_Ar_18 rfl d_Ar_begin_52 ?_
      refine Y_getR (pc := 55) hC sc_1 fl_Ar_40 rfl d_Ar_begin_55 ?_
      refine Y_iload_n (pc := 58) hC d_Ar_begin_58 rfl 1 rfl ?_
      refine Y_iconst (pc := 59) hC d_Ar_begin_59 ki_0 ?_
      obtain ⟨hi, h⟩ := ck_some h
      obtain ⟨V6, hV6, h⟩ := nm_some h
      refine Y_zast (pc := 60) hC sc_13 (by decide) rfl hi hw rfl hV6 d_Ar_begin_60 ?_
      refine Y_iinc (pc := 61) hC (v := x2 + 1) (L' := [(2, .int (x2 + 1)), (0, .ref (C.a 5))]) d_Ar_begin_61 1 rfl rfl (by decide) rfl ?_
      refine Y_goto (pc := 64) hC 40 d_Ar_begin_64 rfl ?_
      refine Y_sub (pc := 40) [1, 0] rfl ?_
      exact ih _ _ h
set_option maxHeartbeats 4000000 in
set_option maxRecDepth 100000 in
theorem ylp_Ar_begin_69 {C : YC} {r : Int32} {V' : Sto} {k104 : Sto → RT} (hC : YF C R_Ar b_Ar_begin 3 rm_Ar_begin) (hw : YWr C shpC) (hE : YEv C shpC V') (hk104 : ∀ (V1 : Sto), k104 V1 = some (r, V') → Y C shpC 3 104 [] [] V1) : ∀ (n : Nat) (x2 : Int32) (V : Sto), lp_Ar_begin_69 k104 n x2 V = some (r, V') → Y C shpC 3 69 [(0, .ref (C.a 5)), (2, .int x2)] [] V := by
  intro n
  induction n with
  | zero =>
    intro x2 V h
    rw [lp_Ar_begin_69] at h
    cases h
  | succ n ih =>
    intro x2 V h
    rw [lp_Ar_begin_69] at h
    refine Y_iload_n (pc := 69) hC d_Ar_begin_69 rfl 1 rfl ?_
    refine Y_aload_n (pc := 70) hC d_Ar_begin_70 rfl 0 rfl ?_
    refine Y_getR (pc := 71) hC sc_5 fl_Ar_18 rfl d_Ar_begin_71 ?_
    refine Y_getI (pc := 74) hC sc_1 fl_Ar_34 rfl d_Ar_begin_74 ?_
    refine Y_icmp_ge (pc := 77) hC 104 d_Ar_begin_77 rfl (fun cc_77 => ?_) (fun cc_77 => ?_)
    · have h := ifp cc_77 h
      refine Y_sub (pc := 104) [] rfl ?_
      exact hk104 _ h
    · have h := ifn cc_77 h
      refine Y_aload_n (pc := 80) hC d_Ar_begin_80 rfl 0 rfl ?_
      refine Y_getR (pc := 81) hC sc_5 fl_Ar_18 rfl d_Ar_begin_81 ?_
      refine Y_getR (pc := 84) hC sc_1 fl_Ar_43 rfl d_Ar_begin_84 ?_
      refine Y_iload_n (pc := 87) hC d_Ar_begin_87 rfl 1 rfl ?_
      obtain ⟨hi, h⟩ := ck_some h
      refine Y_iald (pc := 88) hC sc_12 rfl hi d_Ar_begin_88 ?_
      refine Y_iconst (pc := 89) hC d_Ar_begin_89 ki_m1 ?_
      refine Y_icmp_ne (pc := 90) hC 98 d_Ar_begin_90 rfl (fun cc_90 => ?_) (fun cc_90 => ?_)
      · have h := ifn cc_90 h
        refine Y_iinc (pc := 98) hC (v := x2 + 1) (L' := [(2, .int (x2 + 1)), (0, .ref (C.a 5))]) d_Ar_begin_98 1 rfl rfl (by decide) rfl ?_
        refine Y_goto (pc := 101) hC 69 d_Ar_begin_101 rfl ?_
        refine Y_sub (pc := 69) [1, 0] rfl ?_
        exact ih _ _ h
      · have h := ifp cc_90 h
        refine Y_aload_n (pc := 93) hC d_Ar_begin_93 rfl 0 rfl ?_
        refine Y_iload_n (pc := 94) hC d_Ar_begin_94 rfl 1 rfl ?_
        obtain ⟨r1, V8, hc_r1, h⟩ := cl_some h
        refine Y_callVv (pc := 95) hC (c_Ar_admit C.l C.D C.cI C.cZ C.a hc_r1) (fun _ => hw) sc_5 cls_Ar ml_Ar_47 mv_Ar_admit (by decide) (Nat.le_of_ble_eq_true rfl) rfl d_Ar_begin_95 ?_
        refine Y_iinc (pc := 98) hC (v := x2 + 1) (L' := [(2, .int (x2 + 1)), (0, .ref (C.a 5))]) d_Ar_begin_98 1 rfl rfl (by decide) rfl ?_
        refine Y_goto (pc := 101) hC 69 d_Ar_begin_101 rfl ?_
        refine Y_sub (pc := 69) [1, 0] rfl ?_
        exact ih _ _ h
set_option maxHeartbeats 4000000 in
set_option maxRecDepth 100000 in
theorem c_Ar_begin (l : Launch) (D : va_G) (cI cZ : ClassId) (a : Nat → Nat) {V : Sto} {p1 : Int32} {r : Int32} {V' : Sto} (h : f_Ar_begin V p1 = some (r, V')) : YMv l D cI cZ a shpC y_Ar_begin b_Ar_begin 3 rm_Ar_begin true [.ref (a 5), .int p1] V V' := by
  refine YMv_of (by decide) (Nat.le_of_ble_eq_true rfl) ?_
  intro C hl hDD hcI hcZ ha hC hw hE
  subst hl hDD hcI hcZ ha
  show Y C shpC 3 0 [(0, .ref (C.a 5)), (1, .int p1)] [] V
  have hw := hw rfl
  rw [f_Ar_begin] at h
  refine Y_iconst (pc := 0) hC d_Ar_begin_0 ki_0 ?_
  refine Y_istore_n (pc := 1) hC (L' := [(2, .int 0), (0, .ref (C.a 5)), (1, .int p1)]) d_Ar_begin_1 rfl (by decide) rfl ?_
  refine Y_sub (pc := 2) [1, 2, 0] rfl ?_
  refine ylp_Ar_begin_2 hC hw hE (fun V5 h => ?_) FU _ _ h
  refine Y_iconst (pc := 38) hC d_Ar_begin_38 ki_0 ?_
  refine Y_istore_n (pc := 39) hC (L' := [(2, .int 0), (0, .ref (C.a 5))]) d_Ar_begin_39 rfl (by decide) rfl ?_
  refine Y_sub (pc := 40) [1, 0] rfl ?_
  refine ylp_Ar_begin_40 hC hw hE (fun V7 h => ?_) FU _ _ h
  refine Y_iconst (pc := 67) hC d_Ar_begin_67 ki_0 ?_
  refine Y_istore_n (pc := 68) hC (L' := [(2, .int 0), (0, .ref (C.a 5))]) d_Ar_begin_68 rfl (by decide) rfl ?_
  refine Y_sub (pc := 69) [1, 0] rfl ?_
  refine ylp_Ar_begin_69 hC hw hE (fun V9 h => ?_) FU _ _ h
  exact Y_vret (pc := 104) hC hE d_Ar_begin_104 h
set_option maxHeartbeats 4000000 in
set_option maxRecDepth 100000 in
theorem c_Ar_isNeeded (l : Launch) (D : va_G) (cI cZ : ClassId) (a : Nat → Nat) {V : Sto} {p1 : Int32} {r : Int32} {V' : Sto} (h : f_Ar_isNeeded V p1 = some (r, V')) : YMi l D cI cZ a shpC y_Ar_isNeeded b_Ar_isNeeded 3 (some .boolean) rm_Ar_isNeeded false [.ref (a 5), .int p1] V r V' := by
  refine YMi_of (by decide) (Nat.le_of_ble_eq_true rfl) ?_
  intro C hl hDD hcI hcZ ha hC hw hE
  subst hl hDD hcI hcZ ha
  show Y C shpC 3 0 [(0, .ref (C.a 5)), (1, .int p1)] [] V
  rw [f_Ar_isNeeded] at h
  refine Y_aload_n (pc := 0) hC d_Ar_isNeeded_0 rfl 0 rfl ?_
  refine Y_getR (pc := 1) hC sc_5 fl_Ar_22 rfl d_Ar_isNeeded_1 ?_
  refine Y_getR (pc := 4) hC sc_3 fl_Ar_67 rfl d_Ar_isNeeded_4 ?_
  refine Y_iload_n (pc := 7) hC d_Ar_isNeeded_7 rfl 1 rfl ?_
  obtain ⟨hi, h⟩ := ck_some h
  refine Y_iald (pc := 8) hC sc_22 rfl hi d_Ar_isNeeded_8 ?_
  refine Y_istore_n (pc := 9) hC (L' := [(2, .int (V 22 p1.toNatClampNeg)), (0, .ref (C.a 5)), (1, .int p1)]) d_Ar_isNeeded_9 rfl (by decide) rfl ?_
  refine Y_aload_n (pc := 10) hC d_Ar_isNeeded_10 rfl 1 rfl ?_
  refine Y_getR (pc := 11) hC sc_5 fl_Ar_22 rfl d_Ar_isNeeded_11 ?_
  refine Y_iload_n (pc := 14) hC d_Ar_isNeeded_14 rfl 2 rfl ?_
  obtain ⟨r1, V1, hc_r1, h⟩ := cl_some h
  refine Y_callV (pc := 15) hC (c_Sy_givesName C.l C.D C.cI C.cZ C.a hc_r1) (fun q => nomatch q) sc_3 cls_Sy ml_Ar_70 mv_Sy_givesName (by decide) (Nat.le_of_ble_eq_true rfl) rfl d_Ar_isNeeded_15 ?_
  refine Y_if_eq (pc := 18) hC 56 d_Ar_isNeeded_18 rfl (fun cc_18 => ?_) (fun cc_18 => ?_)
  · have h := ifp cc_18 h
    refine Y_iconst (pc := 56) hC d_Ar_isNeeded_56 ki_0 ?_
    exact Y_zret (pc := 57) hC hE d_Ar_isNeeded_57 rfl h
  · have h := ifn cc_18 h
    refine Y_aload_n (pc := 21) hC d_Ar_isNeeded_21 rfl 1 rfl ?_
    refine Y_getR (pc := 22) hC sc_5 fl_Ar_22 rfl d_Ar_isNeeded_22 ?_
    refine Y_getR (pc := 25) hC sc_3 fl_Ar_76 rfl d_Ar_isNeeded_25 ?_
    refine Y_iload_n (pc := 28) hC d_Ar_isNeeded_28 rfl 2 rfl ?_
    obtain ⟨hi, h⟩ := ck_some h
    refine Y_iald (pc := 29) hC sc_23 rfl hi d_Ar_isNeeded_29 ?_
    refine Y_iconst (pc := 30) hC d_Ar_isNeeded_30 ki_2 ?_
    refine Y_icmp_eq (pc := 31) hC 56 d_Ar_isNeeded_31 rfl (fun cc_31 => ?_) (fun cc_31 => ?_)
    · have h := ifp cc_31 h
      refine Y_iconst (pc := 56) hC d_Ar_isNeeded_56 ki_0 ?_
      exact Y_zret (pc := 57) hC hE d_Ar_isNeeded_57 rfl h
    · have h := ifn cc_31 h
      refine Y_aload_n (pc := 34) hC d_Ar_isNeeded_34 rfl 1 rfl ?_
      refine Y_getR (pc := 35) hC sc_5 fl_Ar_9 rfl d_Ar_isNeeded_35 ?_
      refine Y_iload_n (pc := 38) hC d_Ar_isNeeded_38 rfl 0 rfl ?_
      obtain ⟨hi, h⟩ := ck_some h
      refine Y_zald (pc := 39) hC sc_35 rfl hi d_Ar_isNeeded_39 ?_
      refine Y_if_eq (pc := 40) hC 56 d_Ar_isNeeded_40 rfl (fun cc_40 => ?_) (fun cc_40 => ?_)
      · have h := ifp cc_40 h
        refine Y_iconst (pc := 56) hC d_Ar_isNeeded_56 ki_0 ?_
        exact Y_zret (pc := 57) hC hE d_Ar_isNeeded_57 rfl h
      · have h := ifn cc_40 h
        refine Y_aload_n (pc := 43) hC d_Ar_isNeeded_43 rfl 1 rfl ?_
        refine Y_getR (pc := 44) hC sc_5 fl_Ar_15 rfl d_Ar_isNeeded_44 ?_
        refine Y_iload_n (pc := 47) hC d_Ar_isNeeded_47 rfl 0 rfl ?_
        obtain ⟨hi, h⟩ := ck_some h
        refine Y_zald (pc := 48) hC sc_36 rfl hi d_Ar_isNeeded_48 ?_
        refine Y_if_ne (pc := 49) hC 56 d_Ar_isNeeded_49 rfl (fun cc_49 => ?_) (fun cc_49 => ?_)
        · have h := ifn cc_49 h
          refine Y_iconst (pc := 56) hC d_Ar_isNeeded_56 ki_0 ?_
          exact Y_zret (pc := 57) hC hE d_Ar_isNeeded_57 rfl h
        · have h := ifp cc_49 h
          refine Y_iconst (pc := 52) hC d_Ar_isNeeded_52 ki_1 ?_
          refine Y_goto (pc := 53) hC 57 d_Ar_isNeeded_53 rfl ?_
          exact Y_zret (pc := 57) hC hE d_Ar_isNeeded_57 rfl h
set_option maxHeartbeats 4000000 in
set_option maxRecDepth 100000 in
theorem ylp_Ar_firstNeeded_4 {C : YC} {r : Int32} {V' : Sto} {x1 : Int32} {k93 : Int32 → Sto → RT} (hC : YF C R_Ar b_Ar_firstNeeded 6 rm_Ar_firstNeeded) (hE : YEi C .int shpC r V') (hk93 : ∀ (y2 : Int32) (V1 : Sto), k93 y2 V1 = some (r, V') → Y C shpC 6 93 [(2, .int y2)] [] V1) : ∀ (n : Nat) (x2 x3 : Int32) (V : Sto), lp_Ar_firstNeeded_4 x1 k93 n x2 x3 V = some (r, V') → Y C shpC 6 4 [(0, .ref (C.a 5)), (1, .int x1), (2, .int x2), (3, .int x3)] [] V := by
  intro n
  induction n with
  | zero =>
    intro x2 x3 V h
    rw [lp_Ar_firstNeeded_4] at h
    cases h
  | succ n ih =>
    intro x2 x3 V h
    rw [lp_Ar_firstNeeded_4] at h
    refine Y_iload_n (pc := 4) hC d_Ar_firstNeeded_4 rfl 3 rfl ?_
    refine Y_aload_n (pc := 5) hC d_Ar_firstNeeded_5 rfl 0 rfl ?_
    refine Y_getR (pc := 6) hC sc_5 fl_Ar_22 rfl d_Ar_firstNeeded_6 ?_
    refine Y_getI (pc := 9) hC sc_3 fl_Ar_54 rfl d_Ar_firstNeeded_9 ?_
    refine Y_icmp_ge (pc := 12) hC 93 d_Ar_firstNeeded_12 rfl (fun cc_12 => ?_) (fun cc_12 => ?_)
    · have h := ifp cc_12 h
      refine Y_sub (pc := 93) [2] rfl ?_
      exact hk93 _ _ h
    · have h := ifn cc_12 h
      refine Y_aload_n (pc := 15) hC d_Ar_firstNeeded_15 rfl 0 rfl ?_
      refine Y_getR (pc := 16) hC sc_5 fl_Ar_22 rfl d_Ar_firstNeeded_16 ?_
      refine Y_getR (pc := 19) hC sc_3 fl_Ar_57 rfl d_Ar_firstNeeded_19 ?_
      refine Y_iload_n (pc := 22) hC d_Ar_firstNeeded_22 rfl 3 rfl ?_
      obtain ⟨hi, h⟩ := ck_some h
      refine Y_iald (pc := 23) hC sc_21 rfl hi d_Ar_firstNeeded_23 ?_
      refine Y_istore (pc := 24) hC (L' := [(4, .int (V 21 x3.toNatClampNeg)), (0, .ref (C.a 5)), (1, .int x1), (2, .int x2), (3, .int x3)]) d_Ar_firstNeeded_24 (by decide) rfl ?_
      refine Y_aload_n (pc := 26) hC d_Ar_firstNeeded_26 rfl 1 rfl ?_
      refine Y_getR (pc := 27) hC sc_5 fl_Ar_18 rfl d_Ar_firstNeeded_27 ?_
      refine Y_getR (pc := 30) hC sc_1 fl_Ar_43 rfl d_Ar_firstNeeded_30 ?_
      refine Y_iload (pc := 33) hC d_Ar_firstNeeded_33 0 rfl ?_
      obtain ⟨hi, h⟩ := ck_some h
      refine Y_iald (pc := 35) hC sc_12 rfl hi d_Ar_firstNeeded_35 ?_
      refine Y_iload_n (pc := 36) hC d_Ar_firstNeeded_36 rfl 2 rfl ?_
      obtain ⟨j1, hj1, h⟩ := jn_some h
      have kj1 : ∀ (z1 : Int32), j1 z1 = some (r, V') → Y C shpC 6 58 [(0, .ref (C.a 5)), (1, .int x1), (2, .int x2), (3, .int x3), (4, .int (V 21 x3.toNatClampNeg))] [.int z1] V := by
        intro z1 h
        subst hj1
        dsimp only at h
        refine Y_istore (pc := 58) hC (L' := [(5, .int z1), (0, .ref (C.a 5)), (1, .int x1), (2, .int x2), (3, .int x3), (4, .int (V 21 x3.toNatClampNeg))]) d_Ar_firstNeeded_58 (by decide) rfl ?_
        refine Y_iload (pc := 60) hC d_Ar_firstNeeded_60 0 rfl ?_
        refine Y_if_eq (pc := 62) hC 87 d_Ar_firstNeeded_62 rfl (fun cc_62 => ?_) (fun cc_62 => ?_)
        · have h := ifp cc_62 h
          refine Y_iinc (pc := 87) hC (v := x3 + 1) (L' := [(3, .int (x3 + 1)), (5, .int z1), (0, .ref (C.a 5)), (1, .int x1), (2, .int x2), (4, .int (V 21 x3.toNatClampNeg))]) d_Ar_firstNeeded_87 4 rfl rfl (by decide) rfl ?_
          refine Y_goto (pc := 90) hC 4 d_Ar_firstNeeded_90 rfl ?_
          refine Y_sub (pc := 4) [2, 3, 4, 0] rfl ?_
          exact ih _ _ _ h
        · have h := ifn cc_62 h
          refine Y_aload_n (pc := 65) hC d_Ar_firstNeeded_65 rfl 1 rfl ?_
          refine Y_iload_n (pc := 66) hC d_Ar_firstNeeded_66 rfl 4 rfl ?_
          obtain ⟨r1, V1, hc_r1, h⟩ := cl_some h
          refine Y_callV (pc := 67) hC (c_Ar_isNeeded C.l C.D C.cI C.cZ C.a hc_r1) (fun q => nomatch q) sc_5 cls_Ar ml_Ar_73 mv_Ar_isNeeded (by decide) (Nat.le_of_ble_eq_true rfl) rfl d_Ar_firstNeeded_67 ?_
          refine Y_if_eq (pc := 70) hC 87 d_Ar_firstNeeded_70 rfl (fun cc_70 => ?_) (fun cc_70 => ?_)
          · have h := ifp cc_70 h
            refine Y_iinc (pc := 87) hC (v := x3 + 1) (L' := [(3, .int (x3 + 1)), (5, .int z1), (0, .ref (C.a 5)), (1, .int x1), (2, .int x2), (4, .int (V 21 x3.toNatClampNeg))]) d_Ar_firstNeeded_87 4 rfl rfl (by decide) rfl ?_
            refine Y_goto (pc := 90) hC 4 d_Ar_firstNeeded_90 rfl ?_
            refine Y_sub (pc := 4) [2, 3, 4, 0] rfl ?_
            exact ih _ _ _ h
          · have h := ifn cc_70 h
            refine Y_iload_n (pc := 73) hC d_Ar_firstNeeded_73 rfl 3 rfl ?_
            refine Y_iconst (pc := 74) hC d_Ar_firstNeeded_74 ki_m1 ?_
            refine Y_icmp_eq (pc := 75) hC 84 d_Ar_firstNeeded_75 rfl (fun cc_75 => ?_) (fun cc_75 => ?_)
            · have h := ifp cc_75 h
              refine Y_iload (pc := 84) hC d_Ar_firstNeeded_84 5 rfl ?_
              refine Y_istore_n (pc := 86) hC (L' := [(2, .int (V 21 x3.toNatClampNeg)), (5, .int z1), (0, .ref (C.a 5)), (1, .int x1), (3, .int x3), (4, .int (V 21 x3.toNatClampNeg))]) d_Ar_firstNeeded_86 rfl (by decide) rfl ?_
              refine Y_iinc (pc := 87) hC (v := x3 + 1) (L' := [(3, .int (x3 + 1)), (2, .int (V 21 x3.toNatClampNeg)), (5, .int z1), (0, .ref (C.a 5)), (1, .int x1), (4, .int (V 21 x3.toNatClampNeg))]) d_Ar_firstNeeded_87 4 rfl rfl (by decide) rfl ?_
              refine Y_goto (pc := 90) hC 4 d_Ar_firstNeeded_90 rfl ?_
              refine Y_sub (pc := 4) [3, 4, 1, 0] rfl ?_
              exact ih _ _ _ h
            · have h := ifn cc_75 h
              refine Y_iload (pc := 78) hC d_Ar_firstNeeded_78 5 rfl ?_
              refine Y_iload_n (pc := 80) hC d_Ar_firstNeeded_80 rfl 3 rfl ?_
              refine Y_icmp_ge (pc := 81) hC 87 d_Ar_firstNeeded_81 rfl (fun cc_81 => ?_) (fun cc_81 => ?_)
              · have h := ifp cc_81 h
                refine Y_iinc (pc := 87) hC (v := x3 + 1) (L' := [(3, .int (x3 + 1)), (5, .int z1), (0, .ref (C.a 5)), (1, .int x1), (2, .int x2), (4, .int (V 21 x3.toNatClampNeg))]) d_Ar_firstNeeded_87 4 rfl rfl (by decide) rfl ?_
                refine Y_goto (pc := 90) hC 4 d_Ar_firstNeeded_90 rfl ?_
                refine Y_sub (pc := 4) [2, 3, 4, 0] rfl ?_
                exact ih _ _ _ h
              · have h := ifn cc_81 h
                refine Y_iload (pc := 84) hC d_Ar_firstNeeded_84 5 rfl ?_
                refine Y_istore_n (pc := 86) hC (L' := [(2, .int (V 21 x3.toNatClampNeg)), (5, .int z1), (0, .ref (C.a 5)), (1, .int x1), (3, .int x3), (4, .int (V 21 x3.toNatClampNeg))]) d_Ar_firstNeeded_86 rfl (by decide) rfl ?_
                refine Y_iinc (pc := 87) hC (v := x3 + 1) (L' := [(3, .int (x3 + 1)), (2, .int (V 21 x3.toNatClampNeg)), (5, .int z1), (0, .ref (C.a 5)), (1, .int x1), (4, .int (V 21 x3.toNatClampNeg))]) d_Ar_firstNeeded_87 4 rfl rfl (by decide) rfl ?_
                refine Y_goto (pc := 90) hC 4 d_Ar_firstNeeded_90 rfl ?_
                refine Y_sub (pc := 4) [3, 4, 1, 0] rfl ?_
                exact ih _ _ _ h
      refine Y_icmp_ne (pc := 37) hC 57 d_Ar_firstNeeded_37 rfl (fun cc_37 => ?_) (fun cc_37 => ?_)
      · have h := ifn cc_37 h
        refine Y_iconst (pc := 57) hC d_Ar_firstNeeded_57 ki_0 ?_
        refine Y_sub (pc := 58) [1, 2, 3, 4, 0] rfl ?_
        exact kj1 _ h
      · have h := ifp cc_37 h
        refine Y_aload_n (pc := 40) hC d_Ar_firstNeeded_40 rfl 1 rfl ?_
        refine Y_getR (pc := 41) hC sc_5 fl_Ar_18 rfl d_Ar_firstNeeded_41 ?_
        refine Y_getR (pc := 44) hC sc_1 fl_Ar_40 rfl d_Ar_firstNeeded_44 ?_
        refine Y_iload (pc := 47) hC d_Ar_firstNeeded_47 0 rfl ?_
        obtain ⟨hi, h⟩ := ck_some h
        refine Y_zald (pc := 49) hC sc_13 rfl hi d_Ar_firstNeeded_49 ?_
        refine Y_if_ne (pc := 50) hC 57 d_Ar_firstNeeded_50 rfl (fun cc_50 => ?_) (fun cc_50 => ?_)
        · have h := ifn cc_50 h
          refine Y_iconst (pc := 57) hC d_Ar_firstNeeded_57 ki_0 ?_
          refine Y_sub (pc := 58) [1, 2, 3, 4, 0] rfl ?_
          exact kj1 _ h
        · have h := ifp cc_50 h
          refine Y_iconst (pc := 53) hC d_Ar_firstNeeded_53 ki_1 ?_
          refine Y_goto (pc := 54) hC 58 d_Ar_firstNeeded_54 rfl ?_
          refine Y_sub (pc := 58) [1, 2, 3, 4, 0] rfl ?_
          exact kj1 _ h
set_option maxHeartbeats 4000000 in
set_option maxRecDepth 100000 in
theorem c_Ar_firstNeeded (l : Launch) (D : va_G) (cI cZ : ClassId) (a : Nat → Nat) {V : Sto} {p1 : Int32} {r : Int32} {V' : Sto} (h : f_Ar_firstNeeded V p1 = some (r, V')) : YMi l D cI cZ a shpC y_Ar_firstNeeded b_Ar_firstNeeded 6 (some .int) rm_Ar_firstNeeded false [.ref (a 5), .int p1] V r V' := by
  refine YMi_of (by decide) (Nat.le_of_ble_eq_true rfl) ?_
  intro C hl hDD hcI hcZ ha hC hw hE
  subst hl hDD hcI hcZ ha
  show Y C shpC 6 0 [(0, .ref (C.a 5)), (1, .int p1)] [] V
  rw [f_Ar_firstNeeded] at h
  refine Y_iconst (pc := 0) hC d_Ar_firstNeeded_0 ki_m1 ?_
  refine Y_istore_n (pc := 1) hC (L' := [(2, .int (-1)), (0, .ref (C.a 5)), (1, .int p1)]) d_Ar_firstNeeded_1 rfl (by decide) rfl ?_
  refine Y_iconst (pc := 2) hC d_Ar_firstNeeded_2 ki_0 ?_
  refine Y_istore_n (pc := 3) hC (L' := [(3, .int 0), (2, .int (-1)), (0, .ref (C.a 5)), (1, .int p1)]) d_Ar_firstNeeded_3 rfl (by decide) rfl ?_
  refine Y_sub (pc := 4) [2, 3, 1, 0] rfl ?_
  refine ylp_Ar_firstNeeded_4 hC hE (fun y1 V2 h => ?_) FU _ _ _ h
  refine Y_iload_n (pc := 93) hC d_Ar_firstNeeded_93 rfl 0 rfl ?_
  exact Y_iret (pc := 94) hC hE d_Ar_firstNeeded_94 h
set_option maxHeartbeats 4000000 in
set_option maxRecDepth 100000 in
theorem ylp_Ar_goThroughArchives_11 {C : YC} {r : Int32} {V' : Sto} {x2 : Int32} {k47 : Int32 → Sto → RT} (hC : YF C R_Ar b_Ar_goThroughArchives 5 rm_Ar_goThroughArchives) (hw : YWr C shpC) (hE : YEi C .boolean shpC r V') (hk47 : ∀ (y1 : Int32) (V1 : Sto), k47 y1 V1 = some (r, V') → Y C shpC 5 47 [(0, .ref (C.a 5)), (2, .int x2), (1, .int y1)] [] V1) : ∀ (n : Nat) (x1 x3 : Int32) (V : Sto), lp_Ar_goThroughArchives_11 x2 k47 n x1 x3 V = some (r, V') → Y C shpC 5 11 [(0, .ref (C.a 5)), (1, .int x1), (2, .int x2), (3, .int x3)] [] V := by
  intro n
  induction n with
  | zero =>
    intro x1 x3 V h
    rw [lp_Ar_goThroughArchives_11] at h
    cases h
  | succ n ih =>
    intro x1 x3 V h
    rw [lp_Ar_goThroughArchives_11] at h
    refine Y_iload_n (pc := 11) hC d_Ar_goThroughArchives_11 rfl 3 rfl ?_
    refine Y_bipush (pc := 12) hC d_Ar_goThroughArchives_12 kb_24 ?_
    refine Y_icmp_ge (pc := 14) hC 47 d_Ar_goThroughArchives_14 rfl (fun cc_14 => ?_) (fun cc_14 => ?_)
    · have h := ifp cc_14 h
      refine Y_sub (pc := 47) [0, 2, 1] rfl ?_
      exact hk47 _ _ h
    · have h := ifn cc_14 h
      refine Y_aload_n (pc := 17) hC d_Ar_goThroughArchives_17 rfl 0 rfl ?_
      refine Y_iload_n (pc := 18) hC d_Ar_goThroughArchives_18 rfl 2 rfl ?_
      obtain ⟨r1, V1, hc_r1, h⟩ := cl_some h
      refine Y_callV (pc := 19) hC (c_Ar_firstNeeded C.l C.D C.cI C.cZ C.a hc_r1) (fun q => nomatch q) sc_5 cls_Ar ml_Ar_50 mv_Ar_firstNeeded (by decide) (Nat.le_of_ble_eq_true rfl) rfl d_Ar_goThroughArchives_19 ?_
      refine Y_istore (pc := 22) hC (L' := [(4, .int r1), (0, .ref (C.a 5)), (1, .int x1), (2, .int x2), (3, .int x3)]) d_Ar_goThroughArchives_22 (by decide) rfl ?_
      refine Y_iload (pc := 24) hC d_Ar_goThroughArchives_24 0 rfl ?_
      refine Y_iconst (pc := 26) hC d_Ar_goThroughArchives_26 ki_m1 ?_
      refine Y_icmp_ne (pc := 27) hC 33 d_Ar_goThroughArchives_27 rfl (fun cc_27 => ?_) (fun cc_27 => ?_)
      · have h := ifn cc_27 h
        refine Y_aload_n (pc := 33) hC d_Ar_goThroughArchives_33 rfl 1 rfl ?_
        refine Y_iload (pc := 34) hC d_Ar_goThroughArchives_34 0 rfl ?_
        obtain ⟨r2, V2, hc_r2, h⟩ := cl_some h
        refine Y_callVv (pc := 36) hC (c_Ar_admit C.l C.D C.cI C.cZ C.a hc_r2) (fun _ => hw) sc_5 cls_Ar ml_Ar_47 mv_Ar_admit (by decide) (Nat.le_of_ble_eq_true rfl) rfl d_Ar_goThroughArchives_36 ?_
        refine Y_iconst (pc := 39) hC d_Ar_goThroughArchives_39 ki_1 ?_
        refine Y_istore_n (pc := 40) hC (L' := [(1, .int 1), (4, .int r1), (0, .ref (C.a 5)), (2, .int x2), (3, .int x3)]) d_Ar_goThroughArchives_40 rfl (by decide) rfl ?_
        refine Y_iinc (pc := 41) hC (v := x3 + 1) (L' := [(3, .int (x3 + 1)), (1, .int 1), (4, .int r1), (0, .ref (C.a 5)), (2, .int x2)]) d_Ar_goThroughArchives_41 4 rfl rfl (by decide) rfl ?_
        refine Y_goto (pc := 44) hC 11 d_Ar_goThroughArchives_44 rfl ?_
        refine Y_sub (pc := 11) [3, 1, 4, 0] rfl ?_
        exact ih _ _ _ h
      · have h := ifp cc_27 h
        refine Y_goto (pc := 30) hC 47 d_Ar_goThroughArchives_30 rfl ?_
        refine Y_sub (pc := 47) [1, 3, 2] rfl ?_
        exact hk47 _ _ h
set_option maxHeartbeats 4000000 in
set_option maxRecDepth 100000 in
theorem ylp_Ar_goThroughArchives_4 {C : YC} {r : Int32} {V' : Sto} {k53 : Int32 → Sto → RT} (hC : YF C R_Ar b_Ar_goThroughArchives 5 rm_Ar_goThroughArchives) (hw : YWr C shpC) (hE : YEi C .boolean shpC r V') (hk53 : ∀ (y1 : Int32) (V1 : Sto), k53 y1 V1 = some (r, V') → Y C shpC 5 53 [(1, .int y1)] [] V1) : ∀ (n : Nat) (x1 x2 : Int32) (V : Sto), lp_Ar_goThroughArchives_4 k53 n x1 x2 V = some (r, V') → Y C shpC 5 4 [(0, .ref (C.a 5)), (1, .int x1), (2, .int x2)] [] V := by
  intro n
  induction n with
  | zero =>
    intro x1 x2 V h
    rw [lp_Ar_goThroughArchives_4] at h
    cases h
  | succ n ih =>
    intro x1 x2 V h
    rw [lp_Ar_goThroughArchives_4] at h
    refine Y_iload_n (pc := 4) hC d_Ar_goThroughArchives_4 rfl 2 rfl ?_
    refine Y_iconst (pc := 5) hC d_Ar_goThroughArchives_5 ki_4 ?_
    refine Y_icmp_ge (pc := 6) hC 53 d_Ar_goThroughArchives_6 rfl (fun cc_6 => ?_) (fun cc_6 => ?_)
    · have h := ifp cc_6 h
      refine Y_sub (pc := 53) [1] rfl ?_
      exact hk53 _ _ h
    · have h := ifn cc_6 h
      refine Y_iconst (pc := 9) hC d_Ar_goThroughArchives_9 ki_0 ?_
      refine Y_istore_n (pc := 10) hC (L' := [(3, .int 0), (0, .ref (C.a 5)), (1, .int x1), (2, .int x2)]) d_Ar_goThroughArchives_10 rfl (by decide) rfl ?_
      refine Y_sub (pc := 11) [1, 2, 3, 0] rfl ?_
      refine ylp_Ar_goThroughArchives_11 hC hw hE (fun y1 V3 h => ?_) FU _ _ _ h
      refine Y_iinc (pc := 47) hC (v := x2 + 1) (L' := [(2, .int (x2 + 1)), (0, .ref (C.a 5)), (1, .int y1)]) d_Ar_goThroughArchives_47 1 rfl rfl (by decide) rfl ?_
      refine Y_goto (pc := 50) hC 4 d_Ar_goThroughArchives_50 rfl ?_
      refine Y_sub (pc := 4) [1, 2, 0] rfl ?_
      exact ih _ _ _ h
set_option maxHeartbeats 4000000 in
set_option maxRecDepth 100000 in
theorem c_Ar_goThroughArchives (l : Launch) (D : va_G) (cI cZ : ClassId) (a : Nat → Nat) {V : Sto} {r : Int32} {V' : Sto} (h : f_Ar_goThroughArchives V = some (r, V')) : YMi l D cI cZ a shpC y_Ar_goThroughArchives b_Ar_goThroughArchives 5 (some .boolean) rm_Ar_goThroughArchives true [.ref (a 5)] V r V' := by
  refine YMi_of (by decide) (Nat.le_of_ble_eq_true rfl) ?_
  intro C hl hDD hcI hcZ ha hC hw hE
  subst hl hDD hcI hcZ ha
  show Y C shpC 5 0 [(0, .ref (C.a 5))] [] V
  have hw := hw rfl
  rw [f_Ar_goThroughArchives] at h
  refine Y_iconst (pc := 0) hC d_Ar_goThroughArchives_0 ki_0 ?_
  refine Y_istore_n (pc := 1) hC (L' := [(1, .int 0), (0, .ref (C.a 5))]) d_Ar_goThroughArchives_1 rfl (by decide) rfl ?_
  refine Y_iconst (pc := 2) hC d_Ar_goThroughArchives_2 ki_0 ?_
  refine Y_istore_n (pc := 3) hC (L' := [(2, .int 0), (1, .int 0), (0, .ref (C.a 5))]) d_Ar_goThroughArchives_3 rfl (by decide) rfl ?_
  refine Y_sub (pc := 4) [2, 1, 0] rfl ?_
  refine ylp_Ar_goThroughArchives_4 hC hw hE (fun y2 V4 h => ?_) FU _ _ _ h
  refine Y_iload_n (pc := 53) hC d_Ar_goThroughArchives_53 rfl 0 rfl ?_
  obtain ⟨hbb, h⟩ := ck_some h
  exact Y_zret (pc := 54) hC hE d_Ar_goThroughArchives_54 hbb h
set_option maxHeartbeats 4000000 in
set_option maxRecDepth 100000 in
theorem ylp_Ar_bringIn_19 {C : YC} {r : Int32} {V' : Sto} {x3 : Int32} {k41 : Sto → RT} (hC : YF C R_Ar b_Ar_bringIn 5 rm_Ar_bringIn) (hw : YWr C shpC) (hE : YEv C shpC V') (hk41 : ∀ (V1 : Sto), k41 V1 = some (r, V') → Y C shpC 5 41 [] [] V1) : ∀ (n : Nat) (x4 : Int32) (V : Sto), lp_Ar_bringIn_19 x3 k41 n x4 V = some (r, V') → Y C shpC 5 19 [(0, .ref (C.a 5)), (3, .int x3), (4, .int x4)] [] V := by
  intro n
  induction n with
  | zero =>
    intro x4 V h
    rw [lp_Ar_bringIn_19] at h
    cases h
  | succ n ih =>
    intro x4 V h
    rw [lp_Ar_bringIn_19] at h
    refine Y_iload (pc := 19) hC d_Ar_bringIn_19 2 rfl ?_
    refine Y_iload_n (pc := 21) hC d_Ar_bringIn_21 rfl 1 rfl ?_
    refine Y_icmp_ge (pc := 22) hC 41 d_Ar_bringIn_22 rfl (fun cc_22 => ?_) (fun cc_22 => ?_)
    · have h := ifp cc_22 h
      refine Y_sub (pc := 41) [] rfl ?_
      exact hk41 _ h
    · have h := ifn cc_22 h
      refine Y_aload_n (pc := 25) hC d_Ar_bringIn_25 rfl 0 rfl ?_
      obtain ⟨r2, V2, hc_r2, h⟩ := cl_some h
      refine Y_callV (pc := 26) hC (c_Ar_goThroughArchives C.l C.D C.cI C.cZ C.a hc_r2) (fun _ => hw) sc_5 cls_Ar ml_Ar_30 mv_Ar_goThroughArchives (by decide) (Nat.le_of_ble_eq_true rfl) rfl d_Ar_bringIn_26 ?_
      refine Y_if_ne (pc := 29) hC 35 d_Ar_bringIn_29 rfl (fun cc_29 => ?_) (fun cc_29 => ?_)
      · have h := ifn cc_29 h
        refine Y_iinc (pc := 35) hC (v := x4 + 1) (L' := [(4, .int (x4 + 1)), (0, .ref (C.a 5)), (3, .int x3)]) d_Ar_bringIn_35 2 rfl rfl (by decide) rfl ?_
        refine Y_goto (pc := 38) hC 19 d_Ar_bringIn_38 rfl ?_
        refine Y_sub (pc := 19) [1, 2, 0] rfl ?_
        exact ih _ _ h
      · have h := ifp cc_29 h
        refine Y_goto (pc := 32) hC 41 d_Ar_bringIn_32 rfl ?_
        refine Y_sub (pc := 41) [] rfl ?_
        exact hk41 _ h
set_option maxHeartbeats 4000000 in
set_option maxRecDepth 100000 in
theorem c_Ar_bringIn (l : Launch) (D : va_G) (cI cZ : ClassId) (a : Nat → Nat) {V : Sto} {p1 : Int32} {p2 : Int32} {r : Int32} {V' : Sto} (h : f_Ar_bringIn V p1 p2 = some (r, V')) : YMv l D cI cZ a shpC y_Ar_bringIn b_Ar_bringIn 5 rm_Ar_bringIn true [.ref (a 5), .int p1, .int p2] V V' := by
  refine YMv_of (by decide) (Nat.le_of_ble_eq_true rfl) ?_
  intro C hl hDD hcI hcZ ha hC hw hE
  subst hl hDD hcI hcZ ha
  show Y C shpC 5 0 [(0, .ref (C.a 5)), (1, .int p1), (2, .int p2)] [] V
  have hw := hw rfl
  rw [f_Ar_bringIn] at h
  refine Y_aload_n (pc := 0) hC d_Ar_bringIn_0 rfl 0 rfl ?_
  refine Y_iload_n (pc := 1) hC d_Ar_bringIn_1 rfl 1 rfl ?_
  obtain ⟨r1, V1, hc_r1, h⟩ := cl_some h
  refine Y_callVv (pc := 2) hC (c_Ar_begin C.l C.D C.cI C.cZ C.a hc_r1) (fun _ => hw) sc_5 cls_Ar ml_Ar_26 mv_Ar_begin (by decide) (Nat.le_of_ble_eq_true rfl) rfl d_Ar_bringIn_2 ?_
  refine Y_iload_n (pc := 5) hC d_Ar_bringIn_5 rfl 2 rfl ?_
  obtain ⟨j1, hj1, h⟩ := jn_some h
  have kj1 : ∀ (z1 : Int32), j1 z1 = some (r, V') → Y C shpC 5 15 [(0, .ref (C.a 5))] [.int z1] V1 := by
    intro z1 h
    subst hj1
    dsimp only at h
    refine Y_istore_n (pc := 15) hC (L' := [(3, .int z1), (0, .ref (C.a 5))]) d_Ar_bringIn_15 rfl (by decide) rfl ?_
    refine Y_iconst (pc := 16) hC d_Ar_bringIn_16 ki_0 ?_
    refine Y_istore (pc := 17) hC (L' := [(4, .int 0), (3, .int z1), (0, .ref (C.a 5))]) d_Ar_bringIn_17 (by decide) rfl ?_
    refine Y_sub (pc := 19) [2, 1, 0] rfl ?_
    refine ylp_Ar_bringIn_19 hC hw hE (fun V3 h => ?_) FU _ _ h
    exact Y_vret (pc := 41) hC hE d_Ar_bringIn_41 h
  refine Y_if_eq (pc := 6) hC 14 d_Ar_bringIn_6 rfl (fun cc_6 => ?_) (fun cc_6 => ?_)
  · have h := ifp cc_6 h
    refine Y_iconst (pc := 14) hC d_Ar_bringIn_14 ki_1 ?_
    refine Y_sub (pc := 15) [0] rfl ?_
    exact kj1 _ h
  · have h := ifn cc_6 h
    refine Y_bipush (pc := 9) hC d_Ar_bringIn_9 kb_25 ?_
    refine Y_goto (pc := 11) hC 15 d_Ar_bringIn_11 rfl ?_
    refine Y_sub (pc := 15) [0] rfl ?_
    exact kj1 _ h
set_option maxHeartbeats 4000000 in
set_option maxRecDepth 100000 in
theorem c_Na_isCommon (l : Launch) (D : va_G) (cI cZ : ClassId) (a : Nat → Nat) {V : Sto} {p1 : Int32} {r : Int32} {V' : Sto} (h : f_Na_isCommon V p1 = some (r, V')) : YMi l D cI cZ a shpC y_Na_isCommon b_Na_isCommon 2 (some .boolean) rm_Na_isCommon false [.ref (a 6), .int p1] V r V' := by
  refine YMi_of (by decide) (Nat.le_of_ble_eq_true rfl) ?_
  intro C hl hDD hcI hcZ ha hC hw hE
  subst hl hDD hcI hcZ ha
  show Y C shpC 2 0 [(0, .ref (C.a 6)), (1, .int p1)] [] V
  rw [f_Na_isCommon] at h
  refine Y_aload_n (pc := 0) hC d_Na_isCommon_0 rfl 0 rfl ?_
  refine Y_getR (pc := 1) hC sc_6 fl_Na_9 rfl d_Na_isCommon_1 ?_
  refine Y_iload_n (pc := 4) hC d_Na_isCommon_4 rfl 1 rfl ?_
  obtain ⟨hi, h⟩ := ck_some h
  refine Y_iald (pc := 5) hC sc_37 rfl hi d_Na_isCommon_5 ?_
  refine Y_iconst (pc := 6) hC d_Na_isCommon_6 ki_m1 ?_
  refine Y_icmp_ne (pc := 7) hC 23 d_Na_isCommon_7 rfl (fun cc_7 => ?_) (fun cc_7 => ?_)
  · have h := ifn cc_7 h
    refine Y_iconst (pc := 23) hC d_Na_isCommon_23 ki_0 ?_
    exact Y_zret (pc := 24) hC hE d_Na_isCommon_24 rfl h
  · have h := ifp cc_7 h
    refine Y_aload_n (pc := 10) hC d_Na_isCommon_10 rfl 0 rfl ?_
    refine Y_getR (pc := 11) hC sc_6 fl_Na_18 rfl d_Na_isCommon_11 ?_
    refine Y_iload_n (pc := 14) hC d_Na_isCommon_14 rfl 1 rfl ?_
    obtain ⟨hi, h⟩ := ck_some h
    refine Y_iald (pc := 15) hC sc_39 rfl hi d_Na_isCommon_15 ?_
    refine Y_if_le (pc := 16) hC 23 d_Na_isCommon_16 rfl (fun cc_16 => ?_) (fun cc_16 => ?_)
    · have h := ifp cc_16 h
      refine Y_iconst (pc := 23) hC d_Na_isCommon_23 ki_0 ?_
      exact Y_zret (pc := 24) hC hE d_Na_isCommon_24 rfl h
    · have h := ifn cc_16 h
      refine Y_iconst (pc := 19) hC d_Na_isCommon_19 ki_1 ?_
      refine Y_goto (pc := 20) hC 24 d_Na_isCommon_20 rfl ?_
      exact Y_zret (pc := 24) hC hE d_Na_isCommon_24 rfl h
set_option maxHeartbeats 4000000 in
set_option maxRecDepth 100000 in
theorem c_Na_definer (l : Launch) (D : va_G) (cI cZ : ClassId) (a : Nat → Nat) {V : Sto} {p1 : Int32} {r : Int32} {V' : Sto} (h : f_Na_definer V p1 = some (r, V')) : YMi l D cI cZ a shpC y_Na_definer b_Na_definer 2 (some .int) rm_Na_definer false [.ref (a 6), .int p1] V r V' := by
  refine YMi_of (by decide) (Nat.le_of_ble_eq_true rfl) ?_
  intro C hl hDD hcI hcZ ha hC hw hE
  subst hl hDD hcI hcZ ha
  show Y C shpC 2 0 [(0, .ref (C.a 6)), (1, .int p1)] [] V
  rw [f_Na_definer] at h
  refine Y_aload_n (pc := 0) hC d_Na_definer_0 rfl 0 rfl ?_
  refine Y_getR (pc := 1) hC sc_6 fl_Na_9 rfl d_Na_definer_1 ?_
  refine Y_iload_n (pc := 4) hC d_Na_definer_4 rfl 1 rfl ?_
  obtain ⟨hi, h⟩ := ck_some h
  refine Y_iald (pc := 5) hC sc_37 rfl hi d_Na_definer_5 ?_
  refine Y_iconst (pc := 6) hC d_Na_definer_6 ki_m1 ?_
  refine Y_icmp_eq (pc := 7) hC 17 d_Na_definer_7 rfl (fun cc_7 => ?_) (fun cc_7 => ?_)
  · have h := ifp cc_7 h
    refine Y_aload_n (pc := 17) hC d_Na_definer_17 rfl 0 rfl ?_
    refine Y_iload_n (pc := 18) hC d_Na_definer_18 rfl 1 rfl ?_
    obtain ⟨r1, V1, hc_r1, h⟩ := cl_some h
    refine Y_callV (pc := 19) hC (c_Na_isCommon C.l C.D C.cI C.cZ C.a hc_r1) (fun q => nomatch q) sc_6 cls_Na ml_Na_93 mv_Na_isCommon (by decide) (Nat.le_of_ble_eq_true rfl) rfl d_Na_definer_19 ?_
    refine Y_if_eq (pc := 22) hC 29 d_Na_definer_22 rfl (fun cc_22 => ?_) (fun cc_22 => ?_)
    · have h := ifp cc_22 h
      refine Y_aload_n (pc := 29) hC d_Na_definer_29 rfl 0 rfl ?_
      refine Y_getR (pc := 30) hC sc_6 fl_Na_15 rfl d_Na_definer_30 ?_
      refine Y_iload_n (pc := 33) hC d_Na_definer_33 rfl 1 rfl ?_
      obtain ⟨hi, h⟩ := ck_some h
      refine Y_iald (pc := 34) hC sc_38 rfl hi d_Na_definer_34 ?_
      exact Y_iret (pc := 35) hC hE d_Na_definer_35 h
    · have h := ifn cc_22 h
      refine Y_iconst (pc := 25) hC d_Na_definer_25 ki_m1 ?_
      refine Y_goto (pc := 26) hC 35 d_Na_definer_26 rfl ?_
      exact Y_iret (pc := 35) hC hE d_Na_definer_35 h
  · have h := ifn cc_7 h
    refine Y_aload_n (pc := 10) hC d_Na_definer_10 rfl 0 rfl ?_
    refine Y_getR (pc := 11) hC sc_6 fl_Na_9 rfl d_Na_definer_11 ?_
    refine Y_iload_n (pc := 14) hC d_Na_definer_14 rfl 1 rfl ?_
    obtain ⟨hi, h⟩ := ck_some h
    refine Y_iald (pc := 15) hC sc_37 rfl hi d_Na_definer_15 ?_
    exact Y_iret (pc := 16) hC hE d_Na_definer_16 h
set_option maxHeartbeats 4000000 in
set_option maxRecDepth 100000 in
theorem c_Na_isDefined (l : Launch) (D : va_G) (cI cZ : ClassId) (a : Nat → Nat) {V : Sto} {p1 : Int32} {r : Int32} {V' : Sto} (h : f_Na_isDefined V p1 = some (r, V')) : YMi l D cI cZ a shpC y_Na_isDefined b_Na_isDefined 2 (some .boolean) rm_Na_isDefined false [.ref (a 6), .int p1] V r V' := by
  refine YMi_of (by decide) (Nat.le_of_ble_eq_true rfl) ?_
  intro C hl hDD hcI hcZ ha hC hw hE
  subst hl hDD hcI hcZ ha
  show Y C shpC 2 0 [(0, .ref (C.a 6)), (1, .int p1)] [] V
  rw [f_Na_isDefined] at h
  refine Y_aload_n (pc := 0) hC d_Na_isDefined_0 rfl 0 rfl ?_
  refine Y_iload_n (pc := 1) hC d_Na_isDefined_1 rfl 1 rfl ?_
  obtain ⟨r1, V1, hc_r1, h⟩ := cl_some h
  refine Y_callV (pc := 2) hC (c_Na_isCommon C.l C.D C.cI C.cZ C.a hc_r1) (fun q => nomatch q) sc_6 cls_Na ml_Na_93 mv_Na_isCommon (by decide) (Nat.le_of_ble_eq_true rfl) rfl d_Na_isDefined_2 ?_
  refine Y_if_ne (pc := 5) hC 17 d_Na_isDefined_5 rfl (fun cc_5 => ?_) (fun cc_5 => ?_)
  · have h := ifn cc_5 h
    refine Y_iconst (pc := 17) hC d_Na_isDefined_17 ki_1 ?_
    refine Y_goto (pc := 18) hC 22 d_Na_isDefined_18 rfl ?_
    exact Y_zret (pc := 22) hC hE d_Na_isDefined_22 rfl h
  · have h := ifp cc_5 h
    refine Y_aload_n (pc := 8) hC d_Na_isDefined_8 rfl 0 rfl ?_
    refine Y_iload_n (pc := 9) hC d_Na_isDefined_9 rfl 1 rfl ?_
    obtain ⟨r2, V2, hc_r2, h⟩ := cl_some h
    refine Y_callV (pc := 10) hC (c_Na_definer C.l C.D C.cI C.cZ C.a hc_r2) (fun q => nomatch q) sc_6 cls_Na ml_Na_96 mv_Na_definer (by decide) (Nat.le_of_ble_eq_true rfl) rfl d_Na_isDefined_10 ?_
    refine Y_iconst (pc := 13) hC d_Na_isDefined_13 ki_m1 ?_
    refine Y_icmp_eq (pc := 14) hC 21 d_Na_isDefined_14 rfl (fun cc_14 => ?_) (fun cc_14 => ?_)
    · have h := ifp cc_14 h
      refine Y_iconst (pc := 21) hC d_Na_isDefined_21 ki_0 ?_
      exact Y_zret (pc := 22) hC hE d_Na_isDefined_22 rfl h
    · have h := ifn cc_14 h
      refine Y_iconst (pc := 17) hC d_Na_isDefined_17 ki_1 ?_
      refine Y_goto (pc := 18) hC 22 d_Na_isDefined_18 rfl ?_
      exact Y_zret (pc := 22) hC hE d_Na_isDefined_22 rfl h
set_option maxHeartbeats 4000000 in
set_option maxRecDepth 100000 in
theorem c_Na_sectionOf (l : Launch) (D : va_G) (cI cZ : ClassId) (a : Nat → Nat) {V : Sto} {p1 : Int32} {r : Int32} {V' : Sto} (h : f_Na_sectionOf V p1 = some (r, V')) : YMi l D cI cZ a shpC y_Na_sectionOf b_Na_sectionOf 3 (some .int) rm_Na_sectionOf false [.ref (a 6), .int p1] V r V' := by
  refine YMi_of (by decide) (Nat.le_of_ble_eq_true rfl) ?_
  intro C hl hDD hcI hcZ ha hC hw hE
  subst hl hDD hcI hcZ ha
  show Y C shpC 3 0 [(0, .ref (C.a 6)), (1, .int p1)] [] V
  rw [f_Na_sectionOf] at h
  refine Y_aload_n (pc := 0) hC d_Na_sectionOf_0 rfl 0 rfl ?_
  refine Y_iload_n (pc := 1) hC d_Na_sectionOf_1 rfl 1 rfl ?_
  obtain ⟨r1, V1, hc_r1, h⟩ := cl_some h
  refine Y_callV (pc := 2) hC (c_Na_definer C.l C.D C.cI C.cZ C.a hc_r1) (fun q => nomatch q) sc_6 cls_Na ml_Na_96 mv_Na_definer (by decide) (Nat.le_of_ble_eq_true rfl) rfl d_Na_sectionOf_2 ?_
  refine Y_istore_n (pc := 5) hC (L' := [(2, .int r1), (0, .ref (C.a 6)), (1, .int p1)]) d_Na_sectionOf_5 rfl (by decide) rfl ?_
  refine Y_iload_n (pc := 6) hC d_Na_sectionOf_6 rfl 0 rfl ?_
  refine Y_iconst (pc := 7) hC d_Na_sectionOf_7 ki_m1 ?_
  refine Y_icmp_ne (pc := 8) hC 15 d_Na_sectionOf_8 rfl (fun cc_8 => ?_) (fun cc_8 => ?_)
  · have h := ifn cc_8 h
    refine Y_aload_n (pc := 15) hC d_Na_sectionOf_15 rfl 1 rfl ?_
    refine Y_getR (pc := 16) hC sc_6 fl_Na_34 rfl d_Na_sectionOf_16 ?_
    refine Y_getR (pc := 19) hC sc_3 fl_Na_100 rfl d_Na_sectionOf_19 ?_
    refine Y_iload_n (pc := 22) hC d_Na_sectionOf_22 rfl 0 rfl ?_
    obtain ⟨hi, h⟩ := ck_some h
    refine Y_iald (pc := 23) hC sc_25 rfl hi d_Na_sectionOf_23 ?_
    exact Y_iret (pc := 24) hC hE d_Na_sectionOf_24 h
  · have h := ifp cc_8 h
    refine Y_iconst (pc := 11) hC d_Na_sectionOf_11 ki_m1 ?_
    refine Y_goto (pc := 12) hC 24 d_Na_sectionOf_12 rfl ?_
    exact Y_iret (pc := 24) hC hE d_Na_sectionOf_24 h
set_option maxHeartbeats 4000000 in
set_option maxRecDepth 100000 in
theorem c_Na_setMeaning (l : Launch) (D : va_G) (cI cZ : ClassId) (a : Nat → Nat) {V : Sto} {p1 : Int32} {p2 : Int32} {p3 : Int32} {p4 : Int32} {r : Int32} {V' : Sto} (h : f_Na_setMeaning V p1 p2 p3 p4 = some (r, V')) : YMv l D cI cZ a shpC y_Na_setMeaning b_Na_setMeaning 5 rm_Na_setMeaning true [.ref (a 6), .int p1, .int p2, .int p3, .int p4] V V' := by
  refine YMv_of (by decide) (Nat.le_of_ble_eq_true rfl) ?_
  intro C hl hDD hcI hcZ ha hC hw hE
  subst hl hDD hcI hcZ ha
  show Y C shpC 5 0 [(0, .ref (C.a 6)), (1, .int p1), (2, .int p2), (3, .int p3), (4, .int p4)] [] V
  have hw := hw rfl
  rw [f_Na_setMeaning] at h
  refine Y_aload_n (pc := 0) hC d_Na_setMeaning_0 rfl 0 rfl ?_
  refine Y_getR (pc := 1) hC sc_6 fl_Na_21 rfl d_Na_setMeaning_1 ?_
  refine Y_iload_n (pc := 4) hC d_Na_setMeaning_4 rfl 1 rfl ?_
  refine Y_iload_n (pc := 5) hC d_Na_setMeaning_5 rfl 2 rfl ?_
  obtain ⟨hi, h⟩ := ck_some h
  obtain ⟨V1, hV1, h⟩ := nm_some h
  refine Y_iast (pc := 6) hC sc_40 (by decide) rfl hi hw rfl hV1 d_Na_setMeaning_6 ?_
  refine Y_aload_n (pc := 7) hC d_Na_setMeaning_7 rfl 0 rfl ?_
  refine Y_getR (pc := 8) hC sc_6 fl_Na_24 rfl d_Na_setMeaning_8 ?_
  refine Y_iload_n (pc := 11) hC d_Na_setMeaning_11 rfl 1 rfl ?_
  refine Y_iload_n (pc := 12) hC d_Na_setMeaning_12 rfl 3 rfl ?_
  obtain ⟨hi, h⟩ := ck_some h
  obtain ⟨V2, hV2, h⟩ := nm_some h
  refine Y_iast (pc := 13) hC sc_41 (by decide) rfl hi hw rfl hV2 d_Na_setMeaning_13 ?_
  refine Y_aload_n (pc := 14) hC d_Na_setMeaning_14 rfl 0 rfl ?_
  refine Y_getR (pc := 15) hC sc_6 fl_Na_27 rfl d_Na_setMeaning_15 ?_
  refine Y_iload_n (pc := 18) hC d_Na_setMeaning_18 rfl 1 rfl ?_
  refine Y_iload (pc := 19) hC d_Na_setMeaning_19 4 rfl ?_
  obtain ⟨hi, h⟩ := ck_some h
  obtain ⟨V3, hV3, h⟩ := nm_some h
  refine Y_iast (pc := 21) hC sc_42 (by decide) rfl hi hw rfl hV3 d_Na_setMeaning_21 ?_
  exact Y_vret (pc := 22) hC hE d_Na_setMeaning_22 h
set_option maxHeartbeats 4000000 in
set_option maxRecDepth 100000 in
theorem c_Na_copyMeaning (l : Launch) (D : va_G) (cI cZ : ClassId) (a : Nat → Nat) {V : Sto} {p1 : Int32} {p2 : Int32} {r : Int32} {V' : Sto} (h : f_Na_copyMeaning V p1 p2 = some (r, V')) : YMv l D cI cZ a shpC y_Na_copyMeaning b_Na_copyMeaning 3 rm_Na_copyMeaning true [.ref (a 6), .int p1, .int p2] V V' := by
  refine YMv_of (by decide) (Nat.le_of_ble_eq_true rfl) ?_
  intro C hl hDD hcI hcZ ha hC hw hE
  subst hl hDD hcI hcZ ha
  show Y C shpC 3 0 [(0, .ref (C.a 6)), (1, .int p1), (2, .int p2)] [] V
  have hw := hw rfl
  rw [f_Na_copyMeaning] at h
  refine Y_aload_n (pc := 0) hC d_Na_copyMeaning_0 rfl 0 rfl ?_
  refine Y_iload_n (pc := 1) hC d_Na_copyMeaning_1 rfl 1 rfl ?_
  refine Y_aload_n (pc := 2) hC d_Na_copyMeaning_2 rfl 0 rfl ?_
  refine Y_getR (pc := 3) hC sc_6 fl_Na_34 rfl d_Na_copyMeaning_3 ?_
  refine Y_getR (pc := 6) hC sc_3 fl_Na_110 rfl d_Na_copyMeaning_6 ?_
  refine Y_iload_n (pc := 9) hC d_Na_copyMeaning_9 rfl 2 rfl ?_
  obtain ⟨hi, h⟩ := ck_some h
  refine Y_iald (pc := 10) hC sc_24 rfl hi d_Na_copyMeaning_10 ?_
  refine Y_aload_n (pc := 11) hC d_Na_copyMeaning_11 rfl 0 rfl ?_
  refine Y_getR (pc := 12) hC sc_6 fl_Na_34 rfl d_Na_copyMeaning_12 ?_
  refine Y_getR (pc := 15) hC sc_3 fl_Na_100 rfl d_Na_copyMeaning_15 ?_
  refine Y_iload_n (pc := 18) hC d_Na_copyMeaning_18 rfl 2 rfl ?_
  obtain ⟨hi, h⟩ := ck_some h
  refine Y_iald (pc := 19) hC sc_25 rfl hi d_Na_copyMeaning_19 ?_
  refine Y_aload_n (pc := 20) hC d_Na_copyMeaning_20 rfl 0 rfl ?_
  refine Y_getR (pc := 21) hC sc_6 fl_Na_34 rfl d_Na_copyMeaning_21 ?_
  refine Y_getR (pc := 24) hC sc_3 fl_Na_83 rfl d_Na_copyMeaning_24 ?_
  refine Y_iload_n (pc := 27) hC d_Na_copyMeaning_27 rfl 2 rfl ?_
  obtain ⟨hi, h⟩ := ck_some h
  refine Y_iald (pc := 28) hC sc_26 rfl hi d_Na_copyMeaning_28 ?_
  obtain ⟨r1, V1, hc_r1, h⟩ := cl_some h
  refine Y_callVv (pc := 29) hC (c_Na_setMeaning C.l C.D C.cI C.cZ C.a hc_r1) (fun _ => hw) sc_6 cls_Na ml_Na_103 mv_Na_setMeaning (by decide) (Nat.le_of_ble_eq_true rfl) rfl d_Na_copyMeaning_29 ?_
  exact Y_vret (pc := 32) hC hE d_Na_copyMeaning_32 h
end
