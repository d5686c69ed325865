theorem ml_Ly_126 : MLb R_Ly 126 y_Un_add b_Un_add 2 (some .int) 1 := ⟨(mw 708 (by decide +kernel)), (mw 705 (by decide +kernel)), (mw 84 (by decide +kernel)), by decide +kernel⟩
theorem mv_Un_add : MLv y_Un_add := ⟨(mw 706 (by decide +kernel)), (mw 707 (by decide +kernel))⟩
theorem tok_Ly_122_118 : TOk R_Ly "java/lang/UnsupportedOperationException" 118 122 ["java/lang/RuntimeException", "java/lang/Exception"] := ⟨(mw 689 (by decide +kernel)), (mw 690 (by decide +kernel)), (mw 100 (by decide +kernel)), by decide +kernel, by decide +kernel, by decide +kernel⟩
theorem tok_Ly_112_108 : TOk R_Ly "java/lang/IllegalArgumentException" 108 112 ["java/lang/RuntimeException", "java/lang/Exception"] := ⟨(mw 619 (by decide +kernel)), (mw 620 (by decide +kernel)), (mw 99 (by decide +kernel)), by decide +kernel, by decide +kernel, by decide +kernel⟩
theorem ml_Ly_155 : MLb R_Ly 155 y_Se_hasWord b_Se_hasWord 3 (some .boolean) 2 := ⟨(mw 1038 (by decide +kernel)), (mw 1035 (by decide +kernel)), (mw 85 (by decide +kernel)), by decide +kernel⟩
theorem mv_Se_hasWord : MLv y_Se_hasWord := ⟨(mw 1036 (by decide +kernel)), (mw 1037 (by decide +kernel))⟩
theorem ml_Ly_160 : MLb R_Ly 160 y_Se_write b_Se_write 4 (none) 3 := ⟨(mw 1047 (by decide +kernel)), (mw 1044 (by decide +kernel)), (mw 85 (by decide +kernel)), by decide +kernel⟩
theorem mv_Se_write : MLv y_Se_write := ⟨(mw 1045 (by decide +kernel)), (mw 1046 (by decide +kernel))⟩
theorem ml_Ly_164 : MLb R_Ly 164 y_Se_has b_Se_has 2 (some .boolean) 1 := ⟨(mw 1042 (by decide +kernel)), (mw 1055 (by decide +kernel)), (mw 85 (by decide +kernel)), by decide +kernel⟩
theorem fl_Ly_165 : FL R_Ly 165 2 6 := ⟨R_Se, F_Se, N_Se, rfl, by decide, i_Se, (mw 173 (by decide +kernel))⟩
theorem ml_Ly_171 : MLb R_Ly 171 y_Ly_isName b_Ly_isName 1 (some .boolean) 1 := ⟨(mw 1059 (by decide +kernel)), (mw 1057 (by decide +kernel)), (mw 83 (by decide +kernel)), by decide +kernel⟩
theorem ms_Ly_isName : Cond.static y_Ly_isName ∈ ALLW := (mw 1058 (by decide +kernel))
theorem fl_Ly_176 : FL R_Ly 176 2 4 := ⟨R_Se, F_Se, N_Se, rfl, by decide, i_Se, (mw 165 (by decide +kernel))⟩
theorem ml_Ly_179 : MLb R_Ly 179 y_Sy_clashes b_Sy_clashes 5 (some .boolean) 3 := ⟨(mw 1064 (by decide +kernel)), (mw 1061 (by decide +kernel)), (mw 86 (by decide +kernel)), by decide +kernel⟩
theorem mv_Sy_clashes : MLv y_Sy_clashes := ⟨(mw 1062 (by decide +kernel)), (mw 1063 (by decide +kernel))⟩
theorem ml_Ly_188 : MLb R_Ly 188 y_Sy_add b_Sy_add 4 (some .int) 3 := ⟨(mw 1070 (by decide +kernel)), (mw 1067 (by decide +kernel)), (mw 86 (by decide +kernel)), by decide +kernel⟩
theorem mv_Sy_add : MLv y_Sy_add := ⟨(mw 1068 (by decide +kernel)), (mw 1069 (by decide +kernel))⟩
theorem ml_Ly_191 : MLb R_Ly 191 y_Sy_define b_Sy_define 5 (none) 4 := ⟨(mw 1074 (by decide +kernel)), (mw 1071 (by decide +kernel)), (mw 86 (by decide +kernel)), by decide +kernel⟩
theorem mv_Sy_define : MLv y_Sy_define := ⟨(mw 1072 (by decide +kernel)), (mw 1073 (by decide +kernel))⟩
theorem ml_Ly_130 : MLb R_Ly 130 y_Un_has b_Un_has 2 (some .boolean) 1 := ⟨(mw 719 (by decide +kernel)), (mw 716 (by decide +kernel)), (mw 84 (by decide +kernel)), by decide +kernel⟩
theorem mv_Un_has : MLv y_Un_has := ⟨(mw 717 (by decide +kernel)), (mw 718 (by decide +kernel))⟩
theorem ml_Ly_195 : MLb R_Ly 195 y_Ly_isOther b_Ly_isOther 3 (some .boolean) 3 := ⟨(mw 1084 (by decide +kernel)), (mw 1082 (by decide +kernel)), (mw 83 (by decide +kernel)), by decide +kernel⟩
theorem ms_Ly_isOther : Cond.static y_Ly_isOther ∈ ALLW := (mw 1083 (by decide +kernel))
theorem ml_Ly_200 : MLb R_Ly 200 y_Ly_formOfOther b_Ly_formOfOther 1 (some .int) 1 := ⟨(mw 1088 (by decide +kernel)), (mw 1086 (by decide +kernel)), (mw 83 (by decide +kernel)), by decide +kernel⟩
theorem ms_Ly_formOfOther : Cond.static y_Ly_formOfOther ∈ ALLW := (mw 1087 (by decide +kernel))
theorem ml_Ly_205 : MLb R_Ly 205 y_Sy_has b_Sy_has 2 (some .boolean) 1 := ⟨(mw 1100 (by decide +kernel)), (mw 1097 (by decide +kernel)), (mw 86 (by decide +kernel)), by decide +kernel⟩
theorem mv_Sy_has : MLv y_Sy_has := ⟨(mw 1098 (by decide +kernel)), (mw 1099 (by decide +kernel))⟩
theorem fl_Ly_206 : FL R_Ly 206 3 1 := ⟨R_Sy, F_Sy, N_Sy, rfl, by decide, i_Sy, (mw 217 (by decide +kernel))⟩
theorem ml_Ly_212 : MLb R_Ly 212 y_Re_add b_Re_add 6 (some .int) 5 := ⟨(mw 1106 (by decide +kernel)), (mw 1103 (by decide +kernel)), (mw 87 (by decide +kernel)), by decide +kernel⟩
theorem mv_Re_add : MLv y_Re_add := ⟨(mw 1104 (by decide +kernel)), (mw 1105 (by decide +kernel))⟩
theorem fl_Ly_219 : FL R_Ly 219 2 9 := ⟨R_Se, F_Se, N_Se, rfl, by decide, i_Se, (mw 182 (by decide +kernel))⟩
theorem kc_Ly_233 : Cond.constant R_Ly 233 1048576 ∈ ALLW := (mw 1130 (by decide +kernel))
theorem ml_Ly_236 : MLb R_Ly 236 y_Ly_linksNames b_Ly_linksNames 2 (some .boolean) 0 := ⟨(mw 1135 (by decide +kernel)), (mw 1132 (by decide +kernel)), (mw 83 (by decide +kernel)), by decide +kernel⟩
theorem mv_Ly_linksNames : MLv y_Ly_linksNames := ⟨(mw 1134 (by decide +kernel)), (mw 3 (by decide +kernel))⟩
theorem fl_Ly_246 : FL R_Ly 246 9 5 := ⟨R_La, F_La, N_La, rfl, by decide, i_La, (mw 445 (by decide +kernel))⟩
theorem ml_Ly_240 : MLb R_Ly 240 y_Ly_linksPlaces b_Ly_linksPlaces 4 (some .boolean) 1 := ⟨(mw 1261 (by decide +kernel)), (mw 1258 (by decide +kernel)), (mw 83 (by decide +kernel)), by decide +kernel⟩
theorem mv_Ly_linksPlaces : MLv y_Ly_linksPlaces := ⟨(mw 1260 (by decide +kernel)), (mw 22 (by decide +kernel))⟩
theorem tok_Ly_327_323 : TOk R_Ly "java/lang/IllegalStateException" 323 327 ["java/lang/RuntimeException", "java/lang/Exception"] := ⟨(mw 1426 (by decide +kernel)), (mw 1427 (by decide +kernel)), (mw 114 (by decide +kernel)), by decide +kernel, by decide +kernel, by decide +kernel⟩
theorem ml_Ly_254 : MLb R_Ly 254 y_Ly_askLinked b_Ly_askLinked 1 (none) 0 := ⟨(mw 1425 (by decide +kernel)), (mw 1422 (by decide +kernel)), (mw 83 (by decide +kernel)), by decide +kernel⟩
theorem mv_Ly_askLinked : MLv y_Ly_askLinked := ⟨(mw 1424 (by decide +kernel)), (mw 40 (by decide +kernel))⟩
theorem fl_Ly_259 : FL R_Ly 259 1 2 := ⟨R_Un, F_Un, N_Un, rfl, by decide, i_Un, (mw 138 (by decide +kernel))⟩
theorem ml_Ly_262 : MLb R_Ly 262 y_Ly_askSection b_Ly_askSection 2 (none) 1 := ⟨(mw 1453 (by decide +kernel)), (mw 1450 (by decide +kernel)), (mw 83 (by decide +kernel)), by decide +kernel⟩
theorem mv_Ly_askSection : MLv y_Ly_askSection := ⟨(mw 1452 (by decide +kernel)), (mw 41 (by decide +kernel))⟩
theorem fl_Ly_266 : FL R_Ly 266 9 8 := ⟨R_La, F_La, N_La, rfl, by decide, i_La, (mw 454 (by decide +kernel))⟩
theorem d_Ly_unit_0 : decode b_Ly_unit 0 = .ok (.iload_n 1, 1) := by decide +kernel
theorem d_Ly_unit_1 : decode b_Ly_unit 1 = .ok (.iconst (-1), 1) := by decide +kernel
theorem d_Ly_unit_2 : decode b_Ly_unit 2 = .ok (.if_icmp .eq 22, 3) := by decide +kernel
theorem d_Ly_unit_5 : decode b_Ly_unit 5 = .ok (.iload_n 1, 1) := by decide +kernel
theorem d_Ly_unit_6 : decode b_Ly_unit 6 = .ok (.ifCond .lt 8, 3) := by decide +kernel
theorem d_Ly_unit_9 : decode b_Ly_unit 9 = .ok (.iload_n 1, 1) := by decide +kernel
theorem d_Ly_unit_10 : decode b_Ly_unit 10 = .ok (.iconst 4, 1) := by decide +kernel
theorem d_Ly_unit_11 : decode b_Ly_unit 11 = .ok (.if_icmp .lt 13, 3) := by decide +kernel
theorem d_Ly_unit_14 : decode b_Ly_unit 14 = .ok (.new 108, 3) := by decide +kernel
theorem d_Ly_unit_17 : decode b_Ly_unit 17 = .ok (.dup, 1) := by decide +kernel
theorem d_Ly_unit_18 : decode b_Ly_unit 18 = .ok (.ldc 110, 2) := by decide +kernel
theorem d_Ly_unit_20 : decode b_Ly_unit 20 = .ok (.invokespecial 112, 3) := by decide +kernel
theorem d_Ly_unit_23 : decode b_Ly_unit 23 = .ok (.athrow, 1) := by decide +kernel
theorem d_Ly_unit_24 : decode b_Ly_unit 24 = .ok (.aload_n 0, 1) := by decide +kernel
theorem d_Ly_unit_25 : decode b_Ly_unit 25 = .ok (.getfield 10, 3) := by decide +kernel
theorem d_Ly_unit_28 : decode b_Ly_unit 28 = .ok (.getfield 115, 3) := by decide +kernel
theorem d_Ly_unit_31 : decode b_Ly_unit 31 = .ok (.bipush 24, 2) := by decide +kernel
theorem d_Ly_unit_33 : decode b_Ly_unit 33 = .ok (.if_icmp .lt 13, 3) := by decide +kernel
theorem d_Ly_unit_36 : decode b_Ly_unit 36 = .ok (.new 118, 3) := by decide +kernel
theorem d_Ly_unit_39 : decode b_Ly_unit 39 = .ok (.dup, 1) := by decide +kernel
theorem d_Ly_unit_40 : decode b_Ly_unit 40 = .ok (.ldc 120, 2) := by decide +kernel
theorem d_Ly_unit_42 : decode b_Ly_unit 42 = .ok (.invokespecial 122, 3) := by decide +kernel
theorem d_Ly_unit_45 : decode b_Ly_unit 45 = .ok (.athrow, 1) := by decide +kernel
theorem d_Ly_unit_46 : decode b_Ly_unit 46 = .ok (.aload_n 0, 1) := by decide +kernel
theorem d_Ly_unit_47 : decode b_Ly_unit 47 = .ok (.invokevirtual 123, 3) := by decide +kernel
theorem d_Ly_unit_50 : decode b_Ly_unit 50 = .ok (.aload_n 0, 1) := by decide +kernel
theorem d_Ly_unit_51 : decode b_Ly_unit 51 = .ok (.getfield 10, 3) := by decide +kernel
theorem d_Ly_unit_54 : decode b_Ly_unit 54 = .ok (.iload_n 1, 1) := by decide +kernel
theorem d_Ly_unit_55 : decode b_Ly_unit 55 = .ok (.invokevirtual 126, 3) := by decide +kernel
theorem d_Ly_unit_58 : decode b_Ly_unit 58 = .ok (.ireturn, 1) := by decide +kernel
theorem d_Ly_word_0 : decode b_Ly_word 0 = .ok (.aload_n 0, 1) := by decide +kernel
theorem d_Ly_word_1 : decode b_Ly_word 1 = .ok (.getfield 19, 3) := by decide +kernel
theorem d_Ly_word_4 : decode b_Ly_word 4 = .ok (.iload_n 1, 1) := by decide +kernel
theorem d_Ly_word_5 : decode b_Ly_word 5 = .ok (.iload_n 2, 1) := by decide +kernel
theorem d_Ly_word_6 : decode b_Ly_word 6 = .ok (.invokevirtual 155, 3) := by decide +kernel
theorem d_Ly_word_9 : decode b_Ly_word 9 = .ok (.ifCond .ne 13, 3) := by decide +kernel
theorem d_Ly_word_12 : decode b_Ly_word 12 = .ok (.new 108, 3) := by decide +kernel
theorem d_Ly_word_15 : decode b_Ly_word 15 = .ok (.dup, 1) := by decide +kernel
theorem d_Ly_word_16 : decode b_Ly_word 16 = .ok (.ldc 158, 2) := by decide +kernel
theorem d_Ly_word_18 : decode b_Ly_word 18 = .ok (.invokespecial 112, 3) := by decide +kernel
theorem d_Ly_word_21 : decode b_Ly_word 21 = .ok (.athrow, 1) := by decide +kernel
theorem d_Ly_word_22 : decode b_Ly_word 22 = .ok (.aload_n 0, 1) := by decide +kernel
theorem d_Ly_word_23 : decode b_Ly_word 23 = .ok (.invokevirtual 123, 3) := by decide +kernel
theorem d_Ly_word_26 : decode b_Ly_word 26 = .ok (.aload_n 0, 1) := by decide +kernel
theorem d_Ly_word_27 : decode b_Ly_word 27 = .ok (.getfield 19, 3) := by decide +kernel
theorem d_Ly_word_30 : decode b_Ly_word 30 = .ok (.iload_n 1, 1) := by decide +kernel
theorem d_Ly_word_31 : decode b_Ly_word 31 = .ok (.iload_n 2, 1) := by decide +kernel
theorem d_Ly_word_32 : decode b_Ly_word 32 = .ok (.iload_n 3, 1) := by decide +kernel
theorem d_Ly_word_33 : decode b_Ly_word 33 = .ok (.invokevirtual 160, 3) := by decide +kernel
theorem d_Ly_word_36 : decode b_Ly_word 36 = .ok (.return_, 1) := by decide +kernel
theorem d_Ly_symbol_0 : decode b_Ly_symbol 0 = .ok (.aload_n 0, 1) := by decide +kernel
theorem d_Ly_symbol_1 : decode b_Ly_symbol 1 = .ok (.getfield 19, 3) := by decide +kernel
theorem d_Ly_symbol_4 : decode b_Ly_symbol 4 = .ok (.iload_n 1, 1) := by decide +kernel
theorem d_Ly_symbol_5 : decode b_Ly_symbol 5 = .ok (.invokevirtual 164, 3) := by decide +kernel
theorem d_Ly_symbol_8 : decode b_Ly_symbol 8 = .ok (.ifCond .eq 20, 3) := by decide +kernel
theorem d_Ly_symbol_11 : decode b_Ly_symbol 11 = .ok (.iload_n 2, 1) := by decide +kernel
theorem d_Ly_symbol_12 : decode b_Ly_symbol 12 = .ok (.ifCond .lt 16, 3) := by decide +kernel
theorem d_Ly_symbol_15 : decode b_Ly_symbol 15 = .ok (.iload_n 2, 1) := by decide +kernel
theorem d_Ly_symbol_16 : decode b_Ly_symbol 16 = .ok (.aload_n 0, 1) := by decide +kernel
theorem d_Ly_symbol_17 : decode b_Ly_symbol 17 = .ok (.getfield 19, 3) := by decide +kernel
theorem d_Ly_symbol_20 : decode b_Ly_symbol 20 = .ok (.getfield 165, 3) := by decide +kernel
theorem d_Ly_symbol_23 : decode b_Ly_symbol 23 = .ok (.iload_n 1, 1) := by decide +kernel
theorem d_Ly_symbol_24 : decode b_Ly_symbol 24 = .ok (.iaload, 1) := by decide +kernel
theorem d_Ly_symbol_25 : decode b_Ly_symbol 25 = .ok (.if_icmp .le 13, 3) := by decide +kernel
theorem d_Ly_symbol_28 : decode b_Ly_symbol 28 = .ok (.new 108, 3) := by decide +kernel
theorem d_Ly_symbol_31 : decode b_Ly_symbol 31 = .ok (.dup, 1) := by decide +kernel
theorem d_Ly_symbol_32 : decode b_Ly_symbol 32 = .ok (.ldc 169, 2) := by decide +kernel
theorem d_Ly_symbol_34 : decode b_Ly_symbol 34 = .ok (.invokespecial 112, 3) := by decide +kernel
theorem d_Ly_symbol_37 : decode b_Ly_symbol 37 = .ok (.athrow, 1) := by decide +kernel
theorem d_Ly_symbol_38 : decode b_Ly_symbol 38 = .ok (.iload_n 3, 1) := by decide +kernel
theorem d_Ly_symbol_39 : decode b_Ly_symbol 39 = .ok (.invokestatic 171, 3) := by decide +kernel
theorem d_Ly_symbol_42 : decode b_Ly_symbol 42 = .ok (.ifCond .eq 14, 3) := by decide +kernel
theorem d_Ly_symbol_45 : decode b_Ly_symbol 45 = .ok (.iload 4, 2) := by decide +kernel
theorem d_Ly_symbol_47 : decode b_Ly_symbol 47 = .ok (.ifCond .lt 9, 3) := by decide +kernel
theorem d_Ly_symbol_50 : decode b_Ly_symbol 50 = .ok (.iload 4, 2) := by decide +kernel
theorem d_Ly_symbol_52 : decode b_Ly_symbol 52 = .ok (.iconst 2, 1) := by decide +kernel
theorem d_Ly_symbol_53 : decode b_Ly_symbol 53 = .ok (.if_icmp .le 13, 3) := by decide +kernel
theorem d_Ly_symbol_56 : decode b_Ly_symbol 56 = .ok (.new 108, 3) := by decide +kernel
theorem d_Ly_symbol_59 : decode b_Ly_symbol 59 = .ok (.dup, 1) := by decide +kernel
theorem d_Ly_symbol_60 : decode b_Ly_symbol 60 = .ok (.ldc 174, 2) := by decide +kernel
theorem d_Ly_symbol_62 : decode b_Ly_symbol 62 = .ok (.invokespecial 112, 3) := by decide +kernel
theorem d_Ly_symbol_65 : decode b_Ly_symbol 65 = .ok (.athrow, 1) := by decide +kernel
theorem d_Ly_symbol_66 : decode b_Ly_symbol 66 = .ok (.aload_n 0, 1) := by decide +kernel
theorem d_Ly_symbol_67 : decode b_Ly_symbol 67 = .ok (.getfield 19, 3) := by decide +kernel
theorem d_Ly_symbol_70 : decode b_Ly_symbol 70 = .ok (.getfield 176, 3) := by decide +kernel
theorem d_Ly_symbol_73 : decode b_Ly_symbol 73 = .ok (.iload_n 1, 1) := by decide +kernel
theorem d_Ly_symbol_74 : decode b_Ly_symbol 74 = .ok (.iaload, 1) := by decide +kernel
theorem d_Ly_symbol_75 : decode b_Ly_symbol 75 = .ok (.istore 5, 2) := by decide +kernel
theorem d_Ly_symbol_77 : decode b_Ly_symbol 77 = .ok (.aload_n 0, 1) := by decide +kernel
theorem d_Ly_symbol_78 : decode b_Ly_symbol 78 = .ok (.getfield 26, 3) := by decide +kernel
theorem d_Ly_symbol_81 : decode b_Ly_symbol 81 = .ok (.iload 5, 2) := by decide +kernel
theorem d_Ly_symbol_83 : decode b_Ly_symbol 83 = .ok (.iload_n 3, 1) := by decide +kernel
theorem d_Ly_symbol_84 : decode b_Ly_symbol 84 = .ok (.iload 4, 2) := by decide +kernel
theorem d_Ly_symbol_86 : decode b_Ly_symbol 86 = .ok (.invokevirtual 179, 3) := by decide +kernel
theorem d_Ly_symbol_89 : decode b_Ly_symbol 89 = .ok (.ifCond .eq 13, 3) := by decide +kernel
theorem d_Ly_symbol_92 : decode b_Ly_symbol 92 = .ok (.new 108, 3) := by decide +kernel
theorem d_Ly_symbol_95 : decode b_Ly_symbol 95 = .ok (.dup, 1) := by decide +kernel
theorem d_Ly_symbol_96 : decode b_Ly_symbol 96 = .ok (.ldc 183, 2) := by decide +kernel
theorem d_Ly_symbol_98 : decode b_Ly_symbol 98 = .ok (.invokespecial 112, 3) := by decide +kernel
theorem d_Ly_symbol_101 : decode b_Ly_symbol 101 = .ok (.athrow, 1) := by decide +kernel
theorem d_Ly_symbol_102 : decode b_Ly_symbol 102 = .ok (.aload_n 0, 1) := by decide +kernel
theorem d_Ly_symbol_103 : decode b_Ly_symbol 103 = .ok (.getfield 26, 3) := by decide +kernel
theorem d_Ly_symbol_106 : decode b_Ly_symbol 106 = .ok (.getfield 185, 3) := by decide +kernel
theorem d_Ly_symbol_109 : decode b_Ly_symbol 109 = .ok (.sipush 400, 3) := by decide +kernel
theorem d_Ly_symbol_112 : decode b_Ly_symbol 112 = .ok (.if_icmp .lt 13, 3) := by decide +kernel
theorem d_Ly_symbol_115 : decode b_Ly_symbol 115 = .ok (.new 118, 3) := by decide +kernel
theorem d_Ly_symbol_118 : decode b_Ly_symbol 118 = .ok (.dup, 1) := by decide +kernel
theorem d_Ly_symbol_119 : decode b_Ly_symbol 119 = .ok (.ldc 186, 2) := by decide +kernel
theorem d_Ly_symbol_121 : decode b_Ly_symbol 121 = .ok (.invokespecial 122, 3) := by decide +kernel
theorem d_Ly_symbol_124 : decode b_Ly_symbol 124 = .ok (.athrow, 1) := by decide +kernel
theorem d_Ly_symbol_125 : decode b_Ly_symbol 125 = .ok (.aload_n 0, 1) := by decide +kernel
theorem d_Ly_symbol_126 : decode b_Ly_symbol 126 = .ok (.invokevirtual 123, 3) := by decide +kernel
theorem d_Ly_symbol_129 : decode b_Ly_symbol 129 = .ok (.aload_n 0, 1) := by decide +kernel
theorem d_Ly_symbol_130 : decode b_Ly_symbol 130 = .ok (.getfield 26, 3) := by decide +kernel
theorem d_Ly_symbol_133 : decode b_Ly_symbol 133 = .ok (.iload 5, 2) := by decide +kernel
theorem d_Ly_symbol_135 : decode b_Ly_symbol 135 = .ok (.iload_n 3, 1) := by decide +kernel
theorem d_Ly_symbol_136 : decode b_Ly_symbol 136 = .ok (.iload 4, 2) := by decide +kernel
theorem d_Ly_symbol_138 : decode b_Ly_symbol 138 = .ok (.invokevirtual 188, 3) := by decide +kernel
theorem d_Ly_symbol_141 : decode b_Ly_symbol 141 = .ok (.istore 6, 2) := by decide +kernel
theorem d_Ly_symbol_143 : decode b_Ly_symbol 143 = .ok (.aload_n 0, 1) := by decide +kernel
theorem d_Ly_symbol_144 : decode b_Ly_symbol 144 = .ok (.getfield 26, 3) := by decide +kernel
theorem d_Ly_symbol_147 : decode b_Ly_symbol 147 = .ok (.iload 6, 2) := by decide +kernel
theorem d_Ly_symbol_149 : decode b_Ly_symbol 149 = .ok (.iconst 1, 1) := by decide +kernel
theorem d_Ly_symbol_150 : decode b_Ly_symbol 150 = .ok (.iload_n 1, 1) := by decide +kernel
theorem d_Ly_symbol_151 : decode b_Ly_symbol 151 = .ok (.iload_n 2, 1) := by decide +kernel
theorem d_Ly_symbol_152 : decode b_Ly_symbol 152 = .ok (.invokevirtual 191, 3) := by decide +kernel
theorem d_Ly_symbol_155 : decode b_Ly_symbol 155 = .ok (.iload 6, 2) := by decide +kernel
theorem d_Ly_symbol_157 : decode b_Ly_symbol 157 = .ok (.ireturn, 1) := by decide +kernel
theorem d_Ly_other_0 : decode b_Ly_other 0 = .ok (.aload_n 0, 1) := by decide +kernel
theorem d_Ly_other_1 : decode b_Ly_other 1 = .ok (.getfield 10, 3) := by decide +kernel
theorem d_Ly_other_4 : decode b_Ly_other 4 = .ok (.iload_n 1, 1) := by decide +kernel
theorem d_Ly_other_5 : decode b_Ly_other 5 = .ok (.invokevirtual 130, 3) := by decide +kernel
theorem d_Ly_other_8 : decode b_Ly_other 8 = .ok (.ifCond .eq 21, 3) := by decide +kernel
theorem d_Ly_other_11 : decode b_Ly_other 11 = .ok (.iload_n 2, 1) := by decide +kernel
theorem d_Ly_other_12 : decode b_Ly_other 12 = .ok (.iload_n 3, 1) := by decide +kernel
theorem d_Ly_other_13 : decode b_Ly_other 13 = .ok (.iload 5, 2) := by decide +kernel
theorem d_Ly_other_15 : decode b_Ly_other 15 = .ok (.invokestatic 195, 3) := by decide +kernel
theorem d_Ly_other_18 : decode b_Ly_other 18 = .ok (.ifCond .eq 11, 3) := by decide +kernel
theorem d_Ly_other_21 : decode b_Ly_other 21 = .ok (.iload 4, 2) := by decide +kernel
theorem d_Ly_other_23 : decode b_Ly_other 23 = .ok (.invokestatic 171, 3) := by decide +kernel
theorem d_Ly_other_26 : decode b_Ly_other 26 = .ok (.ifCond .ne 13, 3) := by decide +kernel
theorem d_Ly_other_29 : decode b_Ly_other 29 = .ok (.new 108, 3) := by decide +kernel
theorem d_Ly_other_32 : decode b_Ly_other 32 = .ok (.dup, 1) := by decide +kernel
theorem d_Ly_other_33 : decode b_Ly_other 33 = .ok (.ldc 198, 2) := by decide +kernel
theorem d_Ly_other_35 : decode b_Ly_other 35 = .ok (.invokespecial 112, 3) := by decide +kernel
theorem d_Ly_other_38 : decode b_Ly_other 38 = .ok (.athrow, 1) := by decide +kernel
theorem d_Ly_other_39 : decode b_Ly_other 39 = .ok (.aload_n 0, 1) := by decide +kernel
theorem d_Ly_other_40 : decode b_Ly_other 40 = .ok (.getfield 26, 3) := by decide +kernel
theorem d_Ly_other_43 : decode b_Ly_other 43 = .ok (.iload_n 1, 1) := by decide +kernel
theorem d_Ly_other_44 : decode b_Ly_other 44 = .ok (.iload 4, 2) := by decide +kernel
theorem d_Ly_other_46 : decode b_Ly_other 46 = .ok (.iload 5, 2) := by decide +kernel
theorem d_Ly_other_48 : decode b_Ly_other 48 = .ok (.invokevirtual 179, 3) := by decide +kernel
theorem d_Ly_other_51 : decode b_Ly_other 51 = .ok (.ifCond .eq 13, 3) := by decide +kernel
theorem d_Ly_other_54 : decode b_Ly_other 54 = .ok (.new 108, 3) := by decide +kernel
theorem d_Ly_other_57 : decode b_Ly_other 57 = .ok (.dup, 1) := by decide +kernel
theorem d_Ly_other_58 : decode b_Ly_other 58 = .ok (.ldc 183, 2) := by decide +kernel
theorem d_Ly_other_60 : decode b_Ly_other 60 = .ok (.invokespecial 112, 3) := by decide +kernel
theorem d_Ly_other_63 : decode b_Ly_other 63 = .ok (.athrow, 1) := by decide +kernel
theorem d_Ly_other_64 : decode b_Ly_other 64 = .ok (.aload_n 0, 1) := by decide +kernel
theorem d_Ly_other_65 : decode b_Ly_other 65 = .ok (.getfield 26, 3) := by decide +kernel
theorem d_Ly_other_68 : decode b_Ly_other 68 = .ok (.getfield 185, 3) := by decide +kernel
theorem d_Ly_other_71 : decode b_Ly_other 71 = .ok (.sipush 400, 3) := by decide +kernel
theorem d_Ly_other_74 : decode b_Ly_other 74 = .ok (.if_icmp .lt 13, 3) := by decide +kernel
theorem d_Ly_other_77 : decode b_Ly_other 77 = .ok (.new 118, 3) := by decide +kernel
theorem d_Ly_other_80 : decode b_Ly_other 80 = .ok (.dup, 1) := by decide +kernel
theorem d_Ly_other_81 : decode b_Ly_other 81 = .ok (.ldc 186, 2) := by decide +kernel
theorem d_Ly_other_83 : decode b_Ly_other 83 = .ok (.invokespecial 122, 3) := by decide +kernel
theorem d_Ly_other_86 : decode b_Ly_other 86 = .ok (.athrow, 1) := by decide +kernel
theorem d_Ly_other_87 : decode b_Ly_other 87 = .ok (.aload_n 0, 1) := by decide +kernel
theorem d_Ly_other_88 : decode b_Ly_other 88 = .ok (.invokevirtual 123, 3) := by decide +kernel
theorem d_Ly_other_91 : decode b_Ly_other 91 = .ok (.aload_n 0, 1) := by decide +kernel
theorem d_Ly_other_92 : decode b_Ly_other 92 = .ok (.getfield 26, 3) := by decide +kernel
theorem d_Ly_other_95 : decode b_Ly_other 95 = .ok (.iload_n 1, 1) := by decide +kernel
theorem d_Ly_other_96 : decode b_Ly_other 96 = .ok (.iload 4, 2) := by decide +kernel
theorem d_Ly_other_98 : decode b_Ly_other 98 = .ok (.iload 5, 2) := by decide +kernel
theorem d_Ly_other_100 : decode b_Ly_other 100 = .ok (.invokevirtual 188, 3) := by decide +kernel
theorem d_Ly_other_103 : decode b_Ly_other 103 = .ok (.istore 6, 2) := by decide +kernel
theorem d_Ly_other_105 : decode b_Ly_other 105 = .ok (.aload_n 0, 1) := by decide +kernel
theorem d_Ly_other_106 : decode b_Ly_other 106 = .ok (.getfield 26, 3) := by decide +kernel
theorem d_Ly_other_109 : decode b_Ly_other 109 = .ok (.iload 6, 2) := by decide +kernel
theorem d_Ly_other_111 : decode b_Ly_other 111 = .ok (.iload_n 2, 1) := by decide +kernel
theorem d_Ly_other_112 : decode b_Ly_other 112 = .ok (.invokestatic 200, 3) := by decide +kernel
theorem d_Ly_other_115 : decode b_Ly_other 115 = .ok (.iconst (-1), 1) := by decide +kernel
theorem d_Ly_other_116 : decode b_Ly_other 116 = .ok (.iload_n 3, 1) := by decide +kernel
theorem d_Ly_other_117 : decode b_Ly_other 117 = .ok (.invokevirtual 191, 3) := by decide +kernel
theorem d_Ly_other_120 : decode b_Ly_other 120 = .ok (.iload 6, 2) := by decide +kernel
theorem d_Ly_other_122 : decode b_Ly_other 122 = .ok (.ireturn, 1) := by decide +kernel
theorem d_Ly_relocation_0 : decode b_Ly_relocation 0 = .ok (.aload_n 0, 1) := by decide +kernel
theorem d_Ly_relocation_1 : decode b_Ly_relocation 1 = .ok (.getfield 19, 3) := by decide +kernel
theorem d_Ly_relocation_4 : decode b_Ly_relocation 4 = .ok (.iload_n 1, 1) := by decide +kernel
theorem d_Ly_relocation_5 : decode b_Ly_relocation 5 = .ok (.iload_n 2, 1) := by decide +kernel
theorem d_Ly_relocation_6 : decode b_Ly_relocation 6 = .ok (.invokevirtual 155, 3) := by decide +kernel
theorem d_Ly_relocation_9 : decode b_Ly_relocation 9 = .ok (.ifCond .eq 12, 3) := by decide +kernel
theorem d_Ly_relocation_12 : decode b_Ly_relocation 12 = .ok (.iload_n 3, 1) := by decide +kernel
theorem d_Ly_relocation_13 : decode b_Ly_relocation 13 = .ok (.ifCond .lt 8, 3) := by decide +kernel
theorem d_Ly_relocation_16 : decode b_Ly_relocation 16 = .ok (.iload_n 3, 1) := by decide +kernel
theorem d_Ly_relocation_17 : decode b_Ly_relocation 17 = .ok (.iconst 5, 1) := by decide +kernel
theorem d_Ly_relocation_18 : decode b_Ly_relocation 18 = .ok (.if_icmp .le 13, 3) := by decide +kernel
theorem d_Ly_relocation_21 : decode b_Ly_relocation 21 = .ok (.new 108, 3) := by decide +kernel
theorem d_Ly_relocation_24 : decode b_Ly_relocation 24 = .ok (.dup, 1) := by decide +kernel
theorem d_Ly_relocation_25 : decode b_Ly_relocation 25 = .ok (.ldc 203, 2) := by decide +kernel
theorem d_Ly_relocation_27 : decode b_Ly_relocation 27 = .ok (.invokespecial 112, 3) := by decide +kernel
theorem d_Ly_relocation_30 : decode b_Ly_relocation 30 = .ok (.athrow, 1) := by decide +kernel
theorem d_Ly_relocation_31 : decode b_Ly_relocation 31 = .ok (.aload_n 0, 1) := by decide +kernel
theorem d_Ly_relocation_32 : decode b_Ly_relocation 32 = .ok (.getfield 26, 3) := by decide +kernel
theorem d_Ly_relocation_35 : decode b_Ly_relocation 35 = .ok (.iload 4, 2) := by decide +kernel
theorem d_Ly_relocation_37 : decode b_Ly_relocation 37 = .ok (.invokevirtual 205, 3) := by decide +kernel
theorem d_Ly_relocation_40 : decode b_Ly_relocation 40 = .ok (.ifCond .eq 25, 3) := by decide +kernel
theorem d_Ly_relocation_43 : decode b_Ly_relocation 43 = .ok (.aload_n 0, 1) := by decide +kernel
theorem d_Ly_relocation_44 : decode b_Ly_relocation 44 = .ok (.getfield 26, 3) := by decide +kernel
theorem d_Ly_relocation_47 : decode b_Ly_relocation 47 = .ok (.getfield 206, 3) := by decide +kernel
theorem d_Ly_relocation_50 : decode b_Ly_relocation 50 = .ok (.iload 4, 2) := by decide +kernel
theorem d_Ly_relocation_52 : decode b_Ly_relocation 52 = .ok (.iaload, 1) := by decide +kernel
theorem d_Ly_relocation_53 : decode b_Ly_relocation 53 = .ok (.aload_n 0, 1) := by decide +kernel
theorem d_Ly_relocation_54 : decode b_Ly_relocation 54 = .ok (.getfield 19, 3) := by decide +kernel
theorem d_Ly_relocation_57 : decode b_Ly_relocation 57 = .ok (.getfield 176, 3) := by decide +kernel
theorem d_Ly_relocation_60 : decode b_Ly_relocation 60 = .ok (.iload_n 1, 1) := by decide +kernel
theorem d_Ly_relocation_61 : decode b_Ly_relocation 61 = .ok (.iaload, 1) := by decide +kernel
theorem d_Ly_relocation_62 : decode b_Ly_relocation 62 = .ok (.if_icmp .eq 13, 3) := by decide +kernel
theorem d_Ly_relocation_65 : decode b_Ly_relocation 65 = .ok (.new 108, 3) := by decide +kernel
theorem d_Ly_relocation_68 : decode b_Ly_relocation 68 = .ok (.dup, 1) := by decide +kernel
theorem d_Ly_relocation_69 : decode b_Ly_relocation 69 = .ok (.ldc 207, 2) := by decide +kernel
theorem d_Ly_relocation_71 : decode b_Ly_relocation 71 = .ok (.invokespecial 112, 3) := by decide +kernel
theorem d_Ly_relocation_74 : decode b_Ly_relocation 74 = .ok (.athrow, 1) := by decide +kernel
theorem d_Ly_relocation_75 : decode b_Ly_relocation 75 = .ok (.aload_n 0, 1) := by decide +kernel
theorem d_Ly_relocation_76 : decode b_Ly_relocation 76 = .ok (.getfield 33, 3) := by decide +kernel
theorem d_Ly_relocation_79 : decode b_Ly_relocation 79 = .ok (.getfield 209, 3) := by decide +kernel
theorem d_Ly_relocation_82 : decode b_Ly_relocation 82 = .ok (.sipush 600, 3) := by decide +kernel
theorem d_Ly_relocation_85 : decode b_Ly_relocation 85 = .ok (.if_icmp .lt 13, 3) := by decide +kernel
theorem d_Ly_relocation_88 : decode b_Ly_relocation 88 = .ok (.new 118, 3) := by decide +kernel
theorem d_Ly_relocation_91 : decode b_Ly_relocation 91 = .ok (.dup, 1) := by decide +kernel
theorem d_Ly_relocation_92 : decode b_Ly_relocation 92 = .ok (.ldc 210, 2) := by decide +kernel
theorem d_Ly_relocation_94 : decode b_Ly_relocation 94 = .ok (.invokespecial 122, 3) := by decide +kernel
theorem d_Ly_relocation_97 : decode b_Ly_relocation 97 = .ok (.athrow, 1) := by decide +kernel
theorem d_Ly_relocation_98 : decode b_Ly_relocation 98 = .ok (.aload_n 0, 1) := by decide +kernel
theorem d_Ly_relocation_99 : decode b_Ly_relocation 99 = .ok (.invokevirtual 123, 3) := by decide +kernel
theorem d_Ly_relocation_102 : decode b_Ly_relocation 102 = .ok (.aload_n 0, 1) := by decide +kernel
theorem d_Ly_relocation_103 : decode b_Ly_relocation 103 = .ok (.getfield 33, 3) := by decide +kernel
theorem d_Ly_relocation_106 : decode b_Ly_relocation 106 = .ok (.iload_n 1, 1) := by decide +kernel
theorem d_Ly_relocation_107 : decode b_Ly_relocation 107 = .ok (.iload_n 2, 1) := by decide +kernel
theorem d_Ly_relocation_108 : decode b_Ly_relocation 108 = .ok (.iload_n 3, 1) := by decide +kernel
theorem d_Ly_relocation_109 : decode b_Ly_relocation 109 = .ok (.iload 4, 2) := by decide +kernel
theorem d_Ly_relocation_111 : decode b_Ly_relocation 111 = .ok (.iload 5, 2) := by decide +kernel
theorem d_Ly_relocation_113 : decode b_Ly_relocation 113 = .ok (.invokevirtual 212, 3) := by decide +kernel
theorem d_Ly_relocation_116 : decode b_Ly_relocation 116 = .ok (.ireturn, 1) := by decide +kernel
theorem d_Ly_entry_0 : decode b_Ly_entry 0 = .ok (.iload_n 1, 1) := by decide +kernel
theorem d_Ly_entry_1 : decode b_Ly_entry 1 = .ok (.iconst (-1), 1) := by decide +kernel
theorem d_Ly_entry_2 : decode b_Ly_entry 2 = .ok (.if_icmp .eq 20, 3) := by decide +kernel
theorem d_Ly_entry_5 : decode b_Ly_entry 5 = .ok (.iload_n 1, 1) := by decide +kernel
theorem d_Ly_entry_6 : decode b_Ly_entry 6 = .ok (.invokestatic 171, 3) := by decide +kernel
theorem d_Ly_entry_9 : decode b_Ly_entry 9 = .ok (.ifCond .ne 13, 3) := by decide +kernel
theorem d_Ly_entry_12 : decode b_Ly_entry 12 = .ok (.new 108, 3) := by decide +kernel
theorem d_Ly_entry_15 : decode b_Ly_entry 15 = .ok (.dup, 1) := by decide +kernel
theorem d_Ly_entry_16 : decode b_Ly_entry 16 = .ok (.ldc 215, 2) := by decide +kernel
theorem d_Ly_entry_18 : decode b_Ly_entry 18 = .ok (.invokespecial 112, 3) := by decide +kernel
theorem d_Ly_entry_21 : decode b_Ly_entry 21 = .ok (.athrow, 1) := by decide +kernel
theorem d_Ly_entry_22 : decode b_Ly_entry 22 = .ok (.aload_n 0, 1) := by decide +kernel
theorem d_Ly_entry_23 : decode b_Ly_entry 23 = .ok (.invokevirtual 123, 3) := by decide +kernel
theorem d_Ly_entry_26 : decode b_Ly_entry 26 = .ok (.aload_n 0, 1) := by decide +kernel
theorem d_Ly_entry_27 : decode b_Ly_entry 27 = .ok (.iload_n 1, 1) := by decide +kernel
theorem d_Ly_entry_28 : decode b_Ly_entry 28 = .ok (.putfield 98, 3) := by decide +kernel
theorem d_Ly_entry_31 : decode b_Ly_entry 31 = .ok (.return_, 1) := by decide +kernel
theorem d_Ly_keep_0 : decode b_Ly_keep 0 = .ok (.aload_n 0, 1) := by decide +kernel
theorem d_Ly_keep_1 : decode b_Ly_keep 1 = .ok (.getfield 19, 3) := by decide +kernel
theorem d_Ly_keep_4 : decode b_Ly_keep 4 = .ok (.iload_n 1, 1) := by decide +kernel
theorem d_Ly_keep_5 : decode b_Ly_keep 5 = .ok (.invokevirtual 164, 3) := by decide +kernel
theorem d_Ly_keep_8 : decode b_Ly_keep 8 = .ok (.ifCond .ne 13, 3) := by decide +kernel
theorem d_Ly_keep_11 : decode b_Ly_keep 11 = .ok (.new 108, 3) := by decide +kernel
theorem d_Ly_keep_14 : decode b_Ly_keep 14 = .ok (.dup, 1) := by decide +kernel
theorem d_Ly_keep_15 : decode b_Ly_keep 15 = .ok (.ldc 217, 2) := by decide +kernel
theorem d_Ly_keep_17 : decode b_Ly_keep 17 = .ok (.invokespecial 112, 3) := by decide +kernel
theorem d_Ly_keep_20 : decode b_Ly_keep 20 = .ok (.athrow, 1) := by decide +kernel
theorem d_Ly_keep_21 : decode b_Ly_keep 21 = .ok (.aload_n 0, 1) := by decide +kernel
theorem d_Ly_keep_22 : decode b_Ly_keep 22 = .ok (.invokevirtual 123, 3) := by decide +kernel
theorem d_Ly_keep_25 : decode b_Ly_keep 25 = .ok (.aload_n 0, 1) := by decide +kernel
theorem d_Ly_keep_26 : decode b_Ly_keep 26 = .ok (.getfield 19, 3) := by decide +kernel
theorem d_Ly_keep_29 : decode b_Ly_keep 29 = .ok (.getfield 219, 3) := by decide +kernel
theorem d_Ly_keep_32 : decode b_Ly_keep 32 = .ok (.iload_n 1, 1) := by decide +kernel
theorem d_Ly_keep_33 : decode b_Ly_keep 33 = .ok (.iload_n 2, 1) := by decide +kernel
theorem d_Ly_keep_34 : decode b_Ly_keep 34 = .ok (.bastore, 1) := by decide +kernel
theorem d_Ly_keep_35 : decode b_Ly_keep 35 = .ok (.return_, 1) := by decide +kernel
theorem d_Ly_link_0 : decode b_Ly_link 0 = .ok (.iload_n 1, 1) := by decide +kernel
theorem d_Ly_link_1 : decode b_Ly_link 1 = .ok (.ifCond .lt 17, 3) := by decide +kernel
theorem d_Ly_link_4 : decode b_Ly_link 4 = .ok (.iload_n 1, 1) := by decide +kernel
theorem d_Ly_link_5 : decode b_Ly_link 5 = .ok (.ldc 233, 2) := by decide +kernel
theorem d_Ly_link_7 : decode b_Ly_link 7 = .ok (.if_icmp .gt 11, 3) := by decide +kernel
theorem d_Ly_link_10 : decode b_Ly_link 10 = .ok (.iload_n 1, 1) := by decide +kernel
theorem d_Ly_link_11 : decode b_Ly_link 11 = .ok (.sipush 4096, 3) := by decide +kernel
theorem d_Ly_link_14 : decode b_Ly_link 14 = .ok (.irem, 1) := by decide +kernel
theorem d_Ly_link_15 : decode b_Ly_link 15 = .ok (.ifCond .eq 13, 3) := by decide +kernel
theorem d_Ly_link_18 : decode b_Ly_link 18 = .ok (.new 108, 3) := by decide +kernel
theorem d_Ly_link_21 : decode b_Ly_link 21 = .ok (.dup, 1) := by decide +kernel
theorem d_Ly_link_22 : decode b_Ly_link 22 = .ok (.ldc 234, 2) := by decide +kernel
theorem d_Ly_link_24 : decode b_Ly_link 24 = .ok (.invokespecial 112, 3) := by decide +kernel
theorem d_Ly_link_27 : decode b_Ly_link 27 = .ok (.athrow, 1) := by decide +kernel
theorem d_Ly_link_28 : decode b_Ly_link 28 = .ok (.aload_n 0, 1) := by decide +kernel
theorem d_Ly_link_29 : decode b_Ly_link 29 = .ok (.invokevirtual 123, 3) := by decide +kernel
theorem d_Ly_link_32 : decode b_Ly_link 32 = .ok (.aload_n 0, 1) := by decide +kernel
theorem d_Ly_link_33 : decode b_Ly_link 33 = .ok (.aload_n 0, 1) := by decide +kernel
theorem d_Ly_link_34 : decode b_Ly_link 34 = .ok (.invokevirtual 236, 3) := by decide +kernel
theorem d_Ly_link_37 : decode b_Ly_link 37 = .ok (.ifCond .eq 15, 3) := by decide +kernel
theorem d_Ly_link_40 : decode b_Ly_link 40 = .ok (.aload_n 0, 1) := by decide +kernel
theorem d_Ly_link_41 : decode b_Ly_link 41 = .ok (.iload_n 1, 1) := by decide +kernel
theorem d_Ly_link_42 : decode b_Ly_link 42 = .ok (.invokevirtual 240, 3) := by decide +kernel
theorem d_Ly_link_45 : decode b_Ly_link 45 = .ok (.ifCond .eq 7, 3) := by decide +kernel
theorem d_Ly_link_48 : decode b_Ly_link 48 = .ok (.iconst 1, 1) := by decide +kernel
theorem d_Ly_link_49 : decode b_Ly_link 49 = .ok (.goto 4, 3) := by decide +kernel
theorem d_Ly_link_52 : decode b_Ly_link 52 = .ok (.iconst 0, 1) := by decide +kernel
theorem d_Ly_link_53 : decode b_Ly_link 53 = .ok (.putfield 243, 3) := by decide +kernel
theorem d_Ly_link_56 : decode b_Ly_link 56 = .ok (.aload_n 0, 1) := by decide +kernel
theorem d_Ly_link_57 : decode b_Ly_link 57 = .ok (.getfield 243, 3) := by decide +kernel
theorem d_Ly_link_60 : decode b_Ly_link 60 = .ok (.ifCond .eq 15, 3) := by decide +kernel
theorem d_Ly_link_63 : decode b_Ly_link 63 = .ok (.aload_n 0, 1) := by decide +kernel
theorem d_Ly_link_64 : decode b_Ly_link 64 = .ok (.getfield 76, 3) := by decide +kernel
theorem d_Ly_link_67 : decode b_Ly_link 67 = .ok (.getfield 246, 3) := by decide +kernel
theorem d_Ly_link_70 : decode b_Ly_link 70 = .ok (.iload_n 1, 1) := by decide +kernel
theorem d_Ly_link_71 : decode b_Ly_link 71 = .ok (.isub, 1) := by decide +kernel
theorem d_Ly_link_72 : decode b_Ly_link 72 = .ok (.goto 4, 3) := by decide +kernel
theorem d_Ly_link_75 : decode b_Ly_link 75 = .ok (.iconst (-1), 1) := by decide +kernel
theorem d_Ly_link_76 : decode b_Ly_link 76 = .ok (.ireturn, 1) := by decide +kernel
theorem d_Ly_fault_0 : decode b_Ly_fault 0 = .ok (.iload_n 1, 1) := by decide +kernel
theorem d_Ly_fault_1 : decode b_Ly_fault 1 = .ok (.tableswitch 42 0 2 #[27, 32, 37], 27) := by decide +kernel
theorem d_Ly_fault_28 : decode b_Ly_fault 28 = .ok (.aload_n 0, 1) := by decide +kernel
theorem d_Ly_fault_29 : decode b_Ly_fault 29 = .ok (.getfield 249, 3) := by decide +kernel
theorem d_Ly_fault_32 : decode b_Ly_fault 32 = .ok (.ireturn, 1) := by decide +kernel
theorem d_Ly_fault_33 : decode b_Ly_fault 33 = .ok (.aload_n 0, 1) := by decide +kernel
theorem d_Ly_fault_34 : decode b_Ly_fault 34 = .ok (.getfield 102, 3) := by decide +kernel
theorem d_Ly_fault_37 : decode b_Ly_fault 37 = .ok (.ireturn, 1) := by decide +kernel
theorem d_Ly_fault_38 : decode b_Ly_fault 38 = .ok (.aload_n 0, 1) := by decide +kernel
theorem d_Ly_fault_39 : decode b_Ly_fault 39 = .ok (.getfield 105, 3) := by decide +kernel
theorem d_Ly_fault_42 : decode b_Ly_fault 42 = .ok (.ireturn, 1) := by decide +kernel
theorem d_Ly_fault_43 : decode b_Ly_fault 43 = .ok (.new 108, 3) := by decide +kernel
theorem d_Ly_fault_46 : decode b_Ly_fault 46 = .ok (.dup, 1) := by decide +kernel
theorem d_Ly_fault_47 : decode b_Ly_fault 47 = .ok (.ldc 252, 2) := by decide +kernel
theorem d_Ly_fault_49 : decode b_Ly_fault 49 = .ok (.invokespecial 112, 3) := by decide +kernel
theorem d_Ly_fault_52 : decode b_Ly_fault 52 = .ok (.athrow, 1) := by decide +kernel
theorem d_Ly_askLinked_0 : decode b_Ly_askLinked 0 = .ok (.aload_n 0, 1) := by decide +kernel
theorem d_Ly_askLinked_1 : decode b_Ly_askLinked 1 = .ok (.getfield 243, 3) := by decide +kernel
theorem d_Ly_askLinked_4 : decode b_Ly_askLinked 4 = .ok (.ifCond .ne 14, 3) := by decide +kernel
theorem d_Ly_askLinked_7 : decode b_Ly_askLinked 7 = .ok (.new 323, 3) := by decide +kernel
theorem d_Ly_askLinked_10 : decode b_Ly_askLinked 10 = .ok (.dup, 1) := by decide +kernel
theorem d_Ly_askLinked_11 : decode b_Ly_askLinked 11 = .ok (.ldc_w 325, 3) := by decide +kernel
theorem d_Ly_askLinked_14 : decode b_Ly_askLinked 14 = .ok (.invokespecial 327, 3) := by decide +kernel
theorem d_Ly_askLinked_17 : decode b_Ly_askLinked 17 = .ok (.athrow, 1) := by decide +kernel
theorem d_Ly_askLinked_18 : decode b_Ly_askLinked 18 = .ok (.return_, 1) := by decide +kernel
theorem d_Ly_isIn_0 : decode b_Ly_isIn 0 = .ok (.aload_n 0, 1) := by decide +kernel
theorem d_Ly_isIn_1 : decode b_Ly_isIn 1 = .ok (.invokevirtual 254, 3) := by decide +kernel
theorem d_Ly_isIn_4 : decode b_Ly_isIn 4 = .ok (.aload_n 0, 1) := by decide +kernel
theorem d_Ly_isIn_5 : decode b_Ly_isIn 5 = .ok (.getfield 10, 3) := by decide +kernel
theorem d_Ly_isIn_8 : decode b_Ly_isIn 8 = .ok (.iload_n 1, 1) := by decide +kernel
theorem d_Ly_isIn_9 : decode b_Ly_isIn 9 = .ok (.invokevirtual 130, 3) := by decide +kernel
theorem d_Ly_isIn_12 : decode b_Ly_isIn 12 = .ok (.ifCond .ne 14, 3) := by decide +kernel
theorem d_Ly_isIn_15 : decode b_Ly_isIn 15 = .ok (.new 108, 3) := by decide +kernel
theorem d_Ly_isIn_18 : decode b_Ly_isIn 18 = .ok (.dup, 1) := by decide +kernel
theorem d_Ly_isIn_19 : decode b_Ly_isIn 19 = .ok (.ldc_w 257, 3) := by decide +kernel
theorem d_Ly_isIn_22 : decode b_Ly_isIn 22 = .ok (.invokespecial 112, 3) := by decide +kernel
theorem d_Ly_isIn_25 : decode b_Ly_isIn 25 = .ok (.athrow, 1) := by decide +kernel
theorem d_Ly_isIn_26 : decode b_Ly_isIn 26 = .ok (.aload_n 0, 1) := by decide +kernel
theorem d_Ly_isIn_27 : decode b_Ly_isIn 27 = .ok (.getfield 10, 3) := by decide +kernel
theorem d_Ly_isIn_30 : decode b_Ly_isIn 30 = .ok (.getfield 259, 3) := by decide +kernel
theorem d_Ly_isIn_33 : decode b_Ly_isIn 33 = .ok (.iload_n 1, 1) := by decide +kernel
theorem d_Ly_isIn_34 : decode b_Ly_isIn 34 = .ok (.baload, 1) := by decide +kernel
theorem d_Ly_isIn_35 : decode b_Ly_isIn 35 = .ok (.ireturn, 1) := by decide +kernel
theorem d_Ly_askSection_0 : decode b_Ly_askSection 0 = .ok (.aload_n 0, 1) := by decide +kernel
theorem d_Ly_askSection_1 : decode b_Ly_askSection 1 = .ok (.getfield 19, 3) := by decide +kernel
theorem d_Ly_askSection_4 : decode b_Ly_askSection 4 = .ok (.iload_n 1, 1) := by decide +kernel
theorem d_Ly_askSection_5 : decode b_Ly_askSection 5 = .ok (.invokevirtual 164, 3) := by decide +kernel
theorem d_Ly_askSection_8 : decode b_Ly_askSection 8 = .ok (.ifCond .ne 13, 3) := by decide +kernel
theorem d_Ly_askSection_11 : decode b_Ly_askSection 11 = .ok (.new 108, 3) := by decide +kernel
theorem d_Ly_askSection_14 : decode b_Ly_askSection 14 = .ok (.dup, 1) := by decide +kernel
theorem d_Ly_askSection_15 : decode b_Ly_askSection 15 = .ok (.ldc 217, 2) := by decide +kernel
theorem d_Ly_askSection_17 : decode b_Ly_askSection 17 = .ok (.invokespecial 112, 3) := by decide +kernel
theorem d_Ly_askSection_20 : decode b_Ly_askSection 20 = .ok (.athrow, 1) := by decide +kernel
theorem d_Ly_askSection_21 : decode b_Ly_askSection 21 = .ok (.return_, 1) := by decide +kernel
theorem d_Ly_address_0 : decode b_Ly_address 0 = .ok (.aload_n 0, 1) := by decide +kernel
theorem d_Ly_address_1 : decode b_Ly_address 1 = .ok (.invokevirtual 254, 3) := by decide +kernel
theorem d_Ly_address_4 : decode b_Ly_address 4 = .ok (.aload_n 0, 1) := by decide +kernel
theorem d_Ly_address_5 : decode b_Ly_address 5 = .ok (.iload_n 1, 1) := by decide +kernel
theorem d_Ly_address_6 : decode b_Ly_address 6 = .ok (.invokevirtual 262, 3) := by decide +kernel
theorem d_Ly_address_9 : decode b_Ly_address 9 = .ok (.aload_n 0, 1) := by decide +kernel
theorem d_Ly_address_10 : decode b_Ly_address 10 = .ok (.getfield 76, 3) := by decide +kernel
theorem d_Ly_address_13 : decode b_Ly_address 13 = .ok (.getfield 266, 3) := by decide +kernel
theorem d_Ly_address_16 : decode b_Ly_address 16 = .ok (.iload_n 1, 1) := by decide +kernel
theorem d_Ly_address_17 : decode b_Ly_address 17 = .ok (.iaload, 1) := by decide +kernel
theorem d_Ly_address_18 : decode b_Ly_address 18 = .ok (.ireturn, 1) := by decide +kernel
