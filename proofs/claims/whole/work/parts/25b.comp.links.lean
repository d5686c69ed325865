theorem ki_5 : Int32.ofInt 5 = 5 := by decide
theorem fl_Ly_67 : FL R_Ly 67 0 7 := ⟨R_Ly, F_Ly, N_Ly, rfl, by decide, i_Ly, (mw 546 (by decide +kernel))⟩
theorem ml_Ly_362 : MLb R_Ly 362 y_Fo_settle b_Fo_settle 3 (none) 1 := ⟨(mw 1265 (by decide +kernel)), (mw 1262 (by decide +kernel)), (mw 91 (by decide +kernel)), by decide +kernel⟩
theorem mv_Fo_settle : MLv y_Fo_settle := ⟨(mw 1263 (by decide +kernel)), (mw 1264 (by decide +kernel))⟩
theorem fl_Ly_76 : FL R_Ly 76 0 8 := ⟨R_Ly, F_Ly, N_Ly, rfl, by decide, i_Ly, (mw 547 (by decide +kernel))⟩
theorem ml_Ly_365 : MLb R_Ly 365 y_La_begin b_La_begin 2 (none) 1 := ⟨(mw 1316 (by decide +kernel)), (mw 1313 (by decide +kernel)), (mw 92 (by decide +kernel)), by decide +kernel⟩
theorem mv_La_begin : MLv y_La_begin := ⟨(mw 1314 (by decide +kernel)), (mw 1315 (by decide +kernel))⟩
theorem fl_Ly_85 : FL R_Ly 85 0 9 := ⟨R_Ly, F_Ly, N_Ly, rfl, by decide, i_Ly, (mw 548 (by decide +kernel))⟩
theorem ml_Ly_368 : MLb R_Ly 368 y_Is_settle b_Is_settle 3 (some .boolean) 0 := ⟨(mw 1321 (by decide +kernel)), (mw 1318 (by decide +kernel)), (mw 93 (by decide +kernel)), by decide +kernel⟩
theorem mv_Is_settle : MLv y_Is_settle := ⟨(mw 1319 (by decide +kernel)), (mw 1320 (by decide +kernel))⟩
theorem fl_Ly_94 : FL R_Ly 94 0 10 := ⟨R_Ly, F_Ly, N_Ly, rfl, by decide, i_Ly, (mw 549 (by decide +kernel))⟩
theorem ml_Ly_370 : MLb R_Ly 370 y_Me_firstFar b_Me_firstFar 3 (some .int) 0 := ⟨(mw 1390 (by decide +kernel)), (mw 1387 (by decide +kernel)), (mw 94 (by decide +kernel)), by decide +kernel⟩
theorem mv_Me_firstFar : MLv y_Me_firstFar := ⟨(mw 1388 (by decide +kernel)), (mw 1389 (by decide +kernel))⟩
theorem ml_Ly_373 : MLb R_Ly 373 y_Me_firstMisplacedJump b_Me_firstMisplacedJump 3 (some .int) 0 := ⟨(mw 1405 (by decide +kernel)), (mw 1402 (by decide +kernel)), (mw 94 (by decide +kernel)), by decide +kernel⟩
theorem mv_Me_firstMisplacedJump : MLv y_Me_firstMisplacedJump := ⟨(mw 1403 (by decide +kernel)), (mw 1404 (by decide +kernel))⟩
theorem ks_8192 : (Int16.ofInt 8192).toInt32 = 8192 := by decide
theorem kc_Integer_265 : Cond.constant "java/lang/Integer" 265 1431655765 ∈ ALLW := (mw 730 (by decide +kernel))
theorem kc_Integer_266 : Cond.constant "java/lang/Integer" 266 858993459 ∈ ALLW := (mw 731 (by decide +kernel))
theorem kc_Integer_267 : Cond.constant "java/lang/Integer" 267 252645135 ∈ ALLW := (mw 732 (by decide +kernel))
theorem kb_16 : (Int8.ofInt 16).toInt32 = 16 := by decide
theorem kb_63 : (Int8.ofInt 63).toInt32 = 63 := by decide
theorem ks_4096 : (Int16.ofInt 4096).toInt32 = 4096 := by decide
theorem ml_Ly_376 : MLb R_Ly 376 y_bitCount b_bitCount 1 (some .int) 1 := ⟨(mw 729 (by decide +kernel)), (mw 727 (by decide +kernel)), (mw 101 (by decide +kernel)), by decide +kernel⟩
theorem ms_bitCount : Cond.static y_bitCount ∈ ALLW := (mw 728 (by decide +kernel))
theorem ml_Ly_136 : MLb R_Ly 136 y_Ly_isSize b_Ly_isSize 2 (some .boolean) 2 := ⟨(mw 723 (by decide +kernel)), (mw 721 (by decide +kernel)), (mw 83 (by decide +kernel)), by decide +kernel⟩
theorem ms_Ly_isSize : Cond.static y_Ly_isSize ∈ ALLW := (mw 722 (by decide +kernel))
theorem fl_Un_19 : FL R_Un 19 1 0 := ⟨R_Un, F_Un, N_Un, rfl, by decide, i_Un, (mw 129 (by decide +kernel))⟩
theorem fl_Un_9 : FL R_Un 9 1 1 := ⟨R_Un, F_Un, N_Un, rfl, by decide, i_Un, (mw 132 (by decide +kernel))⟩
theorem fl_Un_15 : FL R_Un 15 1 2 := ⟨R_Un, F_Un, N_Un, rfl, by decide, i_Un, (mw 134 (by decide +kernel))⟩
theorem ml_Se_38 : MLb R_Se 38 y_Se_has b_Se_has 2 (some .boolean) 1 := ⟨(mw 1042 (by decide +kernel)), (mw 1039 (by decide +kernel)), (mw 85 (by decide +kernel)), by decide +kernel⟩
theorem mv_Se_has : MLv y_Se_has := ⟨(mw 1040 (by decide +kernel)), (mw 1041 (by decide +kernel))⟩
theorem fl_Se_18 : FL R_Se 18 2 5 := ⟨R_Se, F_Se, N_Se, rfl, by decide, i_Se, (mw 166 (by decide +kernel))⟩
theorem fl_Se_21 : FL R_Se 21 2 6 := ⟨R_Se, F_Se, N_Se, rfl, by decide, i_Se, (mw 171 (by decide +kernel))⟩
theorem kc_Se_72 : Cond.constant R_Se 72 100000 ∈ ALLW := (mw 747 (by decide +kernel))
theorem mm_Se_73 : Cond.methodLink R_Se 73 Lib.Math.min.name ∈ ALLW := (mw 748 (by decide +kernel))
theorem fl_Sy_30 : FL R_Sy 30 3 0 := ⟨R_Sy, F_Sy, N_Sy, rfl, by decide, i_Sy, (mw 210 (by decide +kernel))⟩
theorem fl_Sy_9 : FL R_Sy 9 3 1 := ⟨R_Sy, F_Sy, N_Sy, rfl, by decide, i_Sy, (mw 214 (by decide +kernel))⟩
theorem fl_Sy_15 : FL R_Sy 15 3 2 := ⟨R_Sy, F_Sy, N_Sy, rfl, by decide, i_Sy, (mw 218 (by decide +kernel))⟩
theorem fl_Sy_24 : FL R_Sy 24 3 5 := ⟨R_Sy, F_Sy, N_Sy, rfl, by decide, i_Sy, (mw 227 (by decide +kernel))⟩
theorem fl_Sy_27 : FL R_Sy 27 3 6 := ⟨R_Sy, F_Sy, N_Sy, rfl, by decide, i_Sy, (mw 229 (by decide +kernel))⟩
theorem fl_Re_15 : FL R_Re 15 4 2 := ⟨R_Re, F_Re, N_Re, rfl, by decide, i_Re, (mw 261 (by decide +kernel))⟩
theorem fl_Re_18 : FL R_Re 18 4 3 := ⟨R_Re, F_Re, N_Re, rfl, by decide, i_Re, (mw 265 (by decide +kernel))⟩
theorem fl_Re_21 : FL R_Re 21 4 4 := ⟨R_Re, F_Re, N_Re, rfl, by decide, i_Re, (mw 269 (by decide +kernel))⟩
theorem fl_Re_24 : FL R_Re 24 4 5 := ⟨R_Re, F_Re, N_Re, rfl, by decide, i_Re, (mw 274 (by decide +kernel))⟩
theorem ml_Fo_52 : MLb R_Fo 52 y_Fo_isFolded b_Fo_isFolded 2 (some .boolean) 1 := ⟨(mw 1334 (by decide +kernel)), (mw 1558 (by decide +kernel)), (mw 91 (by decide +kernel)), by decide +kernel⟩
theorem d_Me_firstMisplacedJump_0 : decode b_Me_firstMisplacedJump 0 = .ok (.iconst 0, 1) := by decide +kernel
theorem d_Me_firstMisplacedJump_1 : decode b_Me_firstMisplacedJump 1 = .ok (.istore_n 1, 1) := by decide +kernel
theorem d_Me_firstMisplacedJump_2 : decode b_Me_firstMisplacedJump 2 = .ok (.iload_n 1, 1) := by decide +kernel
theorem d_Me_firstMisplacedJump_3 : decode b_Me_firstMisplacedJump 3 = .ok (.aload_n 0, 1) := by decide +kernel
theorem d_Me_firstMisplacedJump_4 : decode b_Me_firstMisplacedJump 4 = .ok (.getfield 15, 3) := by decide +kernel
theorem d_Me_firstMisplacedJump_7 : decode b_Me_firstMisplacedJump 7 = .ok (.getfield 27, 3) := by decide +kernel
theorem d_Me_firstMisplacedJump_10 : decode b_Me_firstMisplacedJump 10 = .ok (.if_icmp .ge 43, 3) := by decide +kernel
theorem d_Me_firstMisplacedJump_13 : decode b_Me_firstMisplacedJump 13 = .ok (.aload_n 0, 1) := by decide +kernel
theorem d_Me_firstMisplacedJump_14 : decode b_Me_firstMisplacedJump 14 = .ok (.getfield 15, 3) := by decide +kernel
theorem d_Me_firstMisplacedJump_17 : decode b_Me_firstMisplacedJump 17 = .ok (.getfield 33, 3) := by decide +kernel
theorem d_Me_firstMisplacedJump_20 : decode b_Me_firstMisplacedJump 20 = .ok (.iload_n 1, 1) := by decide +kernel
theorem d_Me_firstMisplacedJump_21 : decode b_Me_firstMisplacedJump 21 = .ok (.iaload, 1) := by decide +kernel
theorem d_Me_firstMisplacedJump_22 : decode b_Me_firstMisplacedJump 22 = .ok (.istore_n 2, 1) := by decide +kernel
theorem d_Me_firstMisplacedJump_23 : decode b_Me_firstMisplacedJump 23 = .ok (.aload_n 0, 1) := by decide +kernel
theorem d_Me_firstMisplacedJump_24 : decode b_Me_firstMisplacedJump 24 = .ok (.iload_n 2, 1) := by decide +kernel
theorem d_Me_firstMisplacedJump_25 : decode b_Me_firstMisplacedJump 25 = .ok (.iconst 5, 1) := by decide +kernel
theorem d_Me_firstMisplacedJump_26 : decode b_Me_firstMisplacedJump 26 = .ok (.invokevirtual 37, 3) := by decide +kernel
theorem d_Me_firstMisplacedJump_29 : decode b_Me_firstMisplacedJump 29 = .ok (.ifCond .eq 18, 3) := by decide +kernel
theorem d_Me_firstMisplacedJump_32 : decode b_Me_firstMisplacedJump 32 = .ok (.aload_n 0, 1) := by decide +kernel
theorem d_Me_firstMisplacedJump_33 : decode b_Me_firstMisplacedJump 33 = .ok (.getfield 23, 3) := by decide +kernel
theorem d_Me_firstMisplacedJump_36 : decode b_Me_firstMisplacedJump 36 = .ok (.iload_n 2, 1) := by decide +kernel
theorem d_Me_firstMisplacedJump_37 : decode b_Me_firstMisplacedJump 37 = .ok (.invokevirtual 41, 3) := by decide +kernel
theorem d_Me_firstMisplacedJump_40 : decode b_Me_firstMisplacedJump 40 = .ok (.iconst 4, 1) := by decide +kernel
theorem d_Me_firstMisplacedJump_41 : decode b_Me_firstMisplacedJump 41 = .ok (.irem, 1) := by decide +kernel
theorem d_Me_firstMisplacedJump_42 : decode b_Me_firstMisplacedJump 42 = .ok (.ifCond .eq 5, 3) := by decide +kernel
theorem d_Me_firstMisplacedJump_45 : decode b_Me_firstMisplacedJump 45 = .ok (.iload_n 2, 1) := by decide +kernel
theorem d_Me_firstMisplacedJump_46 : decode b_Me_firstMisplacedJump 46 = .ok (.ireturn, 1) := by decide +kernel
theorem d_Me_firstMisplacedJump_47 : decode b_Me_firstMisplacedJump 47 = .ok (.iinc 1 1, 3) := by decide +kernel
theorem d_Me_firstMisplacedJump_50 : decode b_Me_firstMisplacedJump 50 = .ok (.goto (-48), 3) := by decide +kernel
theorem d_Me_firstMisplacedJump_53 : decode b_Me_firstMisplacedJump 53 = .ok (.iconst (-1), 1) := by decide +kernel
theorem d_Me_firstMisplacedJump_54 : decode b_Me_firstMisplacedJump 54 = .ok (.ireturn, 1) := by decide +kernel
theorem d_Ly_linksPlaces_0 : decode b_Ly_linksPlaces 0 = .ok (.aload_n 0, 1) := by decide +kernel
theorem d_Ly_linksPlaces_1 : decode b_Ly_linksPlaces 1 = .ok (.getfield 67, 3) := by decide +kernel
theorem d_Ly_linksPlaces_4 : decode b_Ly_linksPlaces 4 = .ok (.aload_n 0, 1) := by decide +kernel
theorem d_Ly_linksPlaces_5 : decode b_Ly_linksPlaces 5 = .ok (.getfield 223, 3) := by decide +kernel
theorem d_Ly_linksPlaces_8 : decode b_Ly_linksPlaces 8 = .ok (.invokevirtual 362, 3) := by decide +kernel
theorem d_Ly_linksPlaces_11 : decode b_Ly_linksPlaces 11 = .ok (.aload_n 0, 1) := by decide +kernel
theorem d_Ly_linksPlaces_12 : decode b_Ly_linksPlaces 12 = .ok (.getfield 76, 3) := by decide +kernel
theorem d_Ly_linksPlaces_15 : decode b_Ly_linksPlaces 15 = .ok (.iload_n 1, 1) := by decide +kernel
theorem d_Ly_linksPlaces_16 : decode b_Ly_linksPlaces 16 = .ok (.invokevirtual 365, 3) := by decide +kernel
theorem d_Ly_linksPlaces_19 : decode b_Ly_linksPlaces 19 = .ok (.aload_n 0, 1) := by decide +kernel
theorem d_Ly_linksPlaces_20 : decode b_Ly_linksPlaces 20 = .ok (.getfield 85, 3) := by decide +kernel
theorem d_Ly_linksPlaces_23 : decode b_Ly_linksPlaces 23 = .ok (.invokevirtual 368, 3) := by decide +kernel
theorem d_Ly_linksPlaces_26 : decode b_Ly_linksPlaces 26 = .ok (.ifCond .ne 11, 3) := by decide +kernel
theorem d_Ly_linksPlaces_29 : decode b_Ly_linksPlaces 29 = .ok (.aload_n 0, 1) := by decide +kernel
theorem d_Ly_linksPlaces_30 : decode b_Ly_linksPlaces 30 = .ok (.iconst 4, 1) := by decide +kernel
theorem d_Ly_linksPlaces_31 : decode b_Ly_linksPlaces 31 = .ok (.iconst (-1), 1) := by decide +kernel
theorem d_Ly_linksPlaces_32 : decode b_Ly_linksPlaces 32 = .ok (.iconst (-1), 1) := by decide +kernel
theorem d_Ly_linksPlaces_33 : decode b_Ly_linksPlaces 33 = .ok (.invokevirtual 341, 3) := by decide +kernel
theorem d_Ly_linksPlaces_36 : decode b_Ly_linksPlaces 36 = .ok (.ireturn, 1) := by decide +kernel
theorem d_Ly_linksPlaces_37 : decode b_Ly_linksPlaces 37 = .ok (.aload_n 0, 1) := by decide +kernel
theorem d_Ly_linksPlaces_38 : decode b_Ly_linksPlaces 38 = .ok (.getfield 94, 3) := by decide +kernel
theorem d_Ly_linksPlaces_41 : decode b_Ly_linksPlaces 41 = .ok (.invokevirtual 370, 3) := by decide +kernel
theorem d_Ly_linksPlaces_44 : decode b_Ly_linksPlaces 44 = .ok (.istore_n 2, 1) := by decide +kernel
theorem d_Ly_linksPlaces_45 : decode b_Ly_linksPlaces 45 = .ok (.iload_n 2, 1) := by decide +kernel
theorem d_Ly_linksPlaces_46 : decode b_Ly_linksPlaces 46 = .ok (.iconst (-1), 1) := by decide +kernel
theorem d_Ly_linksPlaces_47 : decode b_Ly_linksPlaces 47 = .ok (.if_icmp .eq 11, 3) := by decide +kernel
theorem d_Ly_linksPlaces_50 : decode b_Ly_linksPlaces 50 = .ok (.aload_n 0, 1) := by decide +kernel
theorem d_Ly_linksPlaces_51 : decode b_Ly_linksPlaces 51 = .ok (.iconst 3, 1) := by decide +kernel
theorem d_Ly_linksPlaces_52 : decode b_Ly_linksPlaces 52 = .ok (.iconst (-1), 1) := by decide +kernel
theorem d_Ly_linksPlaces_53 : decode b_Ly_linksPlaces 53 = .ok (.iload_n 2, 1) := by decide +kernel
theorem d_Ly_linksPlaces_54 : decode b_Ly_linksPlaces 54 = .ok (.invokevirtual 341, 3) := by decide +kernel
theorem d_Ly_linksPlaces_57 : decode b_Ly_linksPlaces 57 = .ok (.ireturn, 1) := by decide +kernel
theorem d_Ly_linksPlaces_58 : decode b_Ly_linksPlaces 58 = .ok (.aload_n 0, 1) := by decide +kernel
theorem d_Ly_linksPlaces_59 : decode b_Ly_linksPlaces 59 = .ok (.getfield 94, 3) := by decide +kernel
theorem d_Ly_linksPlaces_62 : decode b_Ly_linksPlaces 62 = .ok (.invokevirtual 373, 3) := by decide +kernel
theorem d_Ly_linksPlaces_65 : decode b_Ly_linksPlaces 65 = .ok (.istore_n 3, 1) := by decide +kernel
theorem d_Ly_linksPlaces_66 : decode b_Ly_linksPlaces 66 = .ok (.iload_n 3, 1) := by decide +kernel
theorem d_Ly_linksPlaces_67 : decode b_Ly_linksPlaces 67 = .ok (.iconst (-1), 1) := by decide +kernel
theorem d_Ly_linksPlaces_68 : decode b_Ly_linksPlaces 68 = .ok (.if_icmp .eq 11, 3) := by decide +kernel
theorem d_Ly_linksPlaces_71 : decode b_Ly_linksPlaces 71 = .ok (.aload_n 0, 1) := by decide +kernel
theorem d_Ly_linksPlaces_72 : decode b_Ly_linksPlaces 72 = .ok (.iconst 5, 1) := by decide +kernel
theorem d_Ly_linksPlaces_73 : decode b_Ly_linksPlaces 73 = .ok (.iconst (-1), 1) := by decide +kernel
theorem d_Ly_linksPlaces_74 : decode b_Ly_linksPlaces 74 = .ok (.iload_n 3, 1) := by decide +kernel
theorem d_Ly_linksPlaces_75 : decode b_Ly_linksPlaces 75 = .ok (.invokevirtual 341, 3) := by decide +kernel
theorem d_Ly_linksPlaces_78 : decode b_Ly_linksPlaces 78 = .ok (.ireturn, 1) := by decide +kernel
theorem d_Ly_linksPlaces_79 : decode b_Ly_linksPlaces 79 = .ok (.iconst 1, 1) := by decide +kernel
theorem d_Ly_linksPlaces_80 : decode b_Ly_linksPlaces 80 = .ok (.ireturn, 1) := by decide +kernel
theorem d_Ly_isName_0 : decode b_Ly_isName 0 = .ok (.iload_n 0, 1) := by decide +kernel
theorem d_Ly_isName_1 : decode b_Ly_isName 1 = .ok (.ifCond .lt 14, 3) := by decide +kernel
theorem d_Ly_isName_4 : decode b_Ly_isName 4 = .ok (.iload_n 0, 1) := by decide +kernel
theorem d_Ly_isName_5 : decode b_Ly_isName 5 = .ok (.sipush 200, 3) := by decide +kernel
theorem d_Ly_isName_8 : decode b_Ly_isName 8 = .ok (.if_icmp .ge 7, 3) := by decide +kernel
theorem d_Ly_isName_11 : decode b_Ly_isName 11 = .ok (.iconst 1, 1) := by decide +kernel
theorem d_Ly_isName_12 : decode b_Ly_isName 12 = .ok (.goto 4, 3) := by decide +kernel
theorem d_Ly_isName_15 : decode b_Ly_isName 15 = .ok (.iconst 0, 1) := by decide +kernel
theorem d_Ly_isName_16 : decode b_Ly_isName 16 = .ok (.ireturn, 1) := by decide +kernel
theorem d_Ly_isSize_0 : decode b_Ly_isSize 0 = .ok (.iload_n 0, 1) := by decide +kernel
theorem d_Ly_isSize_1 : decode b_Ly_isSize 1 = .ok (.iload_n 1, 1) := by decide +kernel
theorem d_Ly_isSize_2 : decode b_Ly_isSize 2 = .ok (.if_icmp .lt 20, 3) := by decide +kernel
theorem d_Ly_isSize_5 : decode b_Ly_isSize 5 = .ok (.iload_n 0, 1) := by decide +kernel
theorem d_Ly_isSize_6 : decode b_Ly_isSize 6 = .ok (.sipush 8192, 3) := by decide +kernel
theorem d_Ly_isSize_9 : decode b_Ly_isSize 9 = .ok (.if_icmp .gt 13, 3) := by decide +kernel
theorem d_Ly_isSize_12 : decode b_Ly_isSize 12 = .ok (.iload_n 0, 1) := by decide +kernel
theorem d_Ly_isSize_13 : decode b_Ly_isSize 13 = .ok (.iconst 4, 1) := by decide +kernel
theorem d_Ly_isSize_14 : decode b_Ly_isSize 14 = .ok (.irem, 1) := by decide +kernel
theorem d_Ly_isSize_15 : decode b_Ly_isSize 15 = .ok (.ifCond .ne 7, 3) := by decide +kernel
theorem d_Ly_isSize_18 : decode b_Ly_isSize 18 = .ok (.iconst 1, 1) := by decide +kernel
theorem d_Ly_isSize_19 : decode b_Ly_isSize 19 = .ok (.goto 4, 3) := by decide +kernel
theorem d_Ly_isSize_22 : decode b_Ly_isSize 22 = .ok (.iconst 0, 1) := by decide +kernel
theorem d_Ly_isSize_23 : decode b_Ly_isSize 23 = .ok (.ireturn, 1) := by decide +kernel
theorem d_bitCount_0 : decode b_bitCount 0 = .ok (.iload_n 0, 1) := by decide +kernel
theorem d_bitCount_1 : decode b_bitCount 1 = .ok (.iload_n 0, 1) := by decide +kernel
theorem d_bitCount_2 : decode b_bitCount 2 = .ok (.iconst 1, 1) := by decide +kernel
theorem d_bitCount_3 : decode b_bitCount 3 = .ok (.iushr, 1) := by decide +kernel
theorem d_bitCount_4 : decode b_bitCount 4 = .ok (.ldc_w 265, 3) := by decide +kernel
theorem d_bitCount_7 : decode b_bitCount 7 = .ok (.iand, 1) := by decide +kernel
theorem d_bitCount_8 : decode b_bitCount 8 = .ok (.isub, 1) := by decide +kernel
theorem d_bitCount_9 : decode b_bitCount 9 = .ok (.istore_n 0, 1) := by decide +kernel
theorem d_bitCount_10 : decode b_bitCount 10 = .ok (.iload_n 0, 1) := by decide +kernel
theorem d_bitCount_11 : decode b_bitCount 11 = .ok (.ldc_w 266, 3) := by decide +kernel
theorem d_bitCount_14 : decode b_bitCount 14 = .ok (.iand, 1) := by decide +kernel
theorem d_bitCount_15 : decode b_bitCount 15 = .ok (.iload_n 0, 1) := by decide +kernel
theorem d_bitCount_16 : decode b_bitCount 16 = .ok (.iconst 2, 1) := by decide +kernel
theorem d_bitCount_17 : decode b_bitCount 17 = .ok (.iushr, 1) := by decide +kernel
theorem d_bitCount_18 : decode b_bitCount 18 = .ok (.ldc_w 266, 3) := by decide +kernel
theorem d_bitCount_21 : decode b_bitCount 21 = .ok (.iand, 1) := by decide +kernel
theorem d_bitCount_22 : decode b_bitCount 22 = .ok (.iadd, 1) := by decide +kernel
theorem d_bitCount_23 : decode b_bitCount 23 = .ok (.istore_n 0, 1) := by decide +kernel
theorem d_bitCount_24 : decode b_bitCount 24 = .ok (.iload_n 0, 1) := by decide +kernel
theorem d_bitCount_25 : decode b_bitCount 25 = .ok (.iload_n 0, 1) := by decide +kernel
theorem d_bitCount_26 : decode b_bitCount 26 = .ok (.iconst 4, 1) := by decide +kernel
theorem d_bitCount_27 : decode b_bitCount 27 = .ok (.iushr, 1) := by decide +kernel
theorem d_bitCount_28 : decode b_bitCount 28 = .ok (.iadd, 1) := by decide +kernel
theorem d_bitCount_29 : decode b_bitCount 29 = .ok (.ldc_w 267, 3) := by decide +kernel
theorem d_bitCount_32 : decode b_bitCount 32 = .ok (.iand, 1) := by decide +kernel
theorem d_bitCount_33 : decode b_bitCount 33 = .ok (.istore_n 0, 1) := by decide +kernel
theorem d_bitCount_34 : decode b_bitCount 34 = .ok (.iload_n 0, 1) := by decide +kernel
theorem d_bitCount_35 : decode b_bitCount 35 = .ok (.iload_n 0, 1) := by decide +kernel
theorem d_bitCount_36 : decode b_bitCount 36 = .ok (.bipush 8, 2) := by decide +kernel
theorem d_bitCount_38 : decode b_bitCount 38 = .ok (.iushr, 1) := by decide +kernel
theorem d_bitCount_39 : decode b_bitCount 39 = .ok (.iadd, 1) := by decide +kernel
theorem d_bitCount_40 : decode b_bitCount 40 = .ok (.istore_n 0, 1) := by decide +kernel
theorem d_bitCount_41 : decode b_bitCount 41 = .ok (.iload_n 0, 1) := by decide +kernel
theorem d_bitCount_42 : decode b_bitCount 42 = .ok (.iload_n 0, 1) := by decide +kernel
theorem d_bitCount_43 : decode b_bitCount 43 = .ok (.bipush 16, 2) := by decide +kernel
theorem d_bitCount_45 : decode b_bitCount 45 = .ok (.iushr, 1) := by decide +kernel
theorem d_bitCount_46 : decode b_bitCount 46 = .ok (.iadd, 1) := by decide +kernel
theorem d_bitCount_47 : decode b_bitCount 47 = .ok (.istore_n 0, 1) := by decide +kernel
theorem d_bitCount_48 : decode b_bitCount 48 = .ok (.iload_n 0, 1) := by decide +kernel
theorem d_bitCount_49 : decode b_bitCount 49 = .ok (.bipush 63, 2) := by decide +kernel
theorem d_bitCount_51 : decode b_bitCount 51 = .ok (.iand, 1) := by decide +kernel
theorem d_bitCount_52 : decode b_bitCount 52 = .ok (.ireturn, 1) := by decide +kernel
theorem d_Ly_isAlignment_0 : decode b_Ly_isAlignment 0 = .ok (.iload_n 0, 1) := by decide +kernel
theorem d_Ly_isAlignment_1 : decode b_Ly_isAlignment 1 = .ok (.iconst 4, 1) := by decide +kernel
theorem d_Ly_isAlignment_2 : decode b_Ly_isAlignment 2 = .ok (.if_icmp .lt 22, 3) := by decide +kernel
theorem d_Ly_isAlignment_5 : decode b_Ly_isAlignment 5 = .ok (.iload_n 0, 1) := by decide +kernel
theorem d_Ly_isAlignment_6 : decode b_Ly_isAlignment 6 = .ok (.sipush 4096, 3) := by decide +kernel
theorem d_Ly_isAlignment_9 : decode b_Ly_isAlignment 9 = .ok (.if_icmp .gt 15, 3) := by decide +kernel
theorem d_Ly_isAlignment_12 : decode b_Ly_isAlignment 12 = .ok (.iload_n 0, 1) := by decide +kernel
theorem d_Ly_isAlignment_13 : decode b_Ly_isAlignment 13 = .ok (.invokestatic 376, 3) := by decide +kernel
theorem d_Ly_isAlignment_16 : decode b_Ly_isAlignment 16 = .ok (.iconst 1, 1) := by decide +kernel
theorem d_Ly_isAlignment_17 : decode b_Ly_isAlignment 17 = .ok (.if_icmp .ne 7, 3) := by decide +kernel
theorem d_Ly_isAlignment_20 : decode b_Ly_isAlignment 20 = .ok (.iconst 1, 1) := by decide +kernel
theorem d_Ly_isAlignment_21 : decode b_Ly_isAlignment 21 = .ok (.goto 4, 3) := by decide +kernel
theorem d_Ly_isAlignment_24 : decode b_Ly_isAlignment 24 = .ok (.iconst 0, 1) := by decide +kernel
theorem d_Ly_isAlignment_25 : decode b_Ly_isAlignment 25 = .ok (.ireturn, 1) := by decide +kernel
theorem d_Ly_isOther_0 : decode b_Ly_isOther 0 = .ok (.iload_n 0, 1) := by decide +kernel
theorem d_Ly_isOther_1 : decode b_Ly_isOther 1 = .ok (.tableswitch 77 0 2 #[27, 43, 58], 27) := by decide +kernel
theorem d_Ly_isOther_28 : decode b_Ly_isOther 28 = .ok (.iload_n 2, 1) := by decide +kernel
theorem d_Ly_isOther_29 : decode b_Ly_isOther 29 = .ok (.iconst 1, 1) := by decide +kernel
theorem d_Ly_isOther_30 : decode b_Ly_isOther 30 = .ok (.if_icmp .eq 8, 3) := by decide +kernel
theorem d_Ly_isOther_33 : decode b_Ly_isOther 33 = .ok (.iload_n 2, 1) := by decide +kernel
theorem d_Ly_isOther_34 : decode b_Ly_isOther 34 = .ok (.iconst 2, 1) := by decide +kernel
theorem d_Ly_isOther_35 : decode b_Ly_isOther 35 = .ok (.if_icmp .ne 7, 3) := by decide +kernel
theorem d_Ly_isOther_38 : decode b_Ly_isOther 38 = .ok (.iconst 1, 1) := by decide +kernel
theorem d_Ly_isOther_39 : decode b_Ly_isOther 39 = .ok (.goto 4, 3) := by decide +kernel
theorem d_Ly_isOther_42 : decode b_Ly_isOther 42 = .ok (.iconst 0, 1) := by decide +kernel
theorem d_Ly_isOther_43 : decode b_Ly_isOther 43 = .ok (.ireturn, 1) := by decide +kernel
theorem d_Ly_isOther_44 : decode b_Ly_isOther 44 = .ok (.iload_n 2, 1) := by decide +kernel
theorem d_Ly_isOther_45 : decode b_Ly_isOther 45 = .ok (.ifCond .lt 12, 3) := by decide +kernel
theorem d_Ly_isOther_48 : decode b_Ly_isOther 48 = .ok (.iload_n 2, 1) := by decide +kernel
theorem d_Ly_isOther_49 : decode b_Ly_isOther 49 = .ok (.iconst 2, 1) := by decide +kernel
theorem d_Ly_isOther_50 : decode b_Ly_isOther 50 = .ok (.if_icmp .gt 7, 3) := by decide +kernel
theorem d_Ly_isOther_53 : decode b_Ly_isOther 53 = .ok (.iconst 1, 1) := by decide +kernel
theorem d_Ly_isOther_54 : decode b_Ly_isOther 54 = .ok (.goto 4, 3) := by decide +kernel
theorem d_Ly_isOther_57 : decode b_Ly_isOther 57 = .ok (.iconst 0, 1) := by decide +kernel
theorem d_Ly_isOther_58 : decode b_Ly_isOther 58 = .ok (.ireturn, 1) := by decide +kernel
theorem d_Ly_isOther_59 : decode b_Ly_isOther 59 = .ok (.iload_n 2, 1) := by decide +kernel
theorem d_Ly_isOther_60 : decode b_Ly_isOther 60 = .ok (.iconst 3, 1) := by decide +kernel
theorem d_Ly_isOther_61 : decode b_Ly_isOther 61 = .ok (.if_icmp .ne 15, 3) := by decide +kernel
theorem d_Ly_isOther_64 : decode b_Ly_isOther 64 = .ok (.iload_n 1, 1) := by decide +kernel
theorem d_Ly_isOther_65 : decode b_Ly_isOther 65 = .ok (.iconst 4, 1) := by decide +kernel
theorem d_Ly_isOther_66 : decode b_Ly_isOther 66 = .ok (.invokestatic 136, 3) := by decide +kernel
theorem d_Ly_isOther_69 : decode b_Ly_isOther 69 = .ok (.ifCond .eq 7, 3) := by decide +kernel
theorem d_Ly_isOther_72 : decode b_Ly_isOther 72 = .ok (.iconst 1, 1) := by decide +kernel
theorem d_Ly_isOther_73 : decode b_Ly_isOther 73 = .ok (.goto 4, 3) := by decide +kernel
theorem d_Ly_isOther_76 : decode b_Ly_isOther 76 = .ok (.iconst 0, 1) := by decide +kernel
theorem d_Ly_isOther_77 : decode b_Ly_isOther 77 = .ok (.ireturn, 1) := by decide +kernel
theorem d_Ly_isOther_78 : decode b_Ly_isOther 78 = .ok (.iconst 0, 1) := by decide +kernel
theorem d_Ly_isOther_79 : decode b_Ly_isOther 79 = .ok (.ireturn, 1) := by decide +kernel
theorem d_Ly_formOfOther_0 : decode b_Ly_formOfOther 0 = .ok (.iload_n 0, 1) := by decide +kernel
theorem d_Ly_formOfOther_1 : decode b_Ly_formOfOther 1 = .ok (.lookupswitch 31 #[(1, 27), (2, 29)], 27) := by decide +kernel
theorem d_Ly_formOfOther_28 : decode b_Ly_formOfOther 28 = .ok (.iconst 2, 1) := by decide +kernel
theorem d_Ly_formOfOther_29 : decode b_Ly_formOfOther 29 = .ok (.ireturn, 1) := by decide +kernel
theorem d_Ly_formOfOther_30 : decode b_Ly_formOfOther 30 = .ok (.iconst 3, 1) := by decide +kernel
theorem d_Ly_formOfOther_31 : decode b_Ly_formOfOther 31 = .ok (.ireturn, 1) := by decide +kernel
theorem d_Ly_formOfOther_32 : decode b_Ly_formOfOther 32 = .ok (.iconst 0, 1) := by decide +kernel
theorem d_Ly_formOfOther_33 : decode b_Ly_formOfOther 33 = .ok (.ireturn, 1) := by decide +kernel
theorem d_Un_has_0 : decode b_Un_has 0 = .ok (.iload_n 1, 1) := by decide +kernel
theorem d_Un_has_1 : decode b_Un_has 1 = .ok (.ifCond .lt 15, 3) := by decide +kernel
theorem d_Un_has_4 : decode b_Un_has 4 = .ok (.iload_n 1, 1) := by decide +kernel
theorem d_Un_has_5 : decode b_Un_has 5 = .ok (.aload_n 0, 1) := by decide +kernel
theorem d_Un_has_6 : decode b_Un_has 6 = .ok (.getfield 19, 3) := by decide +kernel
theorem d_Un_has_9 : decode b_Un_has 9 = .ok (.if_icmp .ge 7, 3) := by decide +kernel
theorem d_Un_has_12 : decode b_Un_has 12 = .ok (.iconst 1, 1) := by decide +kernel
theorem d_Un_has_13 : decode b_Un_has 13 = .ok (.goto 4, 3) := by decide +kernel
theorem d_Un_has_16 : decode b_Un_has 16 = .ok (.iconst 0, 1) := by decide +kernel
theorem d_Un_has_17 : decode b_Un_has 17 = .ok (.ireturn, 1) := by decide +kernel
theorem d_Un_add_0 : decode b_Un_add 0 = .ok (.aload_n 0, 1) := by decide +kernel
theorem d_Un_add_1 : decode b_Un_add 1 = .ok (.getfield 9, 3) := by decide +kernel
theorem d_Un_add_4 : decode b_Un_add 4 = .ok (.aload_n 0, 1) := by decide +kernel
theorem d_Un_add_5 : decode b_Un_add 5 = .ok (.getfield 19, 3) := by decide +kernel
theorem d_Un_add_8 : decode b_Un_add 8 = .ok (.iload_n 1, 1) := by decide +kernel
theorem d_Un_add_9 : decode b_Un_add 9 = .ok (.iastore, 1) := by decide +kernel
theorem d_Un_add_10 : decode b_Un_add 10 = .ok (.aload_n 0, 1) := by decide +kernel
theorem d_Un_add_11 : decode b_Un_add 11 = .ok (.getfield 15, 3) := by decide +kernel
theorem d_Un_add_14 : decode b_Un_add 14 = .ok (.aload_n 0, 1) := by decide +kernel
theorem d_Un_add_15 : decode b_Un_add 15 = .ok (.getfield 19, 3) := by decide +kernel
theorem d_Un_add_18 : decode b_Un_add 18 = .ok (.iconst 0, 1) := by decide +kernel
theorem d_Un_add_19 : decode b_Un_add 19 = .ok (.bastore, 1) := by decide +kernel
theorem d_Un_add_20 : decode b_Un_add 20 = .ok (.aload_n 0, 1) := by decide +kernel
theorem d_Un_add_21 : decode b_Un_add 21 = .ok (.dup, 1) := by decide +kernel
theorem d_Un_add_22 : decode b_Un_add 22 = .ok (.getfield 19, 3) := by decide +kernel
theorem d_Un_add_25 : decode b_Un_add 25 = .ok (.dup_x1, 1) := by decide +kernel
theorem d_Un_add_26 : decode b_Un_add 26 = .ok (.iconst 1, 1) := by decide +kernel
theorem d_Un_add_27 : decode b_Un_add 27 = .ok (.iadd, 1) := by decide +kernel
theorem d_Un_add_28 : decode b_Un_add 28 = .ok (.putfield 19, 3) := by decide +kernel
theorem d_Un_add_31 : decode b_Un_add 31 = .ok (.ireturn, 1) := by decide +kernel
theorem d_Un_countIn_0 : decode b_Un_countIn 0 = .ok (.iconst 0, 1) := by decide +kernel
theorem d_Un_countIn_1 : decode b_Un_countIn 1 = .ok (.istore_n 1, 1) := by decide +kernel
theorem d_Un_countIn_2 : decode b_Un_countIn 2 = .ok (.iconst 0, 1) := by decide +kernel
theorem d_Un_countIn_3 : decode b_Un_countIn 3 = .ok (.istore_n 2, 1) := by decide +kernel
theorem d_Un_countIn_4 : decode b_Un_countIn 4 = .ok (.iload_n 2, 1) := by decide +kernel
theorem d_Un_countIn_5 : decode b_Un_countIn 5 = .ok (.aload_n 0, 1) := by decide +kernel
theorem d_Un_countIn_6 : decode b_Un_countIn 6 = .ok (.getfield 19, 3) := by decide +kernel
theorem d_Un_countIn_9 : decode b_Un_countIn 9 = .ok (.if_icmp .ge 21, 3) := by decide +kernel
theorem d_Un_countIn_12 : decode b_Un_countIn 12 = .ok (.aload_n 0, 1) := by decide +kernel
theorem d_Un_countIn_13 : decode b_Un_countIn 13 = .ok (.getfield 15, 3) := by decide +kernel
theorem d_Un_countIn_16 : decode b_Un_countIn 16 = .ok (.iload_n 2, 1) := by decide +kernel
theorem d_Un_countIn_17 : decode b_Un_countIn 17 = .ok (.baload, 1) := by decide +kernel
theorem d_Un_countIn_18 : decode b_Un_countIn 18 = .ok (.ifCond .eq 6, 3) := by decide +kernel
theorem d_Un_countIn_21 : decode b_Un_countIn 21 = .ok (.iinc 1 1, 3) := by decide +kernel
theorem d_Un_countIn_24 : decode b_Un_countIn 24 = .ok (.iinc 2 1, 3) := by decide +kernel
theorem d_Un_countIn_27 : decode b_Un_countIn 27 = .ok (.goto (-23), 3) := by decide +kernel
theorem d_Un_countIn_30 : decode b_Un_countIn 30 = .ok (.iload_n 1, 1) := by decide +kernel
theorem d_Un_countIn_31 : decode b_Un_countIn 31 = .ok (.ireturn, 1) := by decide +kernel
theorem d_Se_has_0 : decode b_Se_has 0 = .ok (.iload_n 1, 1) := by decide +kernel
theorem d_Se_has_1 : decode b_Se_has 1 = .ok (.ifCond .lt 15, 3) := by decide +kernel
theorem d_Se_has_4 : decode b_Se_has 4 = .ok (.iload_n 1, 1) := by decide +kernel
theorem d_Se_has_5 : decode b_Se_has 5 = .ok (.aload_n 0, 1) := by decide +kernel
theorem d_Se_has_6 : decode b_Se_has 6 = .ok (.getfield 34, 3) := by decide +kernel
theorem d_Se_has_9 : decode b_Se_has 9 = .ok (.if_icmp .ge 7, 3) := by decide +kernel
theorem d_Se_has_12 : decode b_Se_has 12 = .ok (.iconst 1, 1) := by decide +kernel
theorem d_Se_has_13 : decode b_Se_has 13 = .ok (.goto 4, 3) := by decide +kernel
theorem d_Se_has_16 : decode b_Se_has 16 = .ok (.iconst 0, 1) := by decide +kernel
theorem d_Se_has_17 : decode b_Se_has 17 = .ok (.ireturn, 1) := by decide +kernel
theorem d_Se_hasWord_0 : decode b_Se_hasWord 0 = .ok (.aload_n 0, 1) := by decide +kernel
theorem d_Se_hasWord_1 : decode b_Se_hasWord 1 = .ok (.iload_n 1, 1) := by decide +kernel
theorem d_Se_hasWord_2 : decode b_Se_hasWord 2 = .ok (.invokevirtual 38, 3) := by decide +kernel
theorem d_Se_hasWord_5 : decode b_Se_hasWord 5 = .ok (.ifCond .eq 37, 3) := by decide +kernel
theorem d_Se_hasWord_8 : decode b_Se_hasWord 8 = .ok (.aload_n 0, 1) := by decide +kernel
theorem d_Se_hasWord_9 : decode b_Se_hasWord 9 = .ok (.getfield 18, 3) := by decide +kernel
theorem d_Se_hasWord_12 : decode b_Se_hasWord 12 = .ok (.iload_n 1, 1) := by decide +kernel
theorem d_Se_hasWord_13 : decode b_Se_hasWord 13 = .ok (.iaload, 1) := by decide +kernel
theorem d_Se_hasWord_14 : decode b_Se_hasWord 14 = .ok (.iconst 2, 1) := by decide +kernel
theorem d_Se_hasWord_15 : decode b_Se_hasWord 15 = .ok (.if_icmp .eq 27, 3) := by decide +kernel
theorem d_Se_hasWord_18 : decode b_Se_hasWord 18 = .ok (.iload_n 2, 1) := by decide +kernel
theorem d_Se_hasWord_19 : decode b_Se_hasWord 19 = .ok (.ifCond .lt 23, 3) := by decide +kernel
theorem d_Se_hasWord_22 : decode b_Se_hasWord 22 = .ok (.iload_n 2, 1) := by decide +kernel
theorem d_Se_hasWord_23 : decode b_Se_hasWord 23 = .ok (.aload_n 0, 1) := by decide +kernel
theorem d_Se_hasWord_24 : decode b_Se_hasWord 24 = .ok (.getfield 21, 3) := by decide +kernel
theorem d_Se_hasWord_27 : decode b_Se_hasWord 27 = .ok (.iload_n 1, 1) := by decide +kernel
theorem d_Se_hasWord_28 : decode b_Se_hasWord 28 = .ok (.iaload, 1) := by decide +kernel
theorem d_Se_hasWord_29 : decode b_Se_hasWord 29 = .ok (.if_icmp .ge 13, 3) := by decide +kernel
theorem d_Se_hasWord_32 : decode b_Se_hasWord 32 = .ok (.iload_n 2, 1) := by decide +kernel
theorem d_Se_hasWord_33 : decode b_Se_hasWord 33 = .ok (.iconst 4, 1) := by decide +kernel
theorem d_Se_hasWord_34 : decode b_Se_hasWord 34 = .ok (.irem, 1) := by decide +kernel
theorem d_Se_hasWord_35 : decode b_Se_hasWord 35 = .ok (.ifCond .ne 7, 3) := by decide +kernel
theorem d_Se_hasWord_38 : decode b_Se_hasWord 38 = .ok (.iconst 1, 1) := by decide +kernel
theorem d_Se_hasWord_39 : decode b_Se_hasWord 39 = .ok (.goto 4, 3) := by decide +kernel
theorem d_Se_hasWord_42 : decode b_Se_hasWord 42 = .ok (.iconst 0, 1) := by decide +kernel
theorem d_Se_hasWord_43 : decode b_Se_hasWord 43 = .ok (.ireturn, 1) := by decide +kernel
theorem d_Se_roomier_0 : decode b_Se_roomier 0 = .ok (.iconst 2, 1) := by decide +kernel
theorem d_Se_roomier_1 : decode b_Se_roomier 1 = .ok (.iload_n 0, 1) := by decide +kernel
theorem d_Se_roomier_2 : decode b_Se_roomier 2 = .ok (.imul, 1) := by decide +kernel
theorem d_Se_roomier_3 : decode b_Se_roomier 3 = .ok (.ldc 72, 2) := by decide +kernel
theorem d_Se_roomier_5 : decode b_Se_roomier 5 = .ok (.invokestatic 73, 3) := by decide +kernel
theorem d_Se_roomier_8 : decode b_Se_roomier 8 = .ok (.ireturn, 1) := by decide +kernel
theorem d_Se_write_0 : decode b_Se_write 0 = .ok (.aload_n 0, 1) := by decide +kernel
theorem d_Se_write_1 : decode b_Se_write 1 = .ok (.getfield 9, 3) := by decide +kernel
theorem d_Se_write_4 : decode b_Se_write 4 = .ok (.aload_n 0, 1) := by decide +kernel
theorem d_Se_write_5 : decode b_Se_write 5 = .ok (.getfield 27, 3) := by decide +kernel
theorem d_Se_write_8 : decode b_Se_write 8 = .ok (.iload_n 1, 1) := by decide +kernel
theorem d_Se_write_9 : decode b_Se_write 9 = .ok (.iaload, 1) := by decide +kernel
theorem d_Se_write_10 : decode b_Se_write 10 = .ok (.iload_n 2, 1) := by decide +kernel
theorem d_Se_write_11 : decode b_Se_write 11 = .ok (.iconst 4, 1) := by decide +kernel
theorem d_Se_write_12 : decode b_Se_write 12 = .ok (.idiv, 1) := by decide +kernel
theorem d_Se_write_13 : decode b_Se_write 13 = .ok (.iadd, 1) := by decide +kernel
theorem d_Se_write_14 : decode b_Se_write 14 = .ok (.iload_n 3, 1) := by decide +kernel
theorem d_Se_write_15 : decode b_Se_write 15 = .ok (.iastore, 1) := by decide +kernel
theorem d_Se_write_16 : decode b_Se_write 16 = .ok (.return_, 1) := by decide +kernel
theorem d_Sy_has_0 : decode b_Sy_has 0 = .ok (.iload_n 1, 1) := by decide +kernel
theorem d_Sy_has_1 : decode b_Sy_has 1 = .ok (.ifCond .lt 15, 3) := by decide +kernel
theorem d_Sy_has_4 : decode b_Sy_has 4 = .ok (.iload_n 1, 1) := by decide +kernel
theorem d_Sy_has_5 : decode b_Sy_has 5 = .ok (.aload_n 0, 1) := by decide +kernel
theorem d_Sy_has_6 : decode b_Sy_has 6 = .ok (.getfield 30, 3) := by decide +kernel
theorem d_Sy_has_9 : decode b_Sy_has 9 = .ok (.if_icmp .ge 7, 3) := by decide +kernel
theorem d_Sy_has_12 : decode b_Sy_has 12 = .ok (.iconst 1, 1) := by decide +kernel
theorem d_Sy_has_13 : decode b_Sy_has 13 = .ok (.goto 4, 3) := by decide +kernel
theorem d_Sy_has_16 : decode b_Sy_has 16 = .ok (.iconst 0, 1) := by decide +kernel
theorem d_Sy_has_17 : decode b_Sy_has 17 = .ok (.ireturn, 1) := by decide +kernel
theorem d_Sy_clashes_0 : decode b_Sy_clashes 0 = .ok (.iload_n 3, 1) := by decide +kernel
theorem d_Sy_clashes_1 : decode b_Sy_clashes 1 = .ok (.ifCond .ne 5, 3) := by decide +kernel
theorem d_Sy_clashes_4 : decode b_Sy_clashes 4 = .ok (.iconst 0, 1) := by decide +kernel
theorem d_Sy_clashes_5 : decode b_Sy_clashes 5 = .ok (.ireturn, 1) := by decide +kernel
theorem d_Sy_clashes_6 : decode b_Sy_clashes 6 = .ok (.iconst 0, 1) := by decide +kernel
theorem d_Sy_clashes_7 : decode b_Sy_clashes 7 = .ok (.istore 4, 2) := by decide +kernel
theorem d_Sy_clashes_9 : decode b_Sy_clashes 9 = .ok (.iload 4, 2) := by decide +kernel
theorem d_Sy_clashes_11 : decode b_Sy_clashes 11 = .ok (.aload_n 0, 1) := by decide +kernel
theorem d_Sy_clashes_12 : decode b_Sy_clashes 12 = .ok (.getfield 30, 3) := by decide +kernel
theorem d_Sy_clashes_15 : decode b_Sy_clashes 15 = .ok (.if_icmp .ge 43, 3) := by decide +kernel
theorem d_Sy_clashes_18 : decode b_Sy_clashes 18 = .ok (.aload_n 0, 1) := by decide +kernel
theorem d_Sy_clashes_19 : decode b_Sy_clashes 19 = .ok (.getfield 9, 3) := by decide +kernel
theorem d_Sy_clashes_22 : decode b_Sy_clashes 22 = .ok (.iload 4, 2) := by decide +kernel
theorem d_Sy_clashes_24 : decode b_Sy_clashes 24 = .ok (.iaload, 1) := by decide +kernel
theorem d_Sy_clashes_25 : decode b_Sy_clashes 25 = .ok (.iload_n 1, 1) := by decide +kernel
theorem d_Sy_clashes_26 : decode b_Sy_clashes 26 = .ok (.if_icmp .ne 26, 3) := by decide +kernel
theorem d_Sy_clashes_29 : decode b_Sy_clashes 29 = .ok (.aload_n 0, 1) := by decide +kernel
theorem d_Sy_clashes_30 : decode b_Sy_clashes 30 = .ok (.getfield 15, 3) := by decide +kernel
theorem d_Sy_clashes_33 : decode b_Sy_clashes 33 = .ok (.iload 4, 2) := by decide +kernel
theorem d_Sy_clashes_35 : decode b_Sy_clashes 35 = .ok (.iaload, 1) := by decide +kernel
theorem d_Sy_clashes_36 : decode b_Sy_clashes 36 = .ok (.iload_n 2, 1) := by decide +kernel
theorem d_Sy_clashes_37 : decode b_Sy_clashes 37 = .ok (.if_icmp .ne 15, 3) := by decide +kernel
theorem d_Sy_clashes_40 : decode b_Sy_clashes 40 = .ok (.aload_n 0, 1) := by decide +kernel
theorem d_Sy_clashes_41 : decode b_Sy_clashes 41 = .ok (.getfield 18, 3) := by decide +kernel
theorem d_Sy_clashes_44 : decode b_Sy_clashes 44 = .ok (.iload 4, 2) := by decide +kernel
theorem d_Sy_clashes_46 : decode b_Sy_clashes 46 = .ok (.iaload, 1) := by decide +kernel
theorem d_Sy_clashes_47 : decode b_Sy_clashes 47 = .ok (.ifCond .eq 5, 3) := by decide +kernel
theorem d_Sy_clashes_50 : decode b_Sy_clashes 50 = .ok (.iconst 1, 1) := by decide +kernel
theorem d_Sy_clashes_51 : decode b_Sy_clashes 51 = .ok (.ireturn, 1) := by decide +kernel
theorem d_Sy_clashes_52 : decode b_Sy_clashes 52 = .ok (.iinc 4 1, 3) := by decide +kernel
theorem d_Sy_clashes_55 : decode b_Sy_clashes 55 = .ok (.goto (-46), 3) := by decide +kernel
theorem d_Sy_clashes_58 : decode b_Sy_clashes 58 = .ok (.iconst 0, 1) := by decide +kernel
theorem d_Sy_clashes_59 : decode b_Sy_clashes 59 = .ok (.ireturn, 1) := by decide +kernel
theorem d_Sy_add_0 : decode b_Sy_add 0 = .ok (.aload_n 0, 1) := by decide +kernel
theorem d_Sy_add_1 : decode b_Sy_add 1 = .ok (.getfield 9, 3) := by decide +kernel
theorem d_Sy_add_4 : decode b_Sy_add 4 = .ok (.aload_n 0, 1) := by decide +kernel
theorem d_Sy_add_5 : decode b_Sy_add 5 = .ok (.getfield 30, 3) := by decide +kernel
theorem d_Sy_add_8 : decode b_Sy_add 8 = .ok (.iload_n 1, 1) := by decide +kernel
theorem d_Sy_add_9 : decode b_Sy_add 9 = .ok (.iastore, 1) := by decide +kernel
theorem d_Sy_add_10 : decode b_Sy_add 10 = .ok (.aload_n 0, 1) := by decide +kernel
theorem d_Sy_add_11 : decode b_Sy_add 11 = .ok (.getfield 15, 3) := by decide +kernel
theorem d_Sy_add_14 : decode b_Sy_add 14 = .ok (.aload_n 0, 1) := by decide +kernel
theorem d_Sy_add_15 : decode b_Sy_add 15 = .ok (.getfield 30, 3) := by decide +kernel
theorem d_Sy_add_18 : decode b_Sy_add 18 = .ok (.iload_n 2, 1) := by decide +kernel
theorem d_Sy_add_19 : decode b_Sy_add 19 = .ok (.iastore, 1) := by decide +kernel
theorem d_Sy_add_20 : decode b_Sy_add 20 = .ok (.aload_n 0, 1) := by decide +kernel
theorem d_Sy_add_21 : decode b_Sy_add 21 = .ok (.getfield 18, 3) := by decide +kernel
theorem d_Sy_add_24 : decode b_Sy_add 24 = .ok (.aload_n 0, 1) := by decide +kernel
theorem d_Sy_add_25 : decode b_Sy_add 25 = .ok (.getfield 30, 3) := by decide +kernel
theorem d_Sy_add_28 : decode b_Sy_add 28 = .ok (.iload_n 3, 1) := by decide +kernel
theorem d_Sy_add_29 : decode b_Sy_add 29 = .ok (.iastore, 1) := by decide +kernel
theorem d_Sy_add_30 : decode b_Sy_add 30 = .ok (.aload_n 0, 1) := by decide +kernel
theorem d_Sy_add_31 : decode b_Sy_add 31 = .ok (.dup, 1) := by decide +kernel
theorem d_Sy_add_32 : decode b_Sy_add 32 = .ok (.getfield 30, 3) := by decide +kernel
theorem d_Sy_add_35 : decode b_Sy_add 35 = .ok (.dup_x1, 1) := by decide +kernel
theorem d_Sy_add_36 : decode b_Sy_add 36 = .ok (.iconst 1, 1) := by decide +kernel
theorem d_Sy_add_37 : decode b_Sy_add 37 = .ok (.iadd, 1) := by decide +kernel
theorem d_Sy_add_38 : decode b_Sy_add 38 = .ok (.putfield 30, 3) := by decide +kernel
theorem d_Sy_add_41 : decode b_Sy_add 41 = .ok (.ireturn, 1) := by decide +kernel
theorem d_Sy_define_0 : decode b_Sy_define 0 = .ok (.aload_n 0, 1) := by decide +kernel
theorem d_Sy_define_1 : decode b_Sy_define 1 = .ok (.getfield 21, 3) := by decide +kernel
theorem d_Sy_define_4 : decode b_Sy_define 4 = .ok (.iload_n 1, 1) := by decide +kernel
theorem d_Sy_define_5 : decode b_Sy_define 5 = .ok (.iload_n 2, 1) := by decide +kernel
theorem d_Sy_define_6 : decode b_Sy_define 6 = .ok (.iastore, 1) := by decide +kernel
theorem d_Sy_define_7 : decode b_Sy_define 7 = .ok (.aload_n 0, 1) := by decide +kernel
theorem d_Sy_define_8 : decode b_Sy_define 8 = .ok (.getfield 24, 3) := by decide +kernel
theorem d_Sy_define_11 : decode b_Sy_define 11 = .ok (.iload_n 1, 1) := by decide +kernel
theorem d_Sy_define_12 : decode b_Sy_define 12 = .ok (.iload_n 3, 1) := by decide +kernel
theorem d_Sy_define_13 : decode b_Sy_define 13 = .ok (.iastore, 1) := by decide +kernel
theorem d_Sy_define_14 : decode b_Sy_define 14 = .ok (.aload_n 0, 1) := by decide +kernel
theorem d_Sy_define_15 : decode b_Sy_define 15 = .ok (.getfield 27, 3) := by decide +kernel
theorem d_Sy_define_18 : decode b_Sy_define 18 = .ok (.iload_n 1, 1) := by decide +kernel
theorem d_Sy_define_19 : decode b_Sy_define 19 = .ok (.iload 4, 2) := by decide +kernel
theorem d_Sy_define_21 : decode b_Sy_define 21 = .ok (.iastore, 1) := by decide +kernel
theorem d_Sy_define_22 : decode b_Sy_define 22 = .ok (.return_, 1) := by decide +kernel
theorem d_Re_add_0 : decode b_Re_add 0 = .ok (.aload_n 0, 1) := by decide +kernel
theorem d_Re_add_1 : decode b_Re_add 1 = .ok (.getfield 9, 3) := by decide +kernel
theorem d_Re_add_4 : decode b_Re_add 4 = .ok (.aload_n 0, 1) := by decide +kernel
theorem d_Re_add_5 : decode b_Re_add 5 = .ok (.getfield 36, 3) := by decide +kernel
theorem d_Re_add_8 : decode b_Re_add 8 = .ok (.iload_n 1, 1) := by decide +kernel
theorem d_Re_add_9 : decode b_Re_add 9 = .ok (.iastore, 1) := by decide +kernel
theorem d_Re_add_10 : decode b_Re_add 10 = .ok (.aload_n 0, 1) := by decide +kernel
theorem d_Re_add_11 : decode b_Re_add 11 = .ok (.getfield 15, 3) := by decide +kernel
theorem d_Re_add_14 : decode b_Re_add 14 = .ok (.aload_n 0, 1) := by decide +kernel
theorem d_Re_add_15 : decode b_Re_add 15 = .ok (.getfield 36, 3) := by decide +kernel
theorem d_Re_add_18 : decode b_Re_add 18 = .ok (.iload_n 2, 1) := by decide +kernel
theorem d_Re_add_19 : decode b_Re_add 19 = .ok (.iastore, 1) := by decide +kernel
theorem d_Re_add_20 : decode b_Re_add 20 = .ok (.aload_n 0, 1) := by decide +kernel
theorem d_Re_add_21 : decode b_Re_add 21 = .ok (.getfield 18, 3) := by decide +kernel
theorem d_Re_add_24 : decode b_Re_add 24 = .ok (.aload_n 0, 1) := by decide +kernel
theorem d_Re_add_25 : decode b_Re_add 25 = .ok (.getfield 36, 3) := by decide +kernel
theorem d_Re_add_28 : decode b_Re_add 28 = .ok (.iload_n 3, 1) := by decide +kernel
theorem d_Re_add_29 : decode b_Re_add 29 = .ok (.iastore, 1) := by decide +kernel
theorem d_Re_add_30 : decode b_Re_add 30 = .ok (.aload_n 0, 1) := by decide +kernel
theorem d_Re_add_31 : decode b_Re_add 31 = .ok (.getfield 21, 3) := by decide +kernel
theorem d_Re_add_34 : decode b_Re_add 34 = .ok (.aload_n 0, 1) := by decide +kernel
theorem d_Re_add_35 : decode b_Re_add 35 = .ok (.getfield 36, 3) := by decide +kernel
theorem d_Re_add_38 : decode b_Re_add 38 = .ok (.iload 4, 2) := by decide +kernel
theorem d_Re_add_40 : decode b_Re_add 40 = .ok (.iastore, 1) := by decide +kernel
theorem d_Re_add_41 : decode b_Re_add 41 = .ok (.aload_n 0, 1) := by decide +kernel
theorem d_Re_add_42 : decode b_Re_add 42 = .ok (.getfield 24, 3) := by decide +kernel
theorem d_Re_add_45 : decode b_Re_add 45 = .ok (.aload_n 0, 1) := by decide +kernel
theorem d_Re_add_46 : decode b_Re_add 46 = .ok (.getfield 36, 3) := by decide +kernel
theorem d_Re_add_49 : decode b_Re_add 49 = .ok (.iload 5, 2) := by decide +kernel
theorem d_Re_add_51 : decode b_Re_add 51 = .ok (.iastore, 1) := by decide +kernel
theorem d_Re_add_52 : decode b_Re_add 52 = .ok (.aload_n 0, 1) := by decide +kernel
theorem d_Re_add_53 : decode b_Re_add 53 = .ok (.dup, 1) := by decide +kernel
theorem d_Re_add_54 : decode b_Re_add 54 = .ok (.getfield 36, 3) := by decide +kernel
theorem d_Re_add_57 : decode b_Re_add 57 = .ok (.dup_x1, 1) := by decide +kernel
theorem d_Re_add_58 : decode b_Re_add 58 = .ok (.iconst 1, 1) := by decide +kernel
theorem d_Re_add_59 : decode b_Re_add 59 = .ok (.iadd, 1) := by decide +kernel
theorem d_Re_add_60 : decode b_Re_add 60 = .ok (.putfield 36, 3) := by decide +kernel
theorem d_Re_add_63 : decode b_Re_add 63 = .ok (.ireturn, 1) := by decide +kernel
theorem d_Fo_countFolded_0 : decode b_Fo_countFolded 0 = .ok (.iconst 0, 1) := by decide +kernel
theorem d_Fo_countFolded_1 : decode b_Fo_countFolded 1 = .ok (.istore_n 1, 1) := by decide +kernel
theorem d_Fo_countFolded_2 : decode b_Fo_countFolded 2 = .ok (.iconst 0, 1) := by decide +kernel
theorem d_Fo_countFolded_3 : decode b_Fo_countFolded 3 = .ok (.istore_n 2, 1) := by decide +kernel
theorem d_Fo_countFolded_4 : decode b_Fo_countFolded 4 = .ok (.iload_n 2, 1) := by decide +kernel
theorem d_Fo_countFolded_5 : decode b_Fo_countFolded 5 = .ok (.aload_n 0, 1) := by decide +kernel
theorem d_Fo_countFolded_6 : decode b_Fo_countFolded 6 = .ok (.getfield 18, 3) := by decide +kernel
theorem d_Fo_countFolded_9 : decode b_Fo_countFolded 9 = .ok (.getfield 34, 3) := by decide +kernel
theorem d_Fo_countFolded_12 : decode b_Fo_countFolded 12 = .ok (.if_icmp .ge 20, 3) := by decide +kernel
theorem d_Fo_countFolded_15 : decode b_Fo_countFolded 15 = .ok (.aload_n 0, 1) := by decide +kernel
theorem d_Fo_countFolded_16 : decode b_Fo_countFolded 16 = .ok (.iload_n 2, 1) := by decide +kernel
theorem d_Fo_countFolded_17 : decode b_Fo_countFolded 17 = .ok (.invokevirtual 52, 3) := by decide +kernel
theorem d_Fo_countFolded_20 : decode b_Fo_countFolded 20 = .ok (.ifCond .eq 6, 3) := by decide +kernel
theorem d_Fo_countFolded_23 : decode b_Fo_countFolded 23 = .ok (.iinc 1 1, 3) := by decide +kernel
theorem d_Fo_countFolded_26 : decode b_Fo_countFolded 26 = .ok (.iinc 2 1, 3) := by decide +kernel
theorem d_Fo_countFolded_29 : decode b_Fo_countFolded 29 = .ok (.goto (-25), 3) := by decide +kernel
theorem d_Fo_countFolded_32 : decode b_Fo_countFolded 32 = .ok (.iload_n 1, 1) := by decide +kernel
theorem d_Fo_countFolded_33 : decode b_Fo_countFolded 33 = .ok (.ireturn, 1) := by decide +kernel
