theorem ml_La_110 : MLb R_La 110 y_La_isStanding b_La_isStanding 2 (some .boolean) 1 := ⟨(mw 1350 (by decide +kernel)), (mw 1510 (by decide +kernel)), (mw 92 (by decide +kernel)), by decide +kernel⟩
theorem ml_Is_146 : MLb R_Is 146 y_La_startOf b_La_startOf 3 (some .int) 2 := ⟨(mw 1362 (by decide +kernel)), (mw 1519 (by decide +kernel)), (mw 92 (by decide +kernel)), by decide +kernel⟩
theorem kc_Me_112 : Cond.constant R_Me 112 (-65536) ∈ ALLW := (mw 1536 (by decide +kernel))
theorem kc_Me_113 : Cond.constant R_Me 113 65535 ∈ ALLW := (mw 1537 (by decide +kernel))
theorem ml_Me_100 : MLb R_Me 100 y_Is_placeOf b_Is_placeOf 2 (some .int) 1 := ⟨(mw 1370 (by decide +kernel)), (mw 1531 (by decide +kernel)), (mw 93 (by decide +kernel)), by decide +kernel⟩
theorem kc_Me_103 : Cond.constant R_Me 103 32768 ∈ ALLW := (mw 1532 (by decide +kernel))
theorem ml_Me_104 : MLb R_Me 104 y_Me_withLowerHalf b_Me_withLowerHalf 2 (some .int) 2 := ⟨(mw 1535 (by decide +kernel)), (mw 1533 (by decide +kernel)), (mw 94 (by decide +kernel)), by decide +kernel⟩
theorem ms_Me_withLowerHalf : Cond.static y_Me_withLowerHalf ∈ ALLW := (mw 1534 (by decide +kernel))
theorem ml_Me_107 : MLb R_Me 107 y_Me_wordsBetween b_Me_wordsBetween 2 (some .int) 2 := ⟨(mw 1540 (by decide +kernel)), (mw 1538 (by decide +kernel)), (mw 94 (by decide +kernel)), by decide +kernel⟩
theorem ms_Me_wordsBetween : Cond.static y_Me_wordsBetween ∈ ALLW := (mw 1539 (by decide +kernel))
theorem kc_Me_110 : Cond.constant R_Me 110 (-67108864) ∈ ALLW := (mw 1541 (by decide +kernel))
theorem kc_Me_111 : Cond.constant R_Me 111 67108863 ∈ ALLW := (mw 1542 (by decide +kernel))
theorem ml_Me_88 : MLb R_Me 88 y_Re_countOf b_Re_countOf 2 (some .int) 1 := ⟨(mw 1249 (by decide +kernel)), (mw 1525 (by decide +kernel)), (mw 87 (by decide +kernel)), by decide +kernel⟩
theorem ml_Me_91 : MLb R_Me 91 y_Re_pick b_Re_pick 3 (some .int) 2 := ⟨(mw 1253 (by decide +kernel)), (mw 1526 (by decide +kernel)), (mw 87 (by decide +kernel)), by decide +kernel⟩
theorem fl_Me_94 : FL R_Me 94 4 2 := ⟨R_Re, F_Re, N_Re, rfl, by decide, i_Re, (mw 262 (by decide +kernel))⟩
theorem ml_Me_97 : MLb R_Me 97 y_Me_mend b_Me_mend 5 (some .int) 2 := ⟨(mw 1530 (by decide +kernel)), (mw 1527 (by decide +kernel)), (mw 94 (by decide +kernel)), by decide +kernel⟩
theorem mv_Me_mend : MLv y_Me_mend := ⟨(mw 1529 (by decide +kernel)), (mw 43 (by decide +kernel))⟩
theorem fl_Me_9 : FL R_Me 9 11 0 := ⟨R_Me, F_Me, N_Me, rfl, by decide, i_Me, (mw 526 (by decide +kernel))⟩
theorem ml_Me_86 : MLb R_Me 86 y_Se_read b_Se_read 3 (some .int) 2 := ⟨(mw 1285 (by decide +kernel)), (mw 1524 (by decide +kernel)), (mw 85 (by decide +kernel)), by decide +kernel⟩
theorem ml_Me_66 : MLb R_Me 66 y_La_sectionAt b_La_sectionAt 3 (some .int) 1 := ⟨(mw 1509 (by decide +kernel)), (mw 1506 (by decide +kernel)), (mw 92 (by decide +kernel)), by decide +kernel⟩
theorem mv_La_sectionAt : MLv y_La_sectionAt := ⟨(mw 1507 (by decide +kernel)), (mw 1508 (by decide +kernel))⟩
theorem fl_Me_75 : FL R_Me 75 2 5 := ⟨R_Se, F_Se, N_Se, rfl, by decide, i_Se, (mw 170 (by decide +kernel))⟩
theorem fl_Me_80 : FL R_Me 80 9 8 := ⟨R_La, F_La, N_La, rfl, by decide, i_La, (mw 452 (by decide +kernel))⟩
theorem ml_Me_83 : MLb R_Me 83 y_Me_mended b_Me_mended 6 (some .int) 2 := ⟨(mw 1523 (by decide +kernel)), (mw 1520 (by decide +kernel)), (mw 94 (by decide +kernel)), by decide +kernel⟩
theorem mv_Me_mended : MLv y_Me_mended := ⟨(mw 1522 (by decide +kernel)), (mw 42 (by decide +kernel))⟩
theorem ml_Me_69 : MLb R_Me 69 y_Is_covers b_Is_covers 2 (some .boolean) 1 := ⟨(mw 1514 (by decide +kernel)), (mw 1511 (by decide +kernel)), (mw 93 (by decide +kernel)), by decide +kernel⟩
theorem mv_Is_covers : MLv y_Is_covers := ⟨(mw 1512 (by decide +kernel)), (mw 1513 (by decide +kernel))⟩
theorem ml_Me_72 : MLb R_Me 72 y_Is_read b_Is_read 4 (some .int) 1 := ⟨(mw 1518 (by decide +kernel)), (mw 1515 (by decide +kernel)), (mw 93 (by decide +kernel)), by decide +kernel⟩
theorem mv_Is_read : MLv y_Is_read := ⟨(mw 1516 (by decide +kernel)), (mw 1517 (by decide +kernel))⟩
theorem d_La_isLaid_0 : decode b_La_isLaid 0 = .ok (.aload_n 0, 1) := by decide +kernel
theorem d_La_isLaid_1 : decode b_La_isLaid 1 = .ok (.getfield 22, 3) := by decide +kernel
theorem d_La_isLaid_4 : decode b_La_isLaid 4 = .ok (.getfield 98, 3) := by decide +kernel
theorem d_La_isLaid_7 : decode b_La_isLaid 7 = .ok (.iload_n 1, 1) := by decide +kernel
theorem d_La_isLaid_8 : decode b_La_isLaid 8 = .ok (.iaload, 1) := by decide +kernel
theorem d_La_isLaid_9 : decode b_La_isLaid 9 = .ok (.lookupswitch 63 #[(1, 27), (3, 45)], 27) := by decide +kernel
theorem d_La_isLaid_36 : decode b_La_isLaid 36 = .ok (.aload_n 0, 1) := by decide +kernel
theorem d_La_isLaid_37 : decode b_La_isLaid 37 = .ok (.getfield 26, 3) := by decide +kernel
theorem d_La_isLaid_40 : decode b_La_isLaid 40 = .ok (.getfield 77, 3) := by decide +kernel
theorem d_La_isLaid_43 : decode b_La_isLaid 43 = .ok (.aload_n 0, 1) := by decide +kernel
theorem d_La_isLaid_44 : decode b_La_isLaid 44 = .ok (.getfield 22, 3) := by decide +kernel
theorem d_La_isLaid_47 : decode b_La_isLaid 47 = .ok (.getfield 101, 3) := by decide +kernel
theorem d_La_isLaid_50 : decode b_La_isLaid 50 = .ok (.iload_n 1, 1) := by decide +kernel
theorem d_La_isLaid_51 : decode b_La_isLaid 51 = .ok (.iaload, 1) := by decide +kernel
theorem d_La_isLaid_52 : decode b_La_isLaid 52 = .ok (.baload, 1) := by decide +kernel
theorem d_La_isLaid_53 : decode b_La_isLaid 53 = .ok (.ireturn, 1) := by decide +kernel
theorem d_La_isLaid_54 : decode b_La_isLaid 54 = .ok (.aload_n 0, 1) := by decide +kernel
theorem d_La_isLaid_55 : decode b_La_isLaid 55 = .ok (.getfield 26, 3) := by decide +kernel
theorem d_La_isLaid_58 : decode b_La_isLaid 58 = .ok (.getfield 61, 3) := by decide +kernel
theorem d_La_isLaid_61 : decode b_La_isLaid 61 = .ok (.aload_n 0, 1) := by decide +kernel
theorem d_La_isLaid_62 : decode b_La_isLaid 62 = .ok (.getfield 22, 3) := by decide +kernel
theorem d_La_isLaid_65 : decode b_La_isLaid 65 = .ok (.getfield 101, 3) := by decide +kernel
theorem d_La_isLaid_68 : decode b_La_isLaid 68 = .ok (.iload_n 1, 1) := by decide +kernel
theorem d_La_isLaid_69 : decode b_La_isLaid 69 = .ok (.iaload, 1) := by decide +kernel
theorem d_La_isLaid_70 : decode b_La_isLaid 70 = .ok (.baload, 1) := by decide +kernel
theorem d_La_isLaid_71 : decode b_La_isLaid 71 = .ok (.ireturn, 1) := by decide +kernel
theorem d_La_isLaid_72 : decode b_La_isLaid 72 = .ok (.aload_n 0, 1) := by decide +kernel
theorem d_La_isLaid_73 : decode b_La_isLaid 73 = .ok (.getfield 22, 3) := by decide +kernel
theorem d_La_isLaid_76 : decode b_La_isLaid 76 = .ok (.getfield 98, 3) := by decide +kernel
theorem d_La_isLaid_79 : decode b_La_isLaid 79 = .ok (.iload_n 1, 1) := by decide +kernel
theorem d_La_isLaid_80 : decode b_La_isLaid 80 = .ok (.iaload, 1) := by decide +kernel
theorem d_La_isLaid_81 : decode b_La_isLaid 81 = .ok (.iconst 2, 1) := by decide +kernel
theorem d_La_isLaid_82 : decode b_La_isLaid 82 = .ok (.if_icmp .ne 7, 3) := by decide +kernel
theorem d_La_isLaid_85 : decode b_La_isLaid 85 = .ok (.iconst 1, 1) := by decide +kernel
theorem d_La_isLaid_86 : decode b_La_isLaid 86 = .ok (.goto 4, 3) := by decide +kernel
theorem d_La_isLaid_89 : decode b_La_isLaid 89 = .ok (.iconst 0, 1) := by decide +kernel
theorem d_La_isLaid_90 : decode b_La_isLaid 90 = .ok (.ireturn, 1) := by decide +kernel
theorem d_La_sectionAt_0 : decode b_La_sectionAt 0 = .ok (.iconst 0, 1) := by decide +kernel
theorem d_La_sectionAt_1 : decode b_La_sectionAt 1 = .ok (.istore_n 2, 1) := by decide +kernel
theorem d_La_sectionAt_2 : decode b_La_sectionAt 2 = .ok (.iload_n 2, 1) := by decide +kernel
theorem d_La_sectionAt_3 : decode b_La_sectionAt 3 = .ok (.aload_n 0, 1) := by decide +kernel
theorem d_La_sectionAt_4 : decode b_La_sectionAt 4 = .ok (.getfield 18, 3) := by decide +kernel
theorem d_La_sectionAt_7 : decode b_La_sectionAt 7 = .ok (.getfield 72, 3) := by decide +kernel
theorem d_La_sectionAt_10 : decode b_La_sectionAt 10 = .ok (.if_icmp .ge 49, 3) := by decide +kernel
theorem d_La_sectionAt_13 : decode b_La_sectionAt 13 = .ok (.aload_n 0, 1) := by decide +kernel
theorem d_La_sectionAt_14 : decode b_La_sectionAt 14 = .ok (.iload_n 2, 1) := by decide +kernel
theorem d_La_sectionAt_15 : decode b_La_sectionAt 15 = .ok (.invokevirtual 110, 3) := by decide +kernel
theorem d_La_sectionAt_18 : decode b_La_sectionAt 18 = .ok (.ifCond .eq 35, 3) := by decide +kernel
theorem d_La_sectionAt_21 : decode b_La_sectionAt 21 = .ok (.iload_n 1, 1) := by decide +kernel
theorem d_La_sectionAt_22 : decode b_La_sectionAt 22 = .ok (.aload_n 0, 1) := by decide +kernel
theorem d_La_sectionAt_23 : decode b_La_sectionAt 23 = .ok (.getfield 9, 3) := by decide +kernel
theorem d_La_sectionAt_26 : decode b_La_sectionAt 26 = .ok (.iload_n 2, 1) := by decide +kernel
theorem d_La_sectionAt_27 : decode b_La_sectionAt 27 = .ok (.iaload, 1) := by decide +kernel
theorem d_La_sectionAt_28 : decode b_La_sectionAt 28 = .ok (.if_icmp .lt 25, 3) := by decide +kernel
theorem d_La_sectionAt_31 : decode b_La_sectionAt 31 = .ok (.iload_n 1, 1) := by decide +kernel
theorem d_La_sectionAt_32 : decode b_La_sectionAt 32 = .ok (.aload_n 0, 1) := by decide +kernel
theorem d_La_sectionAt_33 : decode b_La_sectionAt 33 = .ok (.getfield 9, 3) := by decide +kernel
theorem d_La_sectionAt_36 : decode b_La_sectionAt 36 = .ok (.iload_n 2, 1) := by decide +kernel
theorem d_La_sectionAt_37 : decode b_La_sectionAt 37 = .ok (.iaload, 1) := by decide +kernel
theorem d_La_sectionAt_38 : decode b_La_sectionAt 38 = .ok (.aload_n 0, 1) := by decide +kernel
theorem d_La_sectionAt_39 : decode b_La_sectionAt 39 = .ok (.getfield 18, 3) := by decide +kernel
theorem d_La_sectionAt_42 : decode b_La_sectionAt 42 = .ok (.getfield 92, 3) := by decide +kernel
theorem d_La_sectionAt_45 : decode b_La_sectionAt 45 = .ok (.iload_n 2, 1) := by decide +kernel
theorem d_La_sectionAt_46 : decode b_La_sectionAt 46 = .ok (.iaload, 1) := by decide +kernel
theorem d_La_sectionAt_47 : decode b_La_sectionAt 47 = .ok (.iadd, 1) := by decide +kernel
theorem d_La_sectionAt_48 : decode b_La_sectionAt 48 = .ok (.if_icmp .ge 5, 3) := by decide +kernel
theorem d_La_sectionAt_51 : decode b_La_sectionAt 51 = .ok (.iload_n 2, 1) := by decide +kernel
theorem d_La_sectionAt_52 : decode b_La_sectionAt 52 = .ok (.ireturn, 1) := by decide +kernel
theorem d_La_sectionAt_53 : decode b_La_sectionAt 53 = .ok (.iinc 2 1, 3) := by decide +kernel
theorem d_La_sectionAt_56 : decode b_La_sectionAt 56 = .ok (.goto (-54), 3) := by decide +kernel
theorem d_La_sectionAt_59 : decode b_La_sectionAt 59 = .ok (.iconst (-1), 1) := by decide +kernel
theorem d_La_sectionAt_60 : decode b_La_sectionAt 60 = .ok (.ireturn, 1) := by decide +kernel
theorem d_Is_covers_0 : decode b_Is_covers 0 = .ok (.iload_n 1, 1) := by decide +kernel
theorem d_Is_covers_1 : decode b_Is_covers 1 = .ok (.aload_n 0, 1) := by decide +kernel
theorem d_Is_covers_2 : decode b_Is_covers 2 = .ok (.getfield 40, 3) := by decide +kernel
theorem d_Is_covers_5 : decode b_Is_covers 5 = .ok (.getfield 134, 3) := by decide +kernel
theorem d_Is_covers_8 : decode b_Is_covers 8 = .ok (.if_icmp .lt 26, 3) := by decide +kernel
theorem d_Is_covers_11 : decode b_Is_covers 11 = .ok (.iload_n 1, 1) := by decide +kernel
theorem d_Is_covers_12 : decode b_Is_covers 12 = .ok (.aload_n 0, 1) := by decide +kernel
theorem d_Is_covers_13 : decode b_Is_covers 13 = .ok (.getfield 40, 3) := by decide +kernel
theorem d_Is_covers_16 : decode b_Is_covers 16 = .ok (.getfield 134, 3) := by decide +kernel
theorem d_Is_covers_19 : decode b_Is_covers 19 = .ok (.aload_n 0, 1) := by decide +kernel
theorem d_Is_covers_20 : decode b_Is_covers 20 = .ok (.getfield 44, 3) := by decide +kernel
theorem d_Is_covers_23 : decode b_Is_covers 23 = .ok (.bipush 8, 2) := by decide +kernel
theorem d_Is_covers_25 : decode b_Is_covers 25 = .ok (.imul, 1) := by decide +kernel
theorem d_Is_covers_26 : decode b_Is_covers 26 = .ok (.iadd, 1) := by decide +kernel
theorem d_Is_covers_27 : decode b_Is_covers 27 = .ok (.if_icmp .ge 7, 3) := by decide +kernel
theorem d_Is_covers_30 : decode b_Is_covers 30 = .ok (.iconst 1, 1) := by decide +kernel
theorem d_Is_covers_31 : decode b_Is_covers 31 = .ok (.goto 4, 3) := by decide +kernel
theorem d_Is_covers_34 : decode b_Is_covers 34 = .ok (.iconst 0, 1) := by decide +kernel
theorem d_Is_covers_35 : decode b_Is_covers 35 = .ok (.ireturn, 1) := by decide +kernel
theorem d_Is_read_0 : decode b_Is_read 0 = .ok (.iload_n 1, 1) := by decide +kernel
theorem d_Is_read_1 : decode b_Is_read 1 = .ok (.aload_n 0, 1) := by decide +kernel
theorem d_Is_read_2 : decode b_Is_read 2 = .ok (.getfield 40, 3) := by decide +kernel
theorem d_Is_read_5 : decode b_Is_read 5 = .ok (.getfield 134, 3) := by decide +kernel
theorem d_Is_read_8 : decode b_Is_read 8 = .ok (.isub, 1) := by decide +kernel
theorem d_Is_read_9 : decode b_Is_read 9 = .ok (.istore_n 2, 1) := by decide +kernel
theorem d_Is_read_10 : decode b_Is_read 10 = .ok (.iload_n 2, 1) := by decide +kernel
theorem d_Is_read_11 : decode b_Is_read 11 = .ok (.bipush 8, 2) := by decide +kernel
theorem d_Is_read_13 : decode b_Is_read 13 = .ok (.irem, 1) := by decide +kernel
theorem d_Is_read_14 : decode b_Is_read 14 = .ok (.ifCond .eq 5, 3) := by decide +kernel
theorem d_Is_read_17 : decode b_Is_read 17 = .ok (.iconst 0, 1) := by decide +kernel
theorem d_Is_read_18 : decode b_Is_read 18 = .ok (.ireturn, 1) := by decide +kernel
theorem d_Is_read_19 : decode b_Is_read 19 = .ok (.iload_n 2, 1) := by decide +kernel
theorem d_Is_read_20 : decode b_Is_read 20 = .ok (.bipush 8, 2) := by decide +kernel
theorem d_Is_read_22 : decode b_Is_read 22 = .ok (.idiv, 1) := by decide +kernel
theorem d_Is_read_23 : decode b_Is_read 23 = .ok (.istore_n 3, 1) := by decide +kernel
theorem d_Is_read_24 : decode b_Is_read 24 = .ok (.aload_n 0, 1) := by decide +kernel
theorem d_Is_read_25 : decode b_Is_read 25 = .ok (.getfield 40, 3) := by decide +kernel
theorem d_Is_read_28 : decode b_Is_read 28 = .ok (.aload_n 0, 1) := by decide +kernel
theorem d_Is_read_29 : decode b_Is_read 29 = .ok (.getfield 9, 3) := by decide +kernel
theorem d_Is_read_32 : decode b_Is_read 32 = .ok (.iload_n 3, 1) := by decide +kernel
theorem d_Is_read_33 : decode b_Is_read 33 = .ok (.iaload, 1) := by decide +kernel
theorem d_Is_read_34 : decode b_Is_read 34 = .ok (.aload_n 0, 1) := by decide +kernel
theorem d_Is_read_35 : decode b_Is_read 35 = .ok (.getfield 15, 3) := by decide +kernel
theorem d_Is_read_38 : decode b_Is_read 38 = .ok (.iload_n 3, 1) := by decide +kernel
theorem d_Is_read_39 : decode b_Is_read 39 = .ok (.iaload, 1) := by decide +kernel
theorem d_Is_read_40 : decode b_Is_read 40 = .ok (.invokevirtual 146, 3) := by decide +kernel
theorem d_Is_read_43 : decode b_Is_read 43 = .ok (.aload_n 0, 1) := by decide +kernel
theorem d_Is_read_44 : decode b_Is_read 44 = .ok (.getfield 18, 3) := by decide +kernel
theorem d_Is_read_47 : decode b_Is_read 47 = .ok (.iload_n 3, 1) := by decide +kernel
theorem d_Is_read_48 : decode b_Is_read 48 = .ok (.iaload, 1) := by decide +kernel
theorem d_Is_read_49 : decode b_Is_read 49 = .ok (.iadd, 1) := by decide +kernel
theorem d_Is_read_50 : decode b_Is_read 50 = .ok (.ireturn, 1) := by decide +kernel
theorem d_Me_withLowerHalf_0 : decode b_Me_withLowerHalf 0 = .ok (.iload_n 0, 1) := by decide +kernel
theorem d_Me_withLowerHalf_1 : decode b_Me_withLowerHalf 1 = .ok (.ldc 112, 2) := by decide +kernel
theorem d_Me_withLowerHalf_3 : decode b_Me_withLowerHalf 3 = .ok (.iand, 1) := by decide +kernel
theorem d_Me_withLowerHalf_4 : decode b_Me_withLowerHalf 4 = .ok (.iload_n 1, 1) := by decide +kernel
theorem d_Me_withLowerHalf_5 : decode b_Me_withLowerHalf 5 = .ok (.ldc 113, 2) := by decide +kernel
theorem d_Me_withLowerHalf_7 : decode b_Me_withLowerHalf 7 = .ok (.iand, 1) := by decide +kernel
theorem d_Me_withLowerHalf_8 : decode b_Me_withLowerHalf 8 = .ok (.ior, 1) := by decide +kernel
theorem d_Me_withLowerHalf_9 : decode b_Me_withLowerHalf 9 = .ok (.ireturn, 1) := by decide +kernel
theorem d_Me_wordsBetween_0 : decode b_Me_wordsBetween 0 = .ok (.iload_n 1, 1) := by decide +kernel
theorem d_Me_wordsBetween_1 : decode b_Me_wordsBetween 1 = .ok (.iload_n 0, 1) := by decide +kernel
theorem d_Me_wordsBetween_2 : decode b_Me_wordsBetween 2 = .ok (.isub, 1) := by decide +kernel
theorem d_Me_wordsBetween_3 : decode b_Me_wordsBetween 3 = .ok (.iconst 4, 1) := by decide +kernel
theorem d_Me_wordsBetween_4 : decode b_Me_wordsBetween 4 = .ok (.idiv, 1) := by decide +kernel
theorem d_Me_wordsBetween_5 : decode b_Me_wordsBetween 5 = .ok (.ireturn, 1) := by decide +kernel
theorem d_Me_mend_0 : decode b_Me_mend 0 = .ok (.aload_n 0, 1) := by decide +kernel
theorem d_Me_mend_1 : decode b_Me_mend 1 = .ok (.getfield 23, 3) := by decide +kernel
theorem d_Me_mend_4 : decode b_Me_mend 4 = .ok (.iload_n 2, 1) := by decide +kernel
theorem d_Me_mend_5 : decode b_Me_mend 5 = .ok (.invokevirtual 41, 3) := by decide +kernel
theorem d_Me_mend_8 : decode b_Me_mend 8 = .ok (.istore_n 3, 1) := by decide +kernel
theorem d_Me_mend_9 : decode b_Me_mend 9 = .ok (.aload_n 0, 1) := by decide +kernel
theorem d_Me_mend_10 : decode b_Me_mend 10 = .ok (.getfield 23, 3) := by decide +kernel
theorem d_Me_mend_13 : decode b_Me_mend 13 = .ok (.iload_n 2, 1) := by decide +kernel
theorem d_Me_mend_14 : decode b_Me_mend 14 = .ok (.invokevirtual 100, 3) := by decide +kernel
theorem d_Me_mend_17 : decode b_Me_mend 17 = .ok (.istore 4, 2) := by decide +kernel
theorem d_Me_mend_19 : decode b_Me_mend 19 = .ok (.aload_n 0, 1) := by decide +kernel
theorem d_Me_mend_20 : decode b_Me_mend 20 = .ok (.getfield 15, 3) := by decide +kernel
theorem d_Me_mend_23 : decode b_Me_mend 23 = .ok (.getfield 54, 3) := by decide +kernel
theorem d_Me_mend_26 : decode b_Me_mend 26 = .ok (.iload_n 2, 1) := by decide +kernel
theorem d_Me_mend_27 : decode b_Me_mend 27 = .ok (.iaload, 1) := by decide +kernel
theorem d_Me_mend_28 : decode b_Me_mend 28 = .ok (.tableswitch 86 0 4 #[36, 40, 47, 59, 65], 36) := by decide +kernel
theorem d_Me_mend_64 : decode b_Me_mend 64 = .ok (.iload_n 1, 1) := by decide +kernel
theorem d_Me_mend_65 : decode b_Me_mend 65 = .ok (.iload_n 3, 1) := by decide +kernel
theorem d_Me_mend_66 : decode b_Me_mend 66 = .ok (.iadd, 1) := by decide +kernel
theorem d_Me_mend_67 : decode b_Me_mend 67 = .ok (.ireturn, 1) := by decide +kernel
theorem d_Me_mend_68 : decode b_Me_mend 68 = .ok (.iload_n 1, 1) := by decide +kernel
theorem d_Me_mend_69 : decode b_Me_mend 69 = .ok (.iload_n 3, 1) := by decide +kernel
theorem d_Me_mend_70 : decode b_Me_mend 70 = .ok (.iadd, 1) := by decide +kernel
theorem d_Me_mend_71 : decode b_Me_mend 71 = .ok (.iload 4, 2) := by decide +kernel
theorem d_Me_mend_73 : decode b_Me_mend 73 = .ok (.isub, 1) := by decide +kernel
theorem d_Me_mend_74 : decode b_Me_mend 74 = .ok (.ireturn, 1) := by decide +kernel
theorem d_Me_mend_75 : decode b_Me_mend 75 = .ok (.iload_n 1, 1) := by decide +kernel
theorem d_Me_mend_76 : decode b_Me_mend 76 = .ok (.iload_n 3, 1) := by decide +kernel
theorem d_Me_mend_77 : decode b_Me_mend 77 = .ok (.ldc 103, 2) := by decide +kernel
theorem d_Me_mend_79 : decode b_Me_mend 79 = .ok (.iadd, 1) := by decide +kernel
theorem d_Me_mend_80 : decode b_Me_mend 80 = .ok (.bipush 16, 2) := by decide +kernel
theorem d_Me_mend_82 : decode b_Me_mend 82 = .ok (.iushr, 1) := by decide +kernel
theorem d_Me_mend_83 : decode b_Me_mend 83 = .ok (.invokestatic 104, 3) := by decide +kernel
theorem d_Me_mend_86 : decode b_Me_mend 86 = .ok (.ireturn, 1) := by decide +kernel
theorem d_Me_mend_87 : decode b_Me_mend 87 = .ok (.iload_n 1, 1) := by decide +kernel
theorem d_Me_mend_88 : decode b_Me_mend 88 = .ok (.iload_n 3, 1) := by decide +kernel
theorem d_Me_mend_89 : decode b_Me_mend 89 = .ok (.invokestatic 104, 3) := by decide +kernel
theorem d_Me_mend_92 : decode b_Me_mend 92 = .ok (.ireturn, 1) := by decide +kernel
theorem d_Me_mend_93 : decode b_Me_mend 93 = .ok (.iload_n 1, 1) := by decide +kernel
theorem d_Me_mend_94 : decode b_Me_mend 94 = .ok (.iload 4, 2) := by decide +kernel
theorem d_Me_mend_96 : decode b_Me_mend 96 = .ok (.iconst 4, 1) := by decide +kernel
theorem d_Me_mend_97 : decode b_Me_mend 97 = .ok (.iadd, 1) := by decide +kernel
theorem d_Me_mend_98 : decode b_Me_mend 98 = .ok (.aload_n 0, 1) := by decide +kernel
theorem d_Me_mend_99 : decode b_Me_mend 99 = .ok (.getfield 23, 3) := by decide +kernel
theorem d_Me_mend_102 : decode b_Me_mend 102 = .ok (.iload_n 2, 1) := by decide +kernel
theorem d_Me_mend_103 : decode b_Me_mend 103 = .ok (.iload_n 3, 1) := by decide +kernel
theorem d_Me_mend_104 : decode b_Me_mend 104 = .ok (.invokevirtual 47, 3) := by decide +kernel
theorem d_Me_mend_107 : decode b_Me_mend 107 = .ok (.invokestatic 107, 3) := by decide +kernel
theorem d_Me_mend_110 : decode b_Me_mend 110 = .ok (.invokestatic 104, 3) := by decide +kernel
theorem d_Me_mend_113 : decode b_Me_mend 113 = .ok (.ireturn, 1) := by decide +kernel
theorem d_Me_mend_114 : decode b_Me_mend 114 = .ok (.iload_n 1, 1) := by decide +kernel
theorem d_Me_mend_115 : decode b_Me_mend 115 = .ok (.ldc 110, 2) := by decide +kernel
theorem d_Me_mend_117 : decode b_Me_mend 117 = .ok (.iand, 1) := by decide +kernel
theorem d_Me_mend_118 : decode b_Me_mend 118 = .ok (.iload_n 3, 1) := by decide +kernel
theorem d_Me_mend_119 : decode b_Me_mend 119 = .ok (.iconst 2, 1) := by decide +kernel
theorem d_Me_mend_120 : decode b_Me_mend 120 = .ok (.iushr, 1) := by decide +kernel
theorem d_Me_mend_121 : decode b_Me_mend 121 = .ok (.ldc 111, 2) := by decide +kernel
theorem d_Me_mend_123 : decode b_Me_mend 123 = .ok (.iand, 1) := by decide +kernel
theorem d_Me_mend_124 : decode b_Me_mend 124 = .ok (.ior, 1) := by decide +kernel
theorem d_Me_mend_125 : decode b_Me_mend 125 = .ok (.ireturn, 1) := by decide +kernel
theorem d_Me_mended_0 : decode b_Me_mended 0 = .ok (.aload_n 0, 1) := by decide +kernel
theorem d_Me_mended_1 : decode b_Me_mended 1 = .ok (.getfield 9, 3) := by decide +kernel
theorem d_Me_mended_4 : decode b_Me_mended 4 = .ok (.iload_n 1, 1) := by decide +kernel
theorem d_Me_mended_5 : decode b_Me_mended 5 = .ok (.iload_n 2, 1) := by decide +kernel
theorem d_Me_mended_6 : decode b_Me_mended 6 = .ok (.invokevirtual 86, 3) := by decide +kernel
theorem d_Me_mended_9 : decode b_Me_mended 9 = .ok (.istore_n 3, 1) := by decide +kernel
theorem d_Me_mended_10 : decode b_Me_mended 10 = .ok (.iconst 0, 1) := by decide +kernel
theorem d_Me_mended_11 : decode b_Me_mended 11 = .ok (.istore 4, 2) := by decide +kernel
theorem d_Me_mended_13 : decode b_Me_mended 13 = .ok (.iload 4, 2) := by decide +kernel
theorem d_Me_mended_15 : decode b_Me_mended 15 = .ok (.aload_n 0, 1) := by decide +kernel
theorem d_Me_mended_16 : decode b_Me_mended 16 = .ok (.getfield 15, 3) := by decide +kernel
theorem d_Me_mended_19 : decode b_Me_mended 19 = .ok (.iload_n 1, 1) := by decide +kernel
theorem d_Me_mended_20 : decode b_Me_mended 20 = .ok (.invokevirtual 88, 3) := by decide +kernel
theorem d_Me_mended_23 : decode b_Me_mended 23 = .ok (.if_icmp .ge 43, 3) := by decide +kernel
theorem d_Me_mended_26 : decode b_Me_mended 26 = .ok (.aload_n 0, 1) := by decide +kernel
theorem d_Me_mended_27 : decode b_Me_mended 27 = .ok (.getfield 15, 3) := by decide +kernel
theorem d_Me_mended_30 : decode b_Me_mended 30 = .ok (.iload_n 1, 1) := by decide +kernel
theorem d_Me_mended_31 : decode b_Me_mended 31 = .ok (.iload 4, 2) := by decide +kernel
theorem d_Me_mended_33 : decode b_Me_mended 33 = .ok (.invokevirtual 91, 3) := by decide +kernel
theorem d_Me_mended_36 : decode b_Me_mended 36 = .ok (.istore 5, 2) := by decide +kernel
theorem d_Me_mended_38 : decode b_Me_mended 38 = .ok (.aload_n 0, 1) := by decide +kernel
theorem d_Me_mended_39 : decode b_Me_mended 39 = .ok (.getfield 15, 3) := by decide +kernel
theorem d_Me_mended_42 : decode b_Me_mended 42 = .ok (.getfield 94, 3) := by decide +kernel
theorem d_Me_mended_45 : decode b_Me_mended 45 = .ok (.iload 5, 2) := by decide +kernel
theorem d_Me_mended_47 : decode b_Me_mended 47 = .ok (.iaload, 1) := by decide +kernel
theorem d_Me_mended_48 : decode b_Me_mended 48 = .ok (.iload_n 2, 1) := by decide +kernel
theorem d_Me_mended_49 : decode b_Me_mended 49 = .ok (.if_icmp .ne 11, 3) := by decide +kernel
theorem d_Me_mended_52 : decode b_Me_mended 52 = .ok (.aload_n 0, 1) := by decide +kernel
theorem d_Me_mended_53 : decode b_Me_mended 53 = .ok (.iload_n 3, 1) := by decide +kernel
theorem d_Me_mended_54 : decode b_Me_mended 54 = .ok (.iload 5, 2) := by decide +kernel
theorem d_Me_mended_56 : decode b_Me_mended 56 = .ok (.invokevirtual 97, 3) := by decide +kernel
theorem d_Me_mended_59 : decode b_Me_mended 59 = .ok (.istore_n 3, 1) := by decide +kernel
theorem d_Me_mended_60 : decode b_Me_mended 60 = .ok (.iinc 4 1, 3) := by decide +kernel
theorem d_Me_mended_63 : decode b_Me_mended 63 = .ok (.goto (-50), 3) := by decide +kernel
theorem d_Me_mended_66 : decode b_Me_mended 66 = .ok (.iload_n 3, 1) := by decide +kernel
theorem d_Me_mended_67 : decode b_Me_mended 67 = .ok (.ireturn, 1) := by decide +kernel
theorem d_Me_read_0 : decode b_Me_read 0 = .ok (.aload_n 0, 1) := by decide +kernel
theorem d_Me_read_1 : decode b_Me_read 1 = .ok (.getfield 19, 3) := by decide +kernel
theorem d_Me_read_4 : decode b_Me_read 4 = .ok (.iload_n 1, 1) := by decide +kernel
theorem d_Me_read_5 : decode b_Me_read 5 = .ok (.invokevirtual 66, 3) := by decide +kernel
theorem d_Me_read_8 : decode b_Me_read 8 = .ok (.istore_n 2, 1) := by decide +kernel
theorem d_Me_read_9 : decode b_Me_read 9 = .ok (.iload_n 2, 1) := by decide +kernel
theorem d_Me_read_10 : decode b_Me_read 10 = .ok (.iconst (-1), 1) := by decide +kernel
theorem d_Me_read_11 : decode b_Me_read 11 = .ok (.if_icmp .ne 27, 3) := by decide +kernel
theorem d_Me_read_14 : decode b_Me_read 14 = .ok (.aload_n 0, 1) := by decide +kernel
theorem d_Me_read_15 : decode b_Me_read 15 = .ok (.getfield 23, 3) := by decide +kernel
theorem d_Me_read_18 : decode b_Me_read 18 = .ok (.iload_n 1, 1) := by decide +kernel
theorem d_Me_read_19 : decode b_Me_read 19 = .ok (.invokevirtual 69, 3) := by decide +kernel
theorem d_Me_read_22 : decode b_Me_read 22 = .ok (.ifCond .eq 14, 3) := by decide +kernel
theorem d_Me_read_25 : decode b_Me_read 25 = .ok (.aload_n 0, 1) := by decide +kernel
theorem d_Me_read_26 : decode b_Me_read 26 = .ok (.getfield 23, 3) := by decide +kernel
theorem d_Me_read_29 : decode b_Me_read 29 = .ok (.iload_n 1, 1) := by decide +kernel
theorem d_Me_read_30 : decode b_Me_read 30 = .ok (.invokevirtual 72, 3) := by decide +kernel
theorem d_Me_read_33 : decode b_Me_read 33 = .ok (.goto 4, 3) := by decide +kernel
theorem d_Me_read_36 : decode b_Me_read 36 = .ok (.iconst 0, 1) := by decide +kernel
theorem d_Me_read_37 : decode b_Me_read 37 = .ok (.ireturn, 1) := by decide +kernel
theorem d_Me_read_38 : decode b_Me_read 38 = .ok (.aload_n 0, 1) := by decide +kernel
theorem d_Me_read_39 : decode b_Me_read 39 = .ok (.getfield 9, 3) := by decide +kernel
theorem d_Me_read_42 : decode b_Me_read 42 = .ok (.getfield 75, 3) := by decide +kernel
theorem d_Me_read_45 : decode b_Me_read 45 = .ok (.iload_n 2, 1) := by decide +kernel
theorem d_Me_read_46 : decode b_Me_read 46 = .ok (.iaload, 1) := by decide +kernel
theorem d_Me_read_47 : decode b_Me_read 47 = .ok (.iconst 2, 1) := by decide +kernel
theorem d_Me_read_48 : decode b_Me_read 48 = .ok (.if_icmp .ne 5, 3) := by decide +kernel
theorem d_Me_read_51 : decode b_Me_read 51 = .ok (.iconst 0, 1) := by decide +kernel
theorem d_Me_read_52 : decode b_Me_read 52 = .ok (.ireturn, 1) := by decide +kernel
theorem d_Me_read_53 : decode b_Me_read 53 = .ok (.aload_n 0, 1) := by decide +kernel
theorem d_Me_read_54 : decode b_Me_read 54 = .ok (.iload_n 2, 1) := by decide +kernel
theorem d_Me_read_55 : decode b_Me_read 55 = .ok (.iload_n 1, 1) := by decide +kernel
theorem d_Me_read_56 : decode b_Me_read 56 = .ok (.aload_n 0, 1) := by decide +kernel
theorem d_Me_read_57 : decode b_Me_read 57 = .ok (.getfield 19, 3) := by decide +kernel
theorem d_Me_read_60 : decode b_Me_read 60 = .ok (.getfield 80, 3) := by decide +kernel
theorem d_Me_read_63 : decode b_Me_read 63 = .ok (.iload_n 2, 1) := by decide +kernel
theorem d_Me_read_64 : decode b_Me_read 64 = .ok (.iaload, 1) := by decide +kernel
theorem d_Me_read_65 : decode b_Me_read 65 = .ok (.isub, 1) := by decide +kernel
theorem d_Me_read_66 : decode b_Me_read 66 = .ok (.invokevirtual 83, 3) := by decide +kernel
theorem d_Me_read_69 : decode b_Me_read 69 = .ok (.ireturn, 1) := by decide +kernel
