theorem fl_Is_44 : FL R_Is 44 10 5 := ⟨R_Is, F_Is, N_Is, rfl, by decide, i_Is, (mw 489 (by decide +kernel))⟩
theorem fl_Is_9 : FL R_Is 9 10 7 := ⟨R_Is, F_Is, N_Is, rfl, by decide, i_Is, (mw 493 (by decide +kernel))⟩
theorem fl_Is_32 : FL R_Is 32 10 2 := ⟨R_Is, F_Is, N_Is, rfl, by decide, i_Is, (mw 486 (by decide +kernel))⟩
theorem fl_Is_111 : FL R_Is 111 6 6 := ⟨R_Na, F_Na, N_Na, rfl, by decide, i_Na, (mw 337 (by decide +kernel))⟩
theorem fl_Is_15 : FL R_Is 15 10 8 := ⟨R_Is, F_Is, N_Is, rfl, by decide, i_Is, (mw 494 (by decide +kernel))⟩
theorem fl_Is_36 : FL R_Is 36 10 3 := ⟨R_Is, F_Is, N_Is, rfl, by decide, i_Is, (mw 487 (by decide +kernel))⟩
theorem ml_Is_114 : MLb R_Is 114 y_Fo_leaderOfMeant b_Fo_leaderOfMeant 3 (some .int) 1 := ⟨(mw 1311 (by decide +kernel)), (mw 1382 (by decide +kernel)), (mw 91 (by decide +kernel)), by decide +kernel⟩
theorem fl_Is_18 : FL R_Is 18 10 9 := ⟨R_Is, F_Is, N_Is, rfl, by decide, i_Is, (mw 495 (by decide +kernel))⟩
theorem fl_Is_119 : FL R_Is 119 6 8 := ⟨R_Na, F_Na, N_Na, rfl, by decide, i_Na, (mw 347 (by decide +kernel))⟩
theorem ft_Is_5 : FT 10 5 .int := ⟨R_Is, F_Is, N_Is, rfl, rfl, by decide +kernel⟩
theorem ml_Is_102 : MLb R_Is 102 y_Is_find b_Is_find 4 (some .int) 1 := ⟨(mw 1381 (by decide +kernel)), (mw 1378 (by decide +kernel)), (mw 93 (by decide +kernel)), by decide +kernel⟩
theorem mv_Is_find : MLv y_Is_find := ⟨(mw 1380 (by decide +kernel)), (mw 37 (by decide +kernel))⟩
theorem fl_Is_48 : FL R_Is 48 10 6 := ⟨R_Is, F_Is, N_Is, rfl, by decide, i_Is, (mw 491 (by decide +kernel))⟩
theorem ft_Is_6 : FT 10 6 .int := ⟨R_Is, F_Is, N_Is, rfl, rfl, by decide +kernel⟩
theorem kb_32 : (Int8.ofInt 32).toInt32 = 32 := by decide
theorem ml_Is_105 : MLb R_Is 105 y_Is_raise b_Is_raise 3 (none) 1 := ⟨(mw 1386 (by decide +kernel)), (mw 1383 (by decide +kernel)), (mw 93 (by decide +kernel)), by decide +kernel⟩
theorem mv_Is_raise : MLv y_Is_raise := ⟨(mw 1385 (by decide +kernel)), (mw 38 (by decide +kernel))⟩
theorem fl_La_47 : FL R_La 47 9 5 := ⟨R_La, F_La, N_La, rfl, by decide, i_La, (mw 444 (by decide +kernel))⟩
theorem ft_La_5 : FT 9 5 .int := ⟨R_La, F_La, N_La, rfl, rfl, by decide +kernel⟩
theorem fl_La_18 : FL R_La 18 9 0 := ⟨R_La, F_La, N_La, rfl, by decide, i_La, (mw 438 (by decide +kernel))⟩
theorem fl_La_72 : FL R_La 72 2 0 := ⟨R_Se, F_Se, N_Se, rfl, by decide, i_Se, (mw 158 (by decide +kernel))⟩
theorem fl_La_80 : FL R_La 80 2 5 := ⟨R_Se, F_Se, N_Se, rfl, by decide, i_Se, (mw 168 (by decide +kernel))⟩
theorem fl_La_92 : FL R_La 92 2 6 := ⟨R_Se, F_Se, N_Se, rfl, by decide, i_Se, (mw 172 (by decide +kernel))⟩
theorem fl_La_95 : FL R_La 95 2 7 := ⟨R_Se, F_Se, N_Se, rfl, by decide, i_Se, (mw 176 (by decide +kernel))⟩
theorem ml_La_54 : MLb R_La 54 y_La_put b_La_put 4 (some .int) 2 := ⟨(mw 1338 (by decide +kernel)), (mw 1335 (by decide +kernel)), (mw 92 (by decide +kernel)), by decide +kernel⟩
theorem mv_La_put : MLv y_La_put := ⟨(mw 1337 (by decide +kernel)), (mw 33 (by decide +kernel))⟩
theorem fl_La_89 : FL R_La 89 8 4 := ⟨R_Fo, F_Fo, N_Fo, rfl, by decide, i_Fo, (mw 416 (by decide +kernel))⟩
theorem fl_La_61 : FL R_La 61 7 5 := ⟨R_Rc, F_Rc, N_Rc, rfl, by decide, i_Rc, (mw 384 (by decide +kernel))⟩
theorem fl_La_67 : FL R_La 67 6 4 := ⟨R_Na, F_Na, N_Na, rfl, by decide, i_Na, (mw 332 (by decide +kernel))⟩
theorem fl_La_38 : FL R_La 38 9 6 := ⟨R_La, F_La, N_La, rfl, by decide, i_La, (mw 446 (by decide +kernel))⟩
theorem ft_La_6 : FT 9 6 .int := ⟨R_La, F_La, N_La, rfl, rfl, by decide +kernel⟩
theorem fl_La_34 : FL R_La 34 9 4 := ⟨R_La, F_La, N_La, rfl, by decide, i_La, (mw 442 (by decide +kernel))⟩
theorem ml_La_50 : MLb R_La 50 y_La_laySections b_La_laySections 3 (none) 1 := ⟨(mw 1330 (by decide +kernel)), (mw 1327 (by decide +kernel)), (mw 92 (by decide +kernel)), by decide +kernel⟩
theorem mv_La_laySections : MLv y_La_laySections := ⟨(mw 1329 (by decide +kernel)), (mw 32 (by decide +kernel))⟩
theorem kb_8 : (Int8.ofInt 8).toInt32 = 8 := by decide
theorem fl_La_58 : FL R_La 58 9 7 := ⟨R_La, F_La, N_La, rfl, by decide, i_La, (mw 448 (by decide +kernel))⟩
theorem ft_La_7 : FT 9 7 .int := ⟨R_La, F_La, N_La, rfl, rfl, by decide +kernel⟩
theorem ks_600 : (Int16.ofInt 600).toInt32 = 600 := by decide
theorem ml_Is_63 : MLb R_Is 63 y_Is_firstStranded b_Is_firstStranded 3 (some .int) 0 := ⟨(mw 1342 (by decide +kernel)), (mw 1339 (by decide +kernel)), (mw 93 (by decide +kernel)), by decide +kernel⟩
theorem mv_Is_firstStranded : MLv y_Is_firstStranded := ⟨(mw 1341 (by decide +kernel)), (mw 34 (by decide +kernel))⟩
theorem ml_Is_67 : MLb R_Is 67 y_Is_send b_Is_send 3 (some .boolean) 1 := ⟨(mw 1377 (by decide +kernel)), (mw 1374 (by decide +kernel)), (mw 93 (by decide +kernel)), by decide +kernel⟩
theorem mv_Is_send : MLv y_Is_send := ⟨(mw 1376 (by decide +kernel)), (mw 36 (by decide +kernel))⟩
theorem ml_Is_57 : MLb R_Is 57 y_La_lay b_La_lay 3 (none) 1 := ⟨(mw 1326 (by decide +kernel)), (mw 1323 (by decide +kernel)), (mw 92 (by decide +kernel)), by decide +kernel⟩
theorem mv_La_lay : MLv y_La_lay := ⟨(mw 1324 (by decide +kernel)), (mw 1325 (by decide +kernel))⟩
theorem ml_Is_51 : MLb R_Is 51 y_fill53 b_fill53 4 (none) 2 := ⟨(mw 1142 (by decide +kernel)), (mw 1322 (by decide +kernel)), (mw 103 (by decide +kernel)), by decide +kernel⟩
theorem ms_fill53 : Cond.static y_fill53 ∈ ALLW := (mw 1141 (by decide +kernel))
theorem ft_La_4 : FT 9 4 .int := ⟨R_La, F_La, N_La, rfl, rfl, by decide +kernel⟩
theorem ml_La_41 : MLb R_La 41 y_fill48 b_fill48 4 (none) 2 := ⟨(mw 1142 (by decide +kernel)), (mw 1317 (by decide +kernel)), (mw 103 (by decide +kernel)), by decide +kernel⟩
theorem ms_fill48 : Cond.static y_fill48 ∈ ALLW := (mw 1141 (by decide +kernel))
theorem ms_fill49 : Cond.static y_fill49 ∈ ALLW := (mw 1141 (by decide +kernel))
theorem fl_Is_134 : FL R_Is 134 9 7 := ⟨R_La, F_La, N_La, rfl, by decide, i_La, (mw 449 (by decide +kernel))⟩
theorem fl_Me_15 : FL R_Me 15 11 1 := ⟨R_Me, F_Me, N_Me, rfl, by decide, i_Me, (mw 527 (by decide +kernel))⟩
theorem fl_Me_54 : FL R_Me 54 4 3 := ⟨R_Re, F_Re, N_Re, rfl, by decide, i_Re, (mw 266 (by decide +kernel))⟩
theorem fl_Me_19 : FL R_Me 19 11 2 := ⟨R_Me, F_Me, N_Me, rfl, by decide, i_Me, (mw 528 (by decide +kernel))⟩
theorem fl_Me_57 : FL R_Me 57 4 1 := ⟨R_Re, F_Re, N_Re, rfl, by decide, i_Re, (mw 259 (by decide +kernel))⟩
theorem ml_Me_60 : MLb R_Me 60 y_La_isStanding b_La_isStanding 2 (some .boolean) 1 := ⟨(mw 1350 (by decide +kernel)), (mw 1395 (by decide +kernel)), (mw 92 (by decide +kernel)), by decide +kernel⟩
theorem fl_Me_27 : FL R_Me 27 4 0 := ⟨R_Re, F_Re, N_Re, rfl, by decide, i_Re, (mw 253 (by decide +kernel))⟩
theorem fl_Me_33 : FL R_Me 33 4 6 := ⟨R_Re, F_Re, N_Re, rfl, by decide, i_Re, (mw 278 (by decide +kernel))⟩
theorem ml_Me_37 : MLb R_Me 37 y_Me_isMended b_Me_isMended 3 (some .boolean) 2 := ⟨(mw 1394 (by decide +kernel)), (mw 1391 (by decide +kernel)), (mw 94 (by decide +kernel)), by decide +kernel⟩
theorem mv_Me_isMended : MLv y_Me_isMended := ⟨(mw 1393 (by decide +kernel)), (mw 39 (by decide +kernel))⟩
theorem fl_Me_23 : FL R_Me 23 11 3 := ⟨R_Me, F_Me, N_Me, rfl, by decide, i_Me, (mw 529 (by decide +kernel))⟩
theorem ml_Me_41 : MLb R_Me 41 y_Is_targetOf b_Is_targetOf 2 (some .int) 1 := ⟨(mw 1354 (by decide +kernel)), (mw 1396 (by decide +kernel)), (mw 93 (by decide +kernel)), by decide +kernel⟩
theorem ml_Me_47 : MLb R_Me 47 y_Is_goalOf b_Is_goalOf 4 (some .int) 2 := ⟨(mw 1400 (by decide +kernel)), (mw 1397 (by decide +kernel)), (mw 93 (by decide +kernel)), by decide +kernel⟩
theorem mv_Is_goalOf : MLv y_Is_goalOf := ⟨(mw 1398 (by decide +kernel)), (mw 1399 (by decide +kernel))⟩
theorem ml_Me_51 : MLb R_Me 51 y_Is_isNear b_Is_isNear 5 (some .boolean) 2 := ⟨(mw 1366 (by decide +kernel)), (mw 1401 (by decide +kernel)), (mw 93 (by decide +kernel)), by decide +kernel⟩
theorem d_Is_find_0 : decode b_Is_find 0 = .ok (.aload_n 0, 1) := by decide +kernel
theorem d_Is_find_1 : decode b_Is_find 1 = .ok (.getfield 28, 3) := by decide +kernel
theorem d_Is_find_4 : decode b_Is_find 4 = .ok (.getfield 108, 3) := by decide +kernel
theorem d_Is_find_7 : decode b_Is_find 7 = .ok (.iload_n 1, 1) := by decide +kernel
theorem d_Is_find_8 : decode b_Is_find 8 = .ok (.iaload, 1) := by decide +kernel
theorem d_Is_find_9 : decode b_Is_find 9 = .ok (.istore_n 2, 1) := by decide +kernel
theorem d_Is_find_10 : decode b_Is_find 10 = .ok (.iconst 0, 1) := by decide +kernel
theorem d_Is_find_11 : decode b_Is_find 11 = .ok (.istore_n 3, 1) := by decide +kernel
theorem d_Is_find_12 : decode b_Is_find 12 = .ok (.iload_n 3, 1) := by decide +kernel
theorem d_Is_find_13 : decode b_Is_find 13 = .ok (.aload_n 0, 1) := by decide +kernel
theorem d_Is_find_14 : decode b_Is_find 14 = .ok (.getfield 44, 3) := by decide +kernel
theorem d_Is_find_17 : decode b_Is_find 17 = .ok (.if_icmp .ge 74, 3) := by decide +kernel
theorem d_Is_find_20 : decode b_Is_find 20 = .ok (.aload_n 0, 1) := by decide +kernel
theorem d_Is_find_21 : decode b_Is_find 21 = .ok (.getfield 9, 3) := by decide +kernel
theorem d_Is_find_24 : decode b_Is_find 24 = .ok (.iload_n 3, 1) := by decide +kernel
theorem d_Is_find_25 : decode b_Is_find 25 = .ok (.iaload, 1) := by decide +kernel
theorem d_Is_find_26 : decode b_Is_find 26 = .ok (.aload_n 0, 1) := by decide +kernel
theorem d_Is_find_27 : decode b_Is_find 27 = .ok (.getfield 32, 3) := by decide +kernel
theorem d_Is_find_30 : decode b_Is_find 30 = .ok (.getfield 111, 3) := by decide +kernel
theorem d_Is_find_33 : decode b_Is_find 33 = .ok (.iload_n 2, 1) := by decide +kernel
theorem d_Is_find_34 : decode b_Is_find 34 = .ok (.iaload, 1) := by decide +kernel
theorem d_Is_find_35 : decode b_Is_find 35 = .ok (.if_icmp .ne 50, 3) := by decide +kernel
theorem d_Is_find_38 : decode b_Is_find 38 = .ok (.aload_n 0, 1) := by decide +kernel
theorem d_Is_find_39 : decode b_Is_find 39 = .ok (.getfield 15, 3) := by decide +kernel
theorem d_Is_find_42 : decode b_Is_find 42 = .ok (.iload_n 3, 1) := by decide +kernel
theorem d_Is_find_43 : decode b_Is_find 43 = .ok (.iaload, 1) := by decide +kernel
theorem d_Is_find_44 : decode b_Is_find 44 = .ok (.aload_n 0, 1) := by decide +kernel
theorem d_Is_find_45 : decode b_Is_find 45 = .ok (.getfield 36, 3) := by decide +kernel
theorem d_Is_find_48 : decode b_Is_find 48 = .ok (.iload_n 2, 1) := by decide +kernel
theorem d_Is_find_49 : decode b_Is_find 49 = .ok (.invokevirtual 114, 3) := by decide +kernel
theorem d_Is_find_52 : decode b_Is_find 52 = .ok (.if_icmp .ne 33, 3) := by decide +kernel
theorem d_Is_find_55 : decode b_Is_find 55 = .ok (.aload_n 0, 1) := by decide +kernel
theorem d_Is_find_56 : decode b_Is_find 56 = .ok (.getfield 18, 3) := by decide +kernel
theorem d_Is_find_59 : decode b_Is_find 59 = .ok (.iload_n 3, 1) := by decide +kernel
theorem d_Is_find_60 : decode b_Is_find 60 = .ok (.iaload, 1) := by decide +kernel
theorem d_Is_find_61 : decode b_Is_find 61 = .ok (.aload_n 0, 1) := by decide +kernel
theorem d_Is_find_62 : decode b_Is_find 62 = .ok (.getfield 32, 3) := by decide +kernel
theorem d_Is_find_65 : decode b_Is_find 65 = .ok (.getfield 119, 3) := by decide +kernel
theorem d_Is_find_68 : decode b_Is_find 68 = .ok (.iload_n 2, 1) := by decide +kernel
theorem d_Is_find_69 : decode b_Is_find 69 = .ok (.iaload, 1) := by decide +kernel
theorem d_Is_find_70 : decode b_Is_find 70 = .ok (.aload_n 0, 1) := by decide +kernel
theorem d_Is_find_71 : decode b_Is_find 71 = .ok (.getfield 28, 3) := by decide +kernel
theorem d_Is_find_74 : decode b_Is_find 74 = .ok (.getfield 122, 3) := by decide +kernel
theorem d_Is_find_77 : decode b_Is_find 77 = .ok (.iload_n 1, 1) := by decide +kernel
theorem d_Is_find_78 : decode b_Is_find 78 = .ok (.iaload, 1) := by decide +kernel
theorem d_Is_find_79 : decode b_Is_find 79 = .ok (.iadd, 1) := by decide +kernel
theorem d_Is_find_80 : decode b_Is_find 80 = .ok (.if_icmp .ne 5, 3) := by decide +kernel
theorem d_Is_find_83 : decode b_Is_find 83 = .ok (.iload_n 3, 1) := by decide +kernel
theorem d_Is_find_84 : decode b_Is_find 84 = .ok (.ireturn, 1) := by decide +kernel
theorem d_Is_find_85 : decode b_Is_find 85 = .ok (.iinc 3 1, 3) := by decide +kernel
theorem d_Is_find_88 : decode b_Is_find 88 = .ok (.goto (-76), 3) := by decide +kernel
theorem d_Is_find_91 : decode b_Is_find 91 = .ok (.aload_n 0, 1) := by decide +kernel
theorem d_Is_find_92 : decode b_Is_find 92 = .ok (.getfield 44, 3) := by decide +kernel
theorem d_Is_find_95 : decode b_Is_find 95 = .ok (.ireturn, 1) := by decide +kernel
theorem d_Is_raise_0 : decode b_Is_raise 0 = .ok (.aload_n 0, 1) := by decide +kernel
theorem d_Is_raise_1 : decode b_Is_raise 1 = .ok (.getfield 28, 3) := by decide +kernel
theorem d_Is_raise_4 : decode b_Is_raise 4 = .ok (.getfield 108, 3) := by decide +kernel
theorem d_Is_raise_7 : decode b_Is_raise 7 = .ok (.iload_n 1, 1) := by decide +kernel
theorem d_Is_raise_8 : decode b_Is_raise 8 = .ok (.iaload, 1) := by decide +kernel
theorem d_Is_raise_9 : decode b_Is_raise 9 = .ok (.istore_n 2, 1) := by decide +kernel
theorem d_Is_raise_10 : decode b_Is_raise 10 = .ok (.aload_n 0, 1) := by decide +kernel
theorem d_Is_raise_11 : decode b_Is_raise 11 = .ok (.getfield 9, 3) := by decide +kernel
theorem d_Is_raise_14 : decode b_Is_raise 14 = .ok (.aload_n 0, 1) := by decide +kernel
theorem d_Is_raise_15 : decode b_Is_raise 15 = .ok (.getfield 44, 3) := by decide +kernel
theorem d_Is_raise_18 : decode b_Is_raise 18 = .ok (.aload_n 0, 1) := by decide +kernel
theorem d_Is_raise_19 : decode b_Is_raise 19 = .ok (.getfield 32, 3) := by decide +kernel
theorem d_Is_raise_22 : decode b_Is_raise 22 = .ok (.getfield 111, 3) := by decide +kernel
theorem d_Is_raise_25 : decode b_Is_raise 25 = .ok (.iload_n 2, 1) := by decide +kernel
theorem d_Is_raise_26 : decode b_Is_raise 26 = .ok (.iaload, 1) := by decide +kernel
theorem d_Is_raise_27 : decode b_Is_raise 27 = .ok (.iastore, 1) := by decide +kernel
theorem d_Is_raise_28 : decode b_Is_raise 28 = .ok (.aload_n 0, 1) := by decide +kernel
theorem d_Is_raise_29 : decode b_Is_raise 29 = .ok (.getfield 15, 3) := by decide +kernel
theorem d_Is_raise_32 : decode b_Is_raise 32 = .ok (.aload_n 0, 1) := by decide +kernel
theorem d_Is_raise_33 : decode b_Is_raise 33 = .ok (.getfield 44, 3) := by decide +kernel
theorem d_Is_raise_36 : decode b_Is_raise 36 = .ok (.aload_n 0, 1) := by decide +kernel
theorem d_Is_raise_37 : decode b_Is_raise 37 = .ok (.getfield 36, 3) := by decide +kernel
theorem d_Is_raise_40 : decode b_Is_raise 40 = .ok (.iload_n 2, 1) := by decide +kernel
theorem d_Is_raise_41 : decode b_Is_raise 41 = .ok (.invokevirtual 114, 3) := by decide +kernel
theorem d_Is_raise_44 : decode b_Is_raise 44 = .ok (.iastore, 1) := by decide +kernel
theorem d_Is_raise_45 : decode b_Is_raise 45 = .ok (.aload_n 0, 1) := by decide +kernel
theorem d_Is_raise_46 : decode b_Is_raise 46 = .ok (.getfield 18, 3) := by decide +kernel
theorem d_Is_raise_49 : decode b_Is_raise 49 = .ok (.aload_n 0, 1) := by decide +kernel
theorem d_Is_raise_50 : decode b_Is_raise 50 = .ok (.getfield 44, 3) := by decide +kernel
theorem d_Is_raise_53 : decode b_Is_raise 53 = .ok (.aload_n 0, 1) := by decide +kernel
theorem d_Is_raise_54 : decode b_Is_raise 54 = .ok (.getfield 32, 3) := by decide +kernel
theorem d_Is_raise_57 : decode b_Is_raise 57 = .ok (.getfield 119, 3) := by decide +kernel
theorem d_Is_raise_60 : decode b_Is_raise 60 = .ok (.iload_n 2, 1) := by decide +kernel
theorem d_Is_raise_61 : decode b_Is_raise 61 = .ok (.iaload, 1) := by decide +kernel
theorem d_Is_raise_62 : decode b_Is_raise 62 = .ok (.aload_n 0, 1) := by decide +kernel
theorem d_Is_raise_63 : decode b_Is_raise 63 = .ok (.getfield 28, 3) := by decide +kernel
theorem d_Is_raise_66 : decode b_Is_raise 66 = .ok (.getfield 122, 3) := by decide +kernel
theorem d_Is_raise_69 : decode b_Is_raise 69 = .ok (.iload_n 1, 1) := by decide +kernel
theorem d_Is_raise_70 : decode b_Is_raise 70 = .ok (.iaload, 1) := by decide +kernel
theorem d_Is_raise_71 : decode b_Is_raise 71 = .ok (.iadd, 1) := by decide +kernel
theorem d_Is_raise_72 : decode b_Is_raise 72 = .ok (.iastore, 1) := by decide +kernel
theorem d_Is_raise_73 : decode b_Is_raise 73 = .ok (.aload_n 0, 1) := by decide +kernel
theorem d_Is_raise_74 : decode b_Is_raise 74 = .ok (.dup, 1) := by decide +kernel
theorem d_Is_raise_75 : decode b_Is_raise 75 = .ok (.getfield 44, 3) := by decide +kernel
theorem d_Is_raise_78 : decode b_Is_raise 78 = .ok (.iconst 1, 1) := by decide +kernel
theorem d_Is_raise_79 : decode b_Is_raise 79 = .ok (.iadd, 1) := by decide +kernel
theorem d_Is_raise_80 : decode b_Is_raise 80 = .ok (.putfield 44, 3) := by decide +kernel
theorem d_Is_raise_83 : decode b_Is_raise 83 = .ok (.return_, 1) := by decide +kernel
theorem d_Is_send_0 : decode b_Is_send 0 = .ok (.aload_n 0, 1) := by decide +kernel
theorem d_Is_send_1 : decode b_Is_send 1 = .ok (.iload_n 1, 1) := by decide +kernel
theorem d_Is_send_2 : decode b_Is_send 2 = .ok (.invokevirtual 102, 3) := by decide +kernel
theorem d_Is_send_5 : decode b_Is_send 5 = .ok (.istore_n 2, 1) := by decide +kernel
theorem d_Is_send_6 : decode b_Is_send 6 = .ok (.iload_n 2, 1) := by decide +kernel
theorem d_Is_send_7 : decode b_Is_send 7 = .ok (.aload_n 0, 1) := by decide +kernel
theorem d_Is_send_8 : decode b_Is_send 8 = .ok (.getfield 44, 3) := by decide +kernel
theorem d_Is_send_11 : decode b_Is_send 11 = .ok (.if_icmp .ne 19, 3) := by decide +kernel
theorem d_Is_send_14 : decode b_Is_send 14 = .ok (.aload_n 0, 1) := by decide +kernel
theorem d_Is_send_15 : decode b_Is_send 15 = .ok (.getfield 44, 3) := by decide +kernel
theorem d_Is_send_18 : decode b_Is_send 18 = .ok (.bipush 32, 2) := by decide +kernel
theorem d_Is_send_20 : decode b_Is_send 20 = .ok (.if_icmp .lt 5, 3) := by decide +kernel
theorem d_Is_send_23 : decode b_Is_send 23 = .ok (.iconst 0, 1) := by decide +kernel
theorem d_Is_send_24 : decode b_Is_send 24 = .ok (.ireturn, 1) := by decide +kernel
theorem d_Is_send_25 : decode b_Is_send 25 = .ok (.aload_n 0, 1) := by decide +kernel
theorem d_Is_send_26 : decode b_Is_send 26 = .ok (.iload_n 1, 1) := by decide +kernel
theorem d_Is_send_27 : decode b_Is_send 27 = .ok (.invokevirtual 105, 3) := by decide +kernel
theorem d_Is_send_30 : decode b_Is_send 30 = .ok (.aload_n 0, 1) := by decide +kernel
theorem d_Is_send_31 : decode b_Is_send 31 = .ok (.getfield 21, 3) := by decide +kernel
theorem d_Is_send_34 : decode b_Is_send 34 = .ok (.iload_n 1, 1) := by decide +kernel
theorem d_Is_send_35 : decode b_Is_send 35 = .ok (.iload_n 2, 1) := by decide +kernel
theorem d_Is_send_36 : decode b_Is_send 36 = .ok (.iastore, 1) := by decide +kernel
theorem d_Is_send_37 : decode b_Is_send 37 = .ok (.aload_n 0, 1) := by decide +kernel
theorem d_Is_send_38 : decode b_Is_send 38 = .ok (.dup, 1) := by decide +kernel
theorem d_Is_send_39 : decode b_Is_send 39 = .ok (.getfield 48, 3) := by decide +kernel
theorem d_Is_send_42 : decode b_Is_send 42 = .ok (.iconst 1, 1) := by decide +kernel
theorem d_Is_send_43 : decode b_Is_send 43 = .ok (.iadd, 1) := by decide +kernel
theorem d_Is_send_44 : decode b_Is_send 44 = .ok (.putfield 48, 3) := by decide +kernel
theorem d_Is_send_47 : decode b_Is_send 47 = .ok (.iconst 1, 1) := by decide +kernel
theorem d_Is_send_48 : decode b_Is_send 48 = .ok (.ireturn, 1) := by decide +kernel
theorem d_La_put_0 : decode b_La_put 0 = .ok (.aload_n 0, 1) := by decide +kernel
theorem d_La_put_1 : decode b_La_put 1 = .ok (.getfield 47, 3) := by decide +kernel
theorem d_La_put_4 : decode b_La_put 4 = .ok (.iload_n 2, 1) := by decide +kernel
theorem d_La_put_5 : decode b_La_put 5 = .ok (.iadd, 1) := by decide +kernel
theorem d_La_put_6 : decode b_La_put 6 = .ok (.iconst 1, 1) := by decide +kernel
theorem d_La_put_7 : decode b_La_put 7 = .ok (.isub, 1) := by decide +kernel
theorem d_La_put_8 : decode b_La_put 8 = .ok (.iload_n 2, 1) := by decide +kernel
theorem d_La_put_9 : decode b_La_put 9 = .ok (.ineg, 1) := by decide +kernel
theorem d_La_put_10 : decode b_La_put 10 = .ok (.iand, 1) := by decide +kernel
theorem d_La_put_11 : decode b_La_put 11 = .ok (.istore_n 3, 1) := by decide +kernel
theorem d_La_put_12 : decode b_La_put 12 = .ok (.aload_n 0, 1) := by decide +kernel
theorem d_La_put_13 : decode b_La_put 13 = .ok (.iload_n 3, 1) := by decide +kernel
theorem d_La_put_14 : decode b_La_put 14 = .ok (.iload_n 1, 1) := by decide +kernel
theorem d_La_put_15 : decode b_La_put 15 = .ok (.iadd, 1) := by decide +kernel
theorem d_La_put_16 : decode b_La_put 16 = .ok (.putfield 47, 3) := by decide +kernel
theorem d_La_put_19 : decode b_La_put 19 = .ok (.iload_n 3, 1) := by decide +kernel
theorem d_La_put_20 : decode b_La_put 20 = .ok (.ireturn, 1) := by decide +kernel
theorem d_La_laySections_0 : decode b_La_laySections 0 = .ok (.iconst 0, 1) := by decide +kernel
theorem d_La_laySections_1 : decode b_La_laySections 1 = .ok (.istore_n 2, 1) := by decide +kernel
theorem d_La_laySections_2 : decode b_La_laySections 2 = .ok (.iload_n 2, 1) := by decide +kernel
theorem d_La_laySections_3 : decode b_La_laySections 3 = .ok (.aload_n 0, 1) := by decide +kernel
theorem d_La_laySections_4 : decode b_La_laySections 4 = .ok (.getfield 18, 3) := by decide +kernel
theorem d_La_laySections_7 : decode b_La_laySections 7 = .ok (.getfield 72, 3) := by decide +kernel
theorem d_La_laySections_10 : decode b_La_laySections 10 = .ok (.if_icmp .ge 90, 3) := by decide +kernel
theorem d_La_laySections_13 : decode b_La_laySections 13 = .ok (.aload_n 0, 1) := by decide +kernel
theorem d_La_laySections_14 : decode b_La_laySections 14 = .ok (.getfield 26, 3) := by decide +kernel
theorem d_La_laySections_17 : decode b_La_laySections 17 = .ok (.getfield 77, 3) := by decide +kernel
theorem d_La_laySections_20 : decode b_La_laySections 20 = .ok (.iload_n 2, 1) := by decide +kernel
theorem d_La_laySections_21 : decode b_La_laySections 21 = .ok (.baload, 1) := by decide +kernel
theorem d_La_laySections_22 : decode b_La_laySections 22 = .ok (.ifCond .eq 72, 3) := by decide +kernel
theorem d_La_laySections_25 : decode b_La_laySections 25 = .ok (.aload_n 0, 1) := by decide +kernel
theorem d_La_laySections_26 : decode b_La_laySections 26 = .ok (.getfield 18, 3) := by decide +kernel
theorem d_La_laySections_29 : decode b_La_laySections 29 = .ok (.getfield 80, 3) := by decide +kernel
theorem d_La_laySections_32 : decode b_La_laySections 32 = .ok (.iload_n 2, 1) := by decide +kernel
theorem d_La_laySections_33 : decode b_La_laySections 33 = .ok (.iaload, 1) := by decide +kernel
theorem d_La_laySections_34 : decode b_La_laySections 34 = .ok (.iload_n 1, 1) := by decide +kernel
theorem d_La_laySections_35 : decode b_La_laySections 35 = .ok (.if_icmp .ne 59, 3) := by decide +kernel
theorem d_La_laySections_38 : decode b_La_laySections 38 = .ok (.aload_n 0, 1) := by decide +kernel
theorem d_La_laySections_39 : decode b_La_laySections 39 = .ok (.getfield 9, 3) := by decide +kernel
theorem d_La_laySections_42 : decode b_La_laySections 42 = .ok (.iload_n 2, 1) := by decide +kernel
theorem d_La_laySections_43 : decode b_La_laySections 43 = .ok (.aload_n 0, 1) := by decide +kernel
theorem d_La_laySections_44 : decode b_La_laySections 44 = .ok (.getfield 30, 3) := by decide +kernel
theorem d_La_laySections_47 : decode b_La_laySections 47 = .ok (.iload_n 2, 1) := by decide +kernel
theorem d_La_laySections_48 : decode b_La_laySections 48 = .ok (.invokevirtual 83, 3) := by decide +kernel
theorem d_La_laySections_51 : decode b_La_laySections 51 = .ok (.ifCond .eq 20, 3) := by decide +kernel
theorem d_La_laySections_54 : decode b_La_laySections 54 = .ok (.aload_n 0, 1) := by decide +kernel
theorem d_La_laySections_55 : decode b_La_laySections 55 = .ok (.getfield 9, 3) := by decide +kernel
theorem d_La_laySections_58 : decode b_La_laySections 58 = .ok (.aload_n 0, 1) := by decide +kernel
theorem d_La_laySections_59 : decode b_La_laySections 59 = .ok (.getfield 30, 3) := by decide +kernel
theorem d_La_laySections_62 : decode b_La_laySections 62 = .ok (.getfield 89, 3) := by decide +kernel
theorem d_La_laySections_65 : decode b_La_laySections 65 = .ok (.iload_n 2, 1) := by decide +kernel
theorem d_La_laySections_66 : decode b_La_laySections 66 = .ok (.iaload, 1) := by decide +kernel
theorem d_La_laySections_67 : decode b_La_laySections 67 = .ok (.iaload, 1) := by decide +kernel
theorem d_La_laySections_68 : decode b_La_laySections 68 = .ok (.goto 25, 3) := by decide +kernel
theorem d_La_laySections_71 : decode b_La_laySections 71 = .ok (.aload_n 0, 1) := by decide +kernel
theorem d_La_laySections_72 : decode b_La_laySections 72 = .ok (.aload_n 0, 1) := by decide +kernel
theorem d_La_laySections_73 : decode b_La_laySections 73 = .ok (.getfield 18, 3) := by decide +kernel
theorem d_La_laySections_76 : decode b_La_laySections 76 = .ok (.getfield 92, 3) := by decide +kernel
theorem d_La_laySections_79 : decode b_La_laySections 79 = .ok (.iload_n 2, 1) := by decide +kernel
theorem d_La_laySections_80 : decode b_La_laySections 80 = .ok (.iaload, 1) := by decide +kernel
theorem d_La_laySections_81 : decode b_La_laySections 81 = .ok (.aload_n 0, 1) := by decide +kernel
theorem d_La_laySections_82 : decode b_La_laySections 82 = .ok (.getfield 18, 3) := by decide +kernel
theorem d_La_laySections_85 : decode b_La_laySections 85 = .ok (.getfield 95, 3) := by decide +kernel
theorem d_La_laySections_88 : decode b_La_laySections 88 = .ok (.iload_n 2, 1) := by decide +kernel
theorem d_La_laySections_89 : decode b_La_laySections 89 = .ok (.iaload, 1) := by decide +kernel
theorem d_La_laySections_90 : decode b_La_laySections 90 = .ok (.invokevirtual 54, 3) := by decide +kernel
theorem d_La_laySections_93 : decode b_La_laySections 93 = .ok (.iastore, 1) := by decide +kernel
theorem d_La_laySections_94 : decode b_La_laySections 94 = .ok (.iinc 2 1, 3) := by decide +kernel
theorem d_La_laySections_97 : decode b_La_laySections 97 = .ok (.goto (-95), 3) := by decide +kernel
theorem d_La_laySections_100 : decode b_La_laySections 100 = .ok (.return_, 1) := by decide +kernel
theorem d_La_lay_0 : decode b_La_lay 0 = .ok (.aload_n 0, 1) := by decide +kernel
theorem d_La_lay_1 : decode b_La_lay 1 = .ok (.dup, 1) := by decide +kernel
theorem d_La_lay_2 : decode b_La_lay 2 = .ok (.getfield 38, 3) := by decide +kernel
theorem d_La_lay_5 : decode b_La_lay 5 = .ok (.iconst 1, 1) := by decide +kernel
theorem d_La_lay_6 : decode b_La_lay 6 = .ok (.iadd, 1) := by decide +kernel
theorem d_La_lay_7 : decode b_La_lay 7 = .ok (.putfield 38, 3) := by decide +kernel
theorem d_La_lay_10 : decode b_La_lay 10 = .ok (.aload_n 0, 1) := by decide +kernel
theorem d_La_lay_11 : decode b_La_lay 11 = .ok (.aload_n 0, 1) := by decide +kernel
theorem d_La_lay_12 : decode b_La_lay 12 = .ok (.getfield 34, 3) := by decide +kernel
theorem d_La_lay_15 : decode b_La_lay 15 = .ok (.putfield 47, 3) := by decide +kernel
theorem d_La_lay_18 : decode b_La_lay 18 = .ok (.aload_n 0, 1) := by decide +kernel
theorem d_La_lay_19 : decode b_La_lay 19 = .ok (.iconst 0, 1) := by decide +kernel
theorem d_La_lay_20 : decode b_La_lay 20 = .ok (.invokevirtual 50, 3) := by decide +kernel
theorem d_La_lay_23 : decode b_La_lay 23 = .ok (.aload_n 0, 1) := by decide +kernel
theorem d_La_lay_24 : decode b_La_lay 24 = .ok (.aload_n 0, 1) := by decide +kernel
theorem d_La_lay_25 : decode b_La_lay 25 = .ok (.iload_n 1, 1) := by decide +kernel
theorem d_La_lay_26 : decode b_La_lay 26 = .ok (.bipush 8, 2) := by decide +kernel
theorem d_La_lay_28 : decode b_La_lay 28 = .ok (.imul, 1) := by decide +kernel
theorem d_La_lay_29 : decode b_La_lay 29 = .ok (.iconst 4, 1) := by decide +kernel
theorem d_La_lay_30 : decode b_La_lay 30 = .ok (.invokevirtual 54, 3) := by decide +kernel
theorem d_La_lay_33 : decode b_La_lay 33 = .ok (.putfield 58, 3) := by decide +kernel
theorem d_La_lay_36 : decode b_La_lay 36 = .ok (.aload_n 0, 1) := by decide +kernel
theorem d_La_lay_37 : decode b_La_lay 37 = .ok (.iconst 1, 1) := by decide +kernel
theorem d_La_lay_38 : decode b_La_lay 38 = .ok (.invokevirtual 50, 3) := by decide +kernel
theorem d_La_lay_41 : decode b_La_lay 41 = .ok (.aload_n 0, 1) := by decide +kernel
theorem d_La_lay_42 : decode b_La_lay 42 = .ok (.iconst 2, 1) := by decide +kernel
theorem d_La_lay_43 : decode b_La_lay 43 = .ok (.invokevirtual 50, 3) := by decide +kernel
theorem d_La_lay_46 : decode b_La_lay 46 = .ok (.iconst 0, 1) := by decide +kernel
theorem d_La_lay_47 : decode b_La_lay 47 = .ok (.istore_n 2, 1) := by decide +kernel
theorem d_La_lay_48 : decode b_La_lay 48 = .ok (.iload_n 2, 1) := by decide +kernel
theorem d_La_lay_49 : decode b_La_lay 49 = .ok (.sipush 200, 3) := by decide +kernel
theorem d_La_lay_52 : decode b_La_lay 52 = .ok (.if_icmp .ge 41, 3) := by decide +kernel
theorem d_La_lay_55 : decode b_La_lay 55 = .ok (.aload_n 0, 1) := by decide +kernel
theorem d_La_lay_56 : decode b_La_lay 56 = .ok (.getfield 26, 3) := by decide +kernel
theorem d_La_lay_59 : decode b_La_lay 59 = .ok (.getfield 61, 3) := by decide +kernel
theorem d_La_lay_62 : decode b_La_lay 62 = .ok (.iload_n 2, 1) := by decide +kernel
theorem d_La_lay_63 : decode b_La_lay 63 = .ok (.baload, 1) := by decide +kernel
theorem d_La_lay_64 : decode b_La_lay 64 = .ok (.ifCond .eq 23, 3) := by decide +kernel
theorem d_La_lay_67 : decode b_La_lay 67 = .ok (.aload_n 0, 1) := by decide +kernel
theorem d_La_lay_68 : decode b_La_lay 68 = .ok (.getfield 15, 3) := by decide +kernel
theorem d_La_lay_71 : decode b_La_lay 71 = .ok (.iload_n 2, 1) := by decide +kernel
theorem d_La_lay_72 : decode b_La_lay 72 = .ok (.aload_n 0, 1) := by decide +kernel
theorem d_La_lay_73 : decode b_La_lay 73 = .ok (.aload_n 0, 1) := by decide +kernel
theorem d_La_lay_74 : decode b_La_lay 74 = .ok (.getfield 22, 3) := by decide +kernel
theorem d_La_lay_77 : decode b_La_lay 77 = .ok (.getfield 67, 3) := by decide +kernel
theorem d_La_lay_80 : decode b_La_lay 80 = .ok (.iload_n 2, 1) := by decide +kernel
theorem d_La_lay_81 : decode b_La_lay 81 = .ok (.iaload, 1) := by decide +kernel
theorem d_La_lay_82 : decode b_La_lay 82 = .ok (.iconst 4, 1) := by decide +kernel
theorem d_La_lay_83 : decode b_La_lay 83 = .ok (.invokevirtual 54, 3) := by decide +kernel
theorem d_La_lay_86 : decode b_La_lay 86 = .ok (.iastore, 1) := by decide +kernel
theorem d_La_lay_87 : decode b_La_lay 87 = .ok (.iinc 2 1, 3) := by decide +kernel
theorem d_La_lay_90 : decode b_La_lay 90 = .ok (.goto (-42), 3) := by decide +kernel
theorem d_La_lay_93 : decode b_La_lay 93 = .ok (.return_, 1) := by decide +kernel
theorem d_fill53_0 : decode b_fill53 0 = .ok (.iconst 0, 1) := by decide +kernel
theorem d_fill53_1 : decode b_fill53 1 = .ok (.istore_n 2, 1) := by decide +kernel
theorem d_fill53_2 : decode b_fill53 2 = .ok (.aload_n 0, 1) := by decide +kernel
theorem d_fill53_3 : decode b_fill53 3 = .ok (.arraylength, 1) := by decide +kernel
theorem d_fill53_4 : decode b_fill53 4 = .ok (.istore_n 3, 1) := by decide +kernel
theorem d_fill53_5 : decode b_fill53 5 = .ok (.iload_n 2, 1) := by decide +kernel
theorem d_fill53_6 : decode b_fill53 6 = .ok (.iload_n 3, 1) := by decide +kernel
theorem d_fill53_7 : decode b_fill53 7 = .ok (.if_icmp .ge 13, 3) := by decide +kernel
theorem d_fill53_10 : decode b_fill53 10 = .ok (.aload_n 0, 1) := by decide +kernel
theorem d_fill53_11 : decode b_fill53 11 = .ok (.iload_n 2, 1) := by decide +kernel
theorem d_fill53_12 : decode b_fill53 12 = .ok (.iload_n 1, 1) := by decide +kernel
theorem d_fill53_13 : decode b_fill53 13 = .ok (.iastore, 1) := by decide +kernel
theorem d_fill53_14 : decode b_fill53 14 = .ok (.iinc 2 1, 3) := by decide +kernel
theorem d_fill53_17 : decode b_fill53 17 = .ok (.goto (-12), 3) := by decide +kernel
theorem d_fill53_20 : decode b_fill53 20 = .ok (.return_, 1) := by decide +kernel
theorem d_Is_settle_0 : decode b_Is_settle 0 = .ok (.aload_n 0, 1) := by decide +kernel
theorem d_Is_settle_1 : decode b_Is_settle 1 = .ok (.iconst 0, 1) := by decide +kernel
theorem d_Is_settle_2 : decode b_Is_settle 2 = .ok (.putfield 44, 3) := by decide +kernel
theorem d_Is_settle_5 : decode b_Is_settle 5 = .ok (.aload_n 0, 1) := by decide +kernel
theorem d_Is_settle_6 : decode b_Is_settle 6 = .ok (.iconst 0, 1) := by decide +kernel
theorem d_Is_settle_7 : decode b_Is_settle 7 = .ok (.putfield 48, 3) := by decide +kernel
theorem d_Is_settle_10 : decode b_Is_settle 10 = .ok (.aload_n 0, 1) := by decide +kernel
theorem d_Is_settle_11 : decode b_Is_settle 11 = .ok (.getfield 21, 3) := by decide +kernel
theorem d_Is_settle_14 : decode b_Is_settle 14 = .ok (.iconst (-1), 1) := by decide +kernel
theorem d_Is_settle_15 : decode b_Is_settle 15 = .ok (.invokestatic 51, 3) := by decide +kernel
theorem d_Is_settle_18 : decode b_Is_settle 18 = .ok (.aload_n 0, 1) := by decide +kernel
theorem d_Is_settle_19 : decode b_Is_settle 19 = .ok (.getfield 40, 3) := by decide +kernel
theorem d_Is_settle_22 : decode b_Is_settle 22 = .ok (.aload_n 0, 1) := by decide +kernel
theorem d_Is_settle_23 : decode b_Is_settle 23 = .ok (.getfield 44, 3) := by decide +kernel
theorem d_Is_settle_26 : decode b_Is_settle 26 = .ok (.invokevirtual 57, 3) := by decide +kernel
theorem d_Is_settle_29 : decode b_Is_settle 29 = .ok (.iconst 0, 1) := by decide +kernel
theorem d_Is_settle_30 : decode b_Is_settle 30 = .ok (.istore_n 1, 1) := by decide +kernel
theorem d_Is_settle_31 : decode b_Is_settle 31 = .ok (.iload_n 1, 1) := by decide +kernel
theorem d_Is_settle_32 : decode b_Is_settle 32 = .ok (.sipush 600, 3) := by decide +kernel
theorem d_Is_settle_35 : decode b_Is_settle 35 = .ok (.if_icmp .gt 43, 3) := by decide +kernel
theorem d_Is_settle_38 : decode b_Is_settle 38 = .ok (.aload_n 0, 1) := by decide +kernel
theorem d_Is_settle_39 : decode b_Is_settle 39 = .ok (.invokevirtual 63, 3) := by decide +kernel
theorem d_Is_settle_42 : decode b_Is_settle 42 = .ok (.istore_n 2, 1) := by decide +kernel
theorem d_Is_settle_43 : decode b_Is_settle 43 = .ok (.iload_n 2, 1) := by decide +kernel
theorem d_Is_settle_44 : decode b_Is_settle 44 = .ok (.iconst (-1), 1) := by decide +kernel
theorem d_Is_settle_45 : decode b_Is_settle 45 = .ok (.if_icmp .ne 6, 3) := by decide +kernel
theorem d_Is_settle_48 : decode b_Is_settle 48 = .ok (.goto 30, 3) := by decide +kernel
theorem d_Is_settle_51 : decode b_Is_settle 51 = .ok (.aload_n 0, 1) := by decide +kernel
theorem d_Is_settle_52 : decode b_Is_settle 52 = .ok (.iload_n 2, 1) := by decide +kernel
theorem d_Is_settle_53 : decode b_Is_settle 53 = .ok (.invokevirtual 67, 3) := by decide +kernel
theorem d_Is_settle_56 : decode b_Is_settle 56 = .ok (.ifCond .ne 5, 3) := by decide +kernel
theorem d_Is_settle_59 : decode b_Is_settle 59 = .ok (.iconst 0, 1) := by decide +kernel
theorem d_Is_settle_60 : decode b_Is_settle 60 = .ok (.ireturn, 1) := by decide +kernel
theorem d_Is_settle_61 : decode b_Is_settle 61 = .ok (.aload_n 0, 1) := by decide +kernel
theorem d_Is_settle_62 : decode b_Is_settle 62 = .ok (.getfield 40, 3) := by decide +kernel
theorem d_Is_settle_65 : decode b_Is_settle 65 = .ok (.aload_n 0, 1) := by decide +kernel
theorem d_Is_settle_66 : decode b_Is_settle 66 = .ok (.getfield 44, 3) := by decide +kernel
theorem d_Is_settle_69 : decode b_Is_settle 69 = .ok (.invokevirtual 57, 3) := by decide +kernel
theorem d_Is_settle_72 : decode b_Is_settle 72 = .ok (.iinc 1 1, 3) := by decide +kernel
theorem d_Is_settle_75 : decode b_Is_settle 75 = .ok (.goto (-44), 3) := by decide +kernel
theorem d_Is_settle_78 : decode b_Is_settle 78 = .ok (.iconst 1, 1) := by decide +kernel
theorem d_Is_settle_79 : decode b_Is_settle 79 = .ok (.ireturn, 1) := by decide +kernel
theorem d_fill48_0 : decode b_fill48 0 = .ok (.iconst 0, 1) := by decide +kernel
theorem d_fill48_1 : decode b_fill48 1 = .ok (.istore_n 2, 1) := by decide +kernel
theorem d_fill48_2 : decode b_fill48 2 = .ok (.aload_n 0, 1) := by decide +kernel
theorem d_fill48_3 : decode b_fill48 3 = .ok (.arraylength, 1) := by decide +kernel
theorem d_fill48_4 : decode b_fill48 4 = .ok (.istore_n 3, 1) := by decide +kernel
theorem d_fill48_5 : decode b_fill48 5 = .ok (.iload_n 2, 1) := by decide +kernel
theorem d_fill48_6 : decode b_fill48 6 = .ok (.iload_n 3, 1) := by decide +kernel
theorem d_fill48_7 : decode b_fill48 7 = .ok (.if_icmp .ge 13, 3) := by decide +kernel
theorem d_fill48_10 : decode b_fill48 10 = .ok (.aload_n 0, 1) := by decide +kernel
theorem d_fill48_11 : decode b_fill48 11 = .ok (.iload_n 2, 1) := by decide +kernel
theorem d_fill48_12 : decode b_fill48 12 = .ok (.iload_n 1, 1) := by decide +kernel
theorem d_fill48_13 : decode b_fill48 13 = .ok (.iastore, 1) := by decide +kernel
theorem d_fill48_14 : decode b_fill48 14 = .ok (.iinc 2 1, 3) := by decide +kernel
theorem d_fill48_17 : decode b_fill48 17 = .ok (.goto (-12), 3) := by decide +kernel
theorem d_fill48_20 : decode b_fill48 20 = .ok (.return_, 1) := by decide +kernel
theorem d_fill49_0 : decode b_fill49 0 = .ok (.iconst 0, 1) := by decide +kernel
theorem d_fill49_1 : decode b_fill49 1 = .ok (.istore_n 2, 1) := by decide +kernel
theorem d_fill49_2 : decode b_fill49 2 = .ok (.aload_n 0, 1) := by decide +kernel
theorem d_fill49_3 : decode b_fill49 3 = .ok (.arraylength, 1) := by decide +kernel
theorem d_fill49_4 : decode b_fill49 4 = .ok (.istore_n 3, 1) := by decide +kernel
theorem d_fill49_5 : decode b_fill49 5 = .ok (.iload_n 2, 1) := by decide +kernel
theorem d_fill49_6 : decode b_fill49 6 = .ok (.iload_n 3, 1) := by decide +kernel
theorem d_fill49_7 : decode b_fill49 7 = .ok (.if_icmp .ge 13, 3) := by decide +kernel
theorem d_fill49_10 : decode b_fill49 10 = .ok (.aload_n 0, 1) := by decide +kernel
theorem d_fill49_11 : decode b_fill49 11 = .ok (.iload_n 2, 1) := by decide +kernel
theorem d_fill49_12 : decode b_fill49 12 = .ok (.iload_n 1, 1) := by decide +kernel
theorem d_fill49_13 : decode b_fill49 13 = .ok (.iastore, 1) := by decide +kernel
theorem d_fill49_14 : decode b_fill49 14 = .ok (.iinc 2 1, 3) := by decide +kernel
theorem d_fill49_17 : decode b_fill49 17 = .ok (.goto (-12), 3) := by decide +kernel
theorem d_fill49_20 : decode b_fill49 20 = .ok (.return_, 1) := by decide +kernel
theorem d_La_begin_0 : decode b_La_begin 0 = .ok (.aload_n 0, 1) := by decide +kernel
theorem d_La_begin_1 : decode b_La_begin 1 = .ok (.iload_n 1, 1) := by decide +kernel
theorem d_La_begin_2 : decode b_La_begin 2 = .ok (.putfield 34, 3) := by decide +kernel
theorem d_La_begin_5 : decode b_La_begin 5 = .ok (.aload_n 0, 1) := by decide +kernel
theorem d_La_begin_6 : decode b_La_begin 6 = .ok (.iconst 0, 1) := by decide +kernel
theorem d_La_begin_7 : decode b_La_begin 7 = .ok (.putfield 38, 3) := by decide +kernel
theorem d_La_begin_10 : decode b_La_begin 10 = .ok (.aload_n 0, 1) := by decide +kernel
theorem d_La_begin_11 : decode b_La_begin 11 = .ok (.getfield 9, 3) := by decide +kernel
theorem d_La_begin_14 : decode b_La_begin 14 = .ok (.iconst (-1), 1) := by decide +kernel
theorem d_La_begin_15 : decode b_La_begin 15 = .ok (.invokestatic 41, 3) := by decide +kernel
theorem d_La_begin_18 : decode b_La_begin 18 = .ok (.aload_n 0, 1) := by decide +kernel
theorem d_La_begin_19 : decode b_La_begin 19 = .ok (.getfield 15, 3) := by decide +kernel
theorem d_La_begin_22 : decode b_La_begin 22 = .ok (.iconst (-1), 1) := by decide +kernel
theorem d_La_begin_23 : decode b_La_begin 23 = .ok (.invokestatic 41, 3) := by decide +kernel
theorem d_La_begin_26 : decode b_La_begin 26 = .ok (.return_, 1) := by decide +kernel
theorem d_Is_goalOf_0 : decode b_Is_goalOf 0 = .ok (.aload_n 0, 1) := by decide +kernel
theorem d_Is_goalOf_1 : decode b_Is_goalOf 1 = .ok (.getfield 21, 3) := by decide +kernel
theorem d_Is_goalOf_4 : decode b_Is_goalOf 4 = .ok (.iload_n 1, 1) := by decide +kernel
theorem d_Is_goalOf_5 : decode b_Is_goalOf 5 = .ok (.iaload, 1) := by decide +kernel
theorem d_Is_goalOf_6 : decode b_Is_goalOf 6 = .ok (.istore_n 3, 1) := by decide +kernel
theorem d_Is_goalOf_7 : decode b_Is_goalOf 7 = .ok (.iload_n 3, 1) := by decide +kernel
theorem d_Is_goalOf_8 : decode b_Is_goalOf 8 = .ok (.iconst (-1), 1) := by decide +kernel
theorem d_Is_goalOf_9 : decode b_Is_goalOf 9 = .ok (.if_icmp .ne 7, 3) := by decide +kernel
theorem d_Is_goalOf_12 : decode b_Is_goalOf 12 = .ok (.iload_n 2, 1) := by decide +kernel
theorem d_Is_goalOf_13 : decode b_Is_goalOf 13 = .ok (.goto 15, 3) := by decide +kernel
theorem d_Is_goalOf_16 : decode b_Is_goalOf 16 = .ok (.aload_n 0, 1) := by decide +kernel
theorem d_Is_goalOf_17 : decode b_Is_goalOf 17 = .ok (.getfield 40, 3) := by decide +kernel
theorem d_Is_goalOf_20 : decode b_Is_goalOf 20 = .ok (.getfield 134, 3) := by decide +kernel
theorem d_Is_goalOf_23 : decode b_Is_goalOf 23 = .ok (.iload_n 3, 1) := by decide +kernel
theorem d_Is_goalOf_24 : decode b_Is_goalOf 24 = .ok (.bipush 8, 2) := by decide +kernel
theorem d_Is_goalOf_26 : decode b_Is_goalOf 26 = .ok (.imul, 1) := by decide +kernel
theorem d_Is_goalOf_27 : decode b_Is_goalOf 27 = .ok (.iadd, 1) := by decide +kernel
theorem d_Is_goalOf_28 : decode b_Is_goalOf 28 = .ok (.ireturn, 1) := by decide +kernel
theorem d_Me_isMended_0 : decode b_Me_isMended 0 = .ok (.aload_n 0, 1) := by decide +kernel
theorem d_Me_isMended_1 : decode b_Me_isMended 1 = .ok (.getfield 15, 3) := by decide +kernel
theorem d_Me_isMended_4 : decode b_Me_isMended 4 = .ok (.getfield 54, 3) := by decide +kernel
theorem d_Me_isMended_7 : decode b_Me_isMended 7 = .ok (.iload_n 1, 1) := by decide +kernel
theorem d_Me_isMended_8 : decode b_Me_isMended 8 = .ok (.iaload, 1) := by decide +kernel
theorem d_Me_isMended_9 : decode b_Me_isMended 9 = .ok (.iload_n 2, 1) := by decide +kernel
theorem d_Me_isMended_10 : decode b_Me_isMended 10 = .ok (.if_icmp .ne 26, 3) := by decide +kernel
theorem d_Me_isMended_13 : decode b_Me_isMended 13 = .ok (.aload_n 0, 1) := by decide +kernel
theorem d_Me_isMended_14 : decode b_Me_isMended 14 = .ok (.getfield 19, 3) := by decide +kernel
theorem d_Me_isMended_17 : decode b_Me_isMended 17 = .ok (.aload_n 0, 1) := by decide +kernel
theorem d_Me_isMended_18 : decode b_Me_isMended 18 = .ok (.getfield 15, 3) := by decide +kernel
theorem d_Me_isMended_21 : decode b_Me_isMended 21 = .ok (.getfield 57, 3) := by decide +kernel
theorem d_Me_isMended_24 : decode b_Me_isMended 24 = .ok (.iload_n 1, 1) := by decide +kernel
theorem d_Me_isMended_25 : decode b_Me_isMended 25 = .ok (.iaload, 1) := by decide +kernel
theorem d_Me_isMended_26 : decode b_Me_isMended 26 = .ok (.invokevirtual 60, 3) := by decide +kernel
theorem d_Me_isMended_29 : decode b_Me_isMended 29 = .ok (.ifCond .eq 7, 3) := by decide +kernel
theorem d_Me_isMended_32 : decode b_Me_isMended 32 = .ok (.iconst 1, 1) := by decide +kernel
theorem d_Me_isMended_33 : decode b_Me_isMended 33 = .ok (.goto 4, 3) := by decide +kernel
theorem d_Me_isMended_36 : decode b_Me_isMended 36 = .ok (.iconst 0, 1) := by decide +kernel
theorem d_Me_isMended_37 : decode b_Me_isMended 37 = .ok (.ireturn, 1) := by decide +kernel
theorem d_Me_firstFar_0 : decode b_Me_firstFar 0 = .ok (.iconst 0, 1) := by decide +kernel
theorem d_Me_firstFar_1 : decode b_Me_firstFar 1 = .ok (.istore_n 1, 1) := by decide +kernel
theorem d_Me_firstFar_2 : decode b_Me_firstFar 2 = .ok (.iload_n 1, 1) := by decide +kernel
theorem d_Me_firstFar_3 : decode b_Me_firstFar 3 = .ok (.aload_n 0, 1) := by decide +kernel
theorem d_Me_firstFar_4 : decode b_Me_firstFar 4 = .ok (.getfield 15, 3) := by decide +kernel
theorem d_Me_firstFar_7 : decode b_Me_firstFar 7 = .ok (.getfield 27, 3) := by decide +kernel
theorem d_Me_firstFar_10 : decode b_Me_firstFar 10 = .ok (.if_icmp .ge 57, 3) := by decide +kernel
theorem d_Me_firstFar_13 : decode b_Me_firstFar 13 = .ok (.aload_n 0, 1) := by decide +kernel
theorem d_Me_firstFar_14 : decode b_Me_firstFar 14 = .ok (.getfield 15, 3) := by decide +kernel
theorem d_Me_firstFar_17 : decode b_Me_firstFar 17 = .ok (.getfield 33, 3) := by decide +kernel
theorem d_Me_firstFar_20 : decode b_Me_firstFar 20 = .ok (.iload_n 1, 1) := by decide +kernel
theorem d_Me_firstFar_21 : decode b_Me_firstFar 21 = .ok (.iaload, 1) := by decide +kernel
theorem d_Me_firstFar_22 : decode b_Me_firstFar 22 = .ok (.istore_n 2, 1) := by decide +kernel
theorem d_Me_firstFar_23 : decode b_Me_firstFar 23 = .ok (.aload_n 0, 1) := by decide +kernel
theorem d_Me_firstFar_24 : decode b_Me_firstFar 24 = .ok (.iload_n 2, 1) := by decide +kernel
theorem d_Me_firstFar_25 : decode b_Me_firstFar 25 = .ok (.iconst 4, 1) := by decide +kernel
theorem d_Me_firstFar_26 : decode b_Me_firstFar 26 = .ok (.invokevirtual 37, 3) := by decide +kernel
theorem d_Me_firstFar_29 : decode b_Me_firstFar 29 = .ok (.ifCond .eq 32, 3) := by decide +kernel
theorem d_Me_firstFar_32 : decode b_Me_firstFar 32 = .ok (.aload_n 0, 1) := by decide +kernel
theorem d_Me_firstFar_33 : decode b_Me_firstFar 33 = .ok (.getfield 23, 3) := by decide +kernel
theorem d_Me_firstFar_36 : decode b_Me_firstFar 36 = .ok (.iload_n 2, 1) := by decide +kernel
theorem d_Me_firstFar_37 : decode b_Me_firstFar 37 = .ok (.aload_n 0, 1) := by decide +kernel
theorem d_Me_firstFar_38 : decode b_Me_firstFar 38 = .ok (.getfield 23, 3) := by decide +kernel
theorem d_Me_firstFar_41 : decode b_Me_firstFar 41 = .ok (.iload_n 2, 1) := by decide +kernel
theorem d_Me_firstFar_42 : decode b_Me_firstFar 42 = .ok (.aload_n 0, 1) := by decide +kernel
theorem d_Me_firstFar_43 : decode b_Me_firstFar 43 = .ok (.getfield 23, 3) := by decide +kernel
theorem d_Me_firstFar_46 : decode b_Me_firstFar 46 = .ok (.iload_n 2, 1) := by decide +kernel
theorem d_Me_firstFar_47 : decode b_Me_firstFar 47 = .ok (.invokevirtual 41, 3) := by decide +kernel
theorem d_Me_firstFar_50 : decode b_Me_firstFar 50 = .ok (.invokevirtual 47, 3) := by decide +kernel
theorem d_Me_firstFar_53 : decode b_Me_firstFar 53 = .ok (.invokevirtual 51, 3) := by decide +kernel
theorem d_Me_firstFar_56 : decode b_Me_firstFar 56 = .ok (.ifCond .ne 5, 3) := by decide +kernel
theorem d_Me_firstFar_59 : decode b_Me_firstFar 59 = .ok (.iload_n 2, 1) := by decide +kernel
theorem d_Me_firstFar_60 : decode b_Me_firstFar 60 = .ok (.ireturn, 1) := by decide +kernel
theorem d_Me_firstFar_61 : decode b_Me_firstFar 61 = .ok (.iinc 1 1, 3) := by decide +kernel
theorem d_Me_firstFar_64 : decode b_Me_firstFar 64 = .ok (.goto (-62), 3) := by decide +kernel
theorem d_Me_firstFar_67 : decode b_Me_firstFar 67 = .ok (.iconst (-1), 1) := by decide +kernel
theorem d_Me_firstFar_68 : decode b_Me_firstFar 68 = .ok (.ireturn, 1) := by decide +kernel
