theorem fl_Fo_30 : FL R_Fo 30 8 3 := ⟨R_Fo, F_Fo, N_Fo, rfl, by decide, i_Fo, (mw 414 (by decide +kernel))⟩
theorem fl_Fo_55 : FL R_Fo 55 7 4 := ⟨R_Rc, F_Rc, N_Rc, rfl, by decide, i_Rc, (mw 381 (by decide +kernel))⟩
theorem fl_Fo_61 : FL R_Fo 61 2 5 := ⟨R_Se, F_Se, N_Se, rfl, by decide, i_Se, (mw 169 (by decide +kernel))⟩
theorem fl_Fo_64 : FL R_Fo 64 2 9 := ⟨R_Se, F_Se, N_Se, rfl, by decide, i_Se, (mw 181 (by decide +kernel))⟩
theorem fl_Fo_9 : FL R_Fo 9 8 4 := ⟨R_Fo, F_Fo, N_Fo, rfl, by decide, i_Fo, (mw 415 (by decide +kernel))⟩
theorem ml_Fo_40 : MLb R_Fo 40 y_Fo_mayFold b_Fo_mayFold 2 (some .boolean) 1 := ⟨(mw 1269 (by decide +kernel)), (mw 1266 (by decide +kernel)), (mw 91 (by decide +kernel)), by decide +kernel⟩
theorem mv_Fo_mayFold : MLv y_Fo_mayFold := ⟨(mw 1268 (by decide +kernel)), (mw 23 (by decide +kernel))⟩
theorem ml_Fo_67 : MLb R_Fo 67 y_Fo_looksSame b_Fo_looksSame 3 (some .boolean) 2 := ⟨(mw 1277 (by decide +kernel)), (mw 1274 (by decide +kernel)), (mw 91 (by decide +kernel)), by decide +kernel⟩
theorem mv_Fo_looksSame : MLv y_Fo_looksSame := ⟨(mw 1276 (by decide +kernel)), (mw 25 (by decide +kernel))⟩
theorem fl_Fo_133 : FL R_Fo 133 6 7 := ⟨R_Na, F_Na, N_Na, rfl, by decide, i_Na, (mw 344 (by decide +kernel))⟩
theorem ml_Fo_130 : MLb R_Fo 130 y_Fo_leaderOfMeant b_Fo_leaderOfMeant 3 (some .int) 1 := ⟨(mw 1311 (by decide +kernel)), (mw 1308 (by decide +kernel)), (mw 91 (by decide +kernel)), by decide +kernel⟩
theorem mv_Fo_leaderOfMeant : MLv y_Fo_leaderOfMeant := ⟨(mw 1309 (by decide +kernel)), (mw 1310 (by decide +kernel))⟩
theorem fl_Fo_15 : FL R_Fo 15 8 5 := ⟨R_Fo, F_Fo, N_Fo, rfl, by decide, i_Fo, (mw 418 (by decide +kernel))⟩
theorem ml_Fo_127 : MLb R_Fo 127 y_Fo_hasSameTargets b_Fo_hasSameTargets 6 (some .boolean) 2 := ⟨(mw 1307 (by decide +kernel)), (mw 1304 (by decide +kernel)), (mw 91 (by decide +kernel)), by decide +kernel⟩
theorem mv_Fo_hasSameTargets : MLv y_Fo_hasSameTargets := ⟨(mw 1306 (by decide +kernel)), (mw 31 (by decide +kernel))⟩
theorem fl_Fo_34 : FL R_Fo 34 2 0 := ⟨R_Se, F_Se, N_Se, rfl, by decide, i_Se, (mw 155 (by decide +kernel))⟩
theorem ml_Fo_118 : MLb R_Fo 118 y_Fo_firstOfSameTargets b_Fo_firstOfSameTargets 3 (some .int) 1 := ⟨(mw 1303 (by decide +kernel)), (mw 1300 (by decide +kernel)), (mw 91 (by decide +kernel)), by decide +kernel⟩
theorem mv_Fo_firstOfSameTargets : MLv y_Fo_firstOfSameTargets := ⟨(mw 1302 (by decide +kernel)), (mw 30 (by decide +kernel))⟩
theorem mc_Fo_121 : Cond.methodLink R_Fo 121 arraycopyName ∈ ALLW := (mw 1312 (by decide +kernel))
theorem ml_Fo_44 : MLb R_Fo 44 y_Fo_firstOfSameLook b_Fo_firstOfSameLook 3 (some .int) 1 := ⟨(mw 1273 (by decide +kernel)), (mw 1270 (by decide +kernel)), (mw 91 (by decide +kernel)), by decide +kernel⟩
theorem mv_Fo_firstOfSameLook : MLv y_Fo_firstOfSameLook := ⟨(mw 1272 (by decide +kernel)), (mw 24 (by decide +kernel))⟩
theorem ml_Fo_48 : MLb R_Fo 48 y_Fo_split b_Fo_split 3 (some .boolean) 0 := ⟨(mw 1299 (by decide +kernel)), (mw 1296 (by decide +kernel)), (mw 91 (by decide +kernel)), by decide +kernel⟩
theorem mv_Fo_split : MLv y_Fo_split := ⟨(mw 1298 (by decide +kernel)), (mw 29 (by decide +kernel))⟩
theorem fl_Is_40 : FL R_Is 40 10 4 := ⟨R_Is, F_Is, N_Is, rfl, by decide, i_Is, (mw 488 (by decide +kernel))⟩
theorem fl_Is_128 : FL R_Is 128 9 8 := ⟨R_La, F_La, N_La, rfl, by decide, i_La, (mw 453 (by decide +kernel))⟩
theorem fl_Is_28 : FL R_Is 28 10 1 := ⟨R_Is, F_Is, N_Is, rfl, by decide, i_Is, (mw 485 (by decide +kernel))⟩
theorem fl_Is_88 : FL R_Is 88 4 1 := ⟨R_Re, F_Re, N_Re, rfl, by decide, i_Re, (mw 258 (by decide +kernel))⟩
theorem fl_Is_131 : FL R_Is 131 4 2 := ⟨R_Re, F_Re, N_Re, rfl, by decide, i_Re, (mw 263 (by decide +kernel))⟩
theorem ml_Is_137 : MLb R_Is 137 y_Is_placeOf b_Is_placeOf 2 (some .int) 1 := ⟨(mw 1370 (by decide +kernel)), (mw 1367 (by decide +kernel)), (mw 93 (by decide +kernel)), by decide +kernel⟩
theorem mv_Is_placeOf : MLv y_Is_placeOf := ⟨(mw 1368 (by decide +kernel)), (mw 1369 (by decide +kernel))⟩
theorem kd_Is_140 : Cond.constantLong R_Is 140 4 ∈ ALLW := (mw 1371 (by decide +kernel))
theorem kd_Is_142 : Cond.constantLong R_Is 142 (-131072) ∈ ALLW := (mw 1372 (by decide +kernel))
theorem kd_Is_144 : Cond.constantLong R_Is 144 131068 ∈ ALLW := (mw 1373 (by decide +kernel))
theorem fl_La_26 : FL R_La 26 9 2 := ⟨R_La, F_La, N_La, rfl, by decide, i_La, (mw 440 (by decide +kernel))⟩
theorem fl_La_77 : FL R_La 77 7 4 := ⟨R_Rc, F_Rc, N_Rc, rfl, by decide, i_Rc, (mw 380 (by decide +kernel))⟩
theorem fl_La_30 : FL R_La 30 9 3 := ⟨R_La, F_La, N_La, rfl, by decide, i_La, (mw 441 (by decide +kernel))⟩
theorem ml_La_83 : MLb R_La 83 y_Fo_isFolded b_Fo_isFolded 2 (some .boolean) 1 := ⟨(mw 1334 (by decide +kernel)), (mw 1331 (by decide +kernel)), (mw 91 (by decide +kernel)), by decide +kernel⟩
theorem mv_Fo_isFolded : MLv y_Fo_isFolded := ⟨(mw 1332 (by decide +kernel)), (mw 1333 (by decide +kernel))⟩
theorem fl_Is_91 : FL R_Is 91 4 3 := ⟨R_Re, F_Re, N_Re, rfl, by decide, i_Re, (mw 267 (by decide +kernel))⟩
theorem fl_Is_24 : FL R_Is 24 10 0 := ⟨R_Is, F_Is, N_Is, rfl, by decide, i_Is, (mw 484 (by decide +kernel))⟩
theorem fl_Is_94 : FL R_Is 94 2 5 := ⟨R_Se, F_Se, N_Se, rfl, by decide, i_Se, (mw 167 (by decide +kernel))⟩
theorem ml_Is_99 : MLb R_Is 99 y_La_isStanding b_La_isStanding 2 (some .boolean) 1 := ⟨(mw 1350 (by decide +kernel)), (mw 1347 (by decide +kernel)), (mw 92 (by decide +kernel)), by decide +kernel⟩
theorem mv_La_isStanding : MLv y_La_isStanding := ⟨(mw 1348 (by decide +kernel)), (mw 1349 (by decide +kernel))⟩
theorem fl_La_9 : FL R_La 9 9 8 := ⟨R_La, F_La, N_La, rfl, by decide, i_La, (mw 451 (by decide +kernel))⟩
theorem fl_La_15 : FL R_La 15 9 9 := ⟨R_La, F_La, N_La, rfl, by decide, i_La, (mw 455 (by decide +kernel))⟩
theorem fl_La_22 : FL R_La 22 9 1 := ⟨R_La, F_La, N_La, rfl, by decide, i_La, (mw 439 (by decide +kernel))⟩
theorem fl_La_98 : FL R_La 98 6 6 := ⟨R_Na, F_Na, N_Na, rfl, by decide, i_Na, (mw 338 (by decide +kernel))⟩
theorem fl_La_101 : FL R_La 101 6 7 := ⟨R_Na, F_Na, N_Na, rfl, by decide, i_Na, (mw 343 (by decide +kernel))⟩
theorem ml_La_104 : MLb R_La 104 y_La_startOf b_La_startOf 3 (some .int) 2 := ⟨(mw 1362 (by decide +kernel)), (mw 1359 (by decide +kernel)), (mw 92 (by decide +kernel)), by decide +kernel⟩
theorem mv_La_startOf : MLv y_La_startOf := ⟨(mw 1360 (by decide +kernel)), (mw 1361 (by decide +kernel))⟩
theorem fl_La_107 : FL R_La 107 6 8 := ⟨R_Na, F_Na, N_Na, rfl, by decide, i_Na, (mw 348 (by decide +kernel))⟩
theorem fl_Is_108 : FL R_Is 108 4 4 := ⟨R_Re, F_Re, N_Re, rfl, by decide, i_Re, (mw 271 (by decide +kernel))⟩
theorem ml_Is_125 : MLb R_Is 125 y_La_addressOf b_La_addressOf 2 (some .int) 1 := ⟨(mw 1358 (by decide +kernel)), (mw 1355 (by decide +kernel)), (mw 92 (by decide +kernel)), by decide +kernel⟩
theorem mv_La_addressOf : MLv y_La_addressOf := ⟨(mw 1356 (by decide +kernel)), (mw 1357 (by decide +kernel))⟩
theorem fl_Is_122 : FL R_Is 122 4 5 := ⟨R_Re, F_Re, N_Re, rfl, by decide, i_Re, (mw 275 (by decide +kernel))⟩
theorem fl_Is_71 : FL R_Is 71 4 0 := ⟨R_Re, F_Re, N_Re, rfl, by decide, i_Re, (mw 254 (by decide +kernel))⟩
theorem fl_Is_74 : FL R_Is 74 4 6 := ⟨R_Re, F_Re, N_Re, rfl, by decide, i_Re, (mw 279 (by decide +kernel))⟩
theorem fl_Is_21 : FL R_Is 21 10 10 := ⟨R_Is, F_Is, N_Is, rfl, by decide, i_Is, (mw 496 (by decide +kernel))⟩
theorem ml_Is_77 : MLb R_Is 77 y_Is_mayGo b_Is_mayGo 3 (some .boolean) 1 := ⟨(mw 1346 (by decide +kernel)), (mw 1343 (by decide +kernel)), (mw 93 (by decide +kernel)), by decide +kernel⟩
theorem mv_Is_mayGo : MLv y_Is_mayGo := ⟨(mw 1345 (by decide +kernel)), (mw 35 (by decide +kernel))⟩
theorem ml_Is_80 : MLb R_Is 80 y_Is_targetOf b_Is_targetOf 2 (some .int) 1 := ⟨(mw 1354 (by decide +kernel)), (mw 1351 (by decide +kernel)), (mw 93 (by decide +kernel)), by decide +kernel⟩
theorem mv_Is_targetOf : MLv y_Is_targetOf := ⟨(mw 1352 (by decide +kernel)), (mw 1353 (by decide +kernel))⟩
theorem ml_Is_84 : MLb R_Is 84 y_Is_isNear b_Is_isNear 5 (some .boolean) 2 := ⟨(mw 1366 (by decide +kernel)), (mw 1363 (by decide +kernel)), (mw 93 (by decide +kernel)), by decide +kernel⟩
theorem mv_Is_isNear : MLv y_Is_isNear := ⟨(mw 1364 (by decide +kernel)), (mw 1365 (by decide +kernel))⟩
theorem d_Fo_mayFold_0 : decode b_Fo_mayFold 0 = .ok (.aload_n 0, 1) := by decide +kernel
theorem d_Fo_mayFold_1 : decode b_Fo_mayFold 1 = .ok (.getfield 30, 3) := by decide +kernel
theorem d_Fo_mayFold_4 : decode b_Fo_mayFold 4 = .ok (.getfield 55, 3) := by decide +kernel
theorem d_Fo_mayFold_7 : decode b_Fo_mayFold 7 = .ok (.iload_n 1, 1) := by decide +kernel
theorem d_Fo_mayFold_8 : decode b_Fo_mayFold 8 = .ok (.baload, 1) := by decide +kernel
theorem d_Fo_mayFold_9 : decode b_Fo_mayFold 9 = .ok (.ifCond .eq 31, 3) := by decide +kernel
theorem d_Fo_mayFold_12 : decode b_Fo_mayFold 12 = .ok (.aload_n 0, 1) := by decide +kernel
theorem d_Fo_mayFold_13 : decode b_Fo_mayFold 13 = .ok (.getfield 18, 3) := by decide +kernel
theorem d_Fo_mayFold_16 : decode b_Fo_mayFold 16 = .ok (.getfield 61, 3) := by decide +kernel
theorem d_Fo_mayFold_19 : decode b_Fo_mayFold 19 = .ok (.iload_n 1, 1) := by decide +kernel
theorem d_Fo_mayFold_20 : decode b_Fo_mayFold 20 = .ok (.iaload, 1) := by decide +kernel
theorem d_Fo_mayFold_21 : decode b_Fo_mayFold 21 = .ok (.ifCond .ne 19, 3) := by decide +kernel
theorem d_Fo_mayFold_24 : decode b_Fo_mayFold 24 = .ok (.aload_n 0, 1) := by decide +kernel
theorem d_Fo_mayFold_25 : decode b_Fo_mayFold 25 = .ok (.getfield 18, 3) := by decide +kernel
theorem d_Fo_mayFold_28 : decode b_Fo_mayFold 28 = .ok (.getfield 64, 3) := by decide +kernel
theorem d_Fo_mayFold_31 : decode b_Fo_mayFold 31 = .ok (.iload_n 1, 1) := by decide +kernel
theorem d_Fo_mayFold_32 : decode b_Fo_mayFold 32 = .ok (.baload, 1) := by decide +kernel
theorem d_Fo_mayFold_33 : decode b_Fo_mayFold 33 = .ok (.ifCond .ne 7, 3) := by decide +kernel
theorem d_Fo_mayFold_36 : decode b_Fo_mayFold 36 = .ok (.iconst 1, 1) := by decide +kernel
theorem d_Fo_mayFold_37 : decode b_Fo_mayFold 37 = .ok (.goto 4, 3) := by decide +kernel
theorem d_Fo_mayFold_40 : decode b_Fo_mayFold 40 = .ok (.iconst 0, 1) := by decide +kernel
theorem d_Fo_mayFold_41 : decode b_Fo_mayFold 41 = .ok (.ireturn, 1) := by decide +kernel
theorem d_Fo_firstOfSameLook_0 : decode b_Fo_firstOfSameLook 0 = .ok (.iconst 0, 1) := by decide +kernel
theorem d_Fo_firstOfSameLook_1 : decode b_Fo_firstOfSameLook 1 = .ok (.istore_n 2, 1) := by decide +kernel
theorem d_Fo_firstOfSameLook_2 : decode b_Fo_firstOfSameLook 2 = .ok (.iload_n 2, 1) := by decide +kernel
theorem d_Fo_firstOfSameLook_3 : decode b_Fo_firstOfSameLook 3 = .ok (.iload_n 1, 1) := by decide +kernel
theorem d_Fo_firstOfSameLook_4 : decode b_Fo_firstOfSameLook 4 = .ok (.if_icmp .ge 38, 3) := by decide +kernel
theorem d_Fo_firstOfSameLook_7 : decode b_Fo_firstOfSameLook 7 = .ok (.aload_n 0, 1) := by decide +kernel
theorem d_Fo_firstOfSameLook_8 : decode b_Fo_firstOfSameLook 8 = .ok (.getfield 9, 3) := by decide +kernel
theorem d_Fo_firstOfSameLook_11 : decode b_Fo_firstOfSameLook 11 = .ok (.iload_n 2, 1) := by decide +kernel
theorem d_Fo_firstOfSameLook_12 : decode b_Fo_firstOfSameLook 12 = .ok (.iaload, 1) := by decide +kernel
theorem d_Fo_firstOfSameLook_13 : decode b_Fo_firstOfSameLook 13 = .ok (.iload_n 2, 1) := by decide +kernel
theorem d_Fo_firstOfSameLook_14 : decode b_Fo_firstOfSameLook 14 = .ok (.if_icmp .ne 22, 3) := by decide +kernel
theorem d_Fo_firstOfSameLook_17 : decode b_Fo_firstOfSameLook 17 = .ok (.aload_n 0, 1) := by decide +kernel
theorem d_Fo_firstOfSameLook_18 : decode b_Fo_firstOfSameLook 18 = .ok (.iload_n 2, 1) := by decide +kernel
theorem d_Fo_firstOfSameLook_19 : decode b_Fo_firstOfSameLook 19 = .ok (.invokevirtual 40, 3) := by decide +kernel
theorem d_Fo_firstOfSameLook_22 : decode b_Fo_firstOfSameLook 22 = .ok (.ifCond .eq 14, 3) := by decide +kernel
theorem d_Fo_firstOfSameLook_25 : decode b_Fo_firstOfSameLook 25 = .ok (.aload_n 0, 1) := by decide +kernel
theorem d_Fo_firstOfSameLook_26 : decode b_Fo_firstOfSameLook 26 = .ok (.iload_n 2, 1) := by decide +kernel
theorem d_Fo_firstOfSameLook_27 : decode b_Fo_firstOfSameLook 27 = .ok (.iload_n 1, 1) := by decide +kernel
theorem d_Fo_firstOfSameLook_28 : decode b_Fo_firstOfSameLook 28 = .ok (.invokevirtual 67, 3) := by decide +kernel
theorem d_Fo_firstOfSameLook_31 : decode b_Fo_firstOfSameLook 31 = .ok (.ifCond .eq 5, 3) := by decide +kernel
theorem d_Fo_firstOfSameLook_34 : decode b_Fo_firstOfSameLook 34 = .ok (.iload_n 2, 1) := by decide +kernel
theorem d_Fo_firstOfSameLook_35 : decode b_Fo_firstOfSameLook 35 = .ok (.ireturn, 1) := by decide +kernel
theorem d_Fo_firstOfSameLook_36 : decode b_Fo_firstOfSameLook 36 = .ok (.iinc 2 1, 3) := by decide +kernel
theorem d_Fo_firstOfSameLook_39 : decode b_Fo_firstOfSameLook 39 = .ok (.goto (-37), 3) := by decide +kernel
theorem d_Fo_firstOfSameLook_42 : decode b_Fo_firstOfSameLook 42 = .ok (.iload_n 1, 1) := by decide +kernel
theorem d_Fo_firstOfSameLook_43 : decode b_Fo_firstOfSameLook 43 = .ok (.ireturn, 1) := by decide +kernel
theorem d_Fo_leaderOfMeant_0 : decode b_Fo_leaderOfMeant 0 = .ok (.aload_n 0, 1) := by decide +kernel
theorem d_Fo_leaderOfMeant_1 : decode b_Fo_leaderOfMeant 1 = .ok (.getfield 26, 3) := by decide +kernel
theorem d_Fo_leaderOfMeant_4 : decode b_Fo_leaderOfMeant 4 = .ok (.getfield 133, 3) := by decide +kernel
theorem d_Fo_leaderOfMeant_7 : decode b_Fo_leaderOfMeant 7 = .ok (.iload_n 1, 1) := by decide +kernel
theorem d_Fo_leaderOfMeant_8 : decode b_Fo_leaderOfMeant 8 = .ok (.iaload, 1) := by decide +kernel
theorem d_Fo_leaderOfMeant_9 : decode b_Fo_leaderOfMeant 9 = .ok (.istore_n 2, 1) := by decide +kernel
theorem d_Fo_leaderOfMeant_10 : decode b_Fo_leaderOfMeant 10 = .ok (.aload_n 0, 1) := by decide +kernel
theorem d_Fo_leaderOfMeant_11 : decode b_Fo_leaderOfMeant 11 = .ok (.getfield 26, 3) := by decide +kernel
theorem d_Fo_leaderOfMeant_14 : decode b_Fo_leaderOfMeant 14 = .ok (.getfield 110, 3) := by decide +kernel
theorem d_Fo_leaderOfMeant_17 : decode b_Fo_leaderOfMeant 17 = .ok (.iload_n 1, 1) := by decide +kernel
theorem d_Fo_leaderOfMeant_18 : decode b_Fo_leaderOfMeant 18 = .ok (.iaload, 1) := by decide +kernel
theorem d_Fo_leaderOfMeant_19 : decode b_Fo_leaderOfMeant 19 = .ok (.iconst 1, 1) := by decide +kernel
theorem d_Fo_leaderOfMeant_20 : decode b_Fo_leaderOfMeant 20 = .ok (.if_icmp .ne 12, 3) := by decide +kernel
theorem d_Fo_leaderOfMeant_23 : decode b_Fo_leaderOfMeant 23 = .ok (.aload_n 0, 1) := by decide +kernel
theorem d_Fo_leaderOfMeant_24 : decode b_Fo_leaderOfMeant 24 = .ok (.getfield 9, 3) := by decide +kernel
theorem d_Fo_leaderOfMeant_27 : decode b_Fo_leaderOfMeant 27 = .ok (.iload_n 2, 1) := by decide +kernel
theorem d_Fo_leaderOfMeant_28 : decode b_Fo_leaderOfMeant 28 = .ok (.iaload, 1) := by decide +kernel
theorem d_Fo_leaderOfMeant_29 : decode b_Fo_leaderOfMeant 29 = .ok (.goto 4, 3) := by decide +kernel
theorem d_Fo_leaderOfMeant_32 : decode b_Fo_leaderOfMeant 32 = .ok (.iload_n 2, 1) := by decide +kernel
theorem d_Fo_leaderOfMeant_33 : decode b_Fo_leaderOfMeant 33 = .ok (.ireturn, 1) := by decide +kernel
theorem d_Fo_hasSameTargets_0 : decode b_Fo_hasSameTargets 0 = .ok (.iconst 0, 1) := by decide +kernel
theorem d_Fo_hasSameTargets_1 : decode b_Fo_hasSameTargets 1 = .ok (.istore_n 3, 1) := by decide +kernel
theorem d_Fo_hasSameTargets_2 : decode b_Fo_hasSameTargets 2 = .ok (.iload_n 3, 1) := by decide +kernel
theorem d_Fo_hasSameTargets_3 : decode b_Fo_hasSameTargets 3 = .ok (.aload_n 0, 1) := by decide +kernel
theorem d_Fo_hasSameTargets_4 : decode b_Fo_hasSameTargets 4 = .ok (.getfield 22, 3) := by decide +kernel
theorem d_Fo_hasSameTargets_7 : decode b_Fo_hasSameTargets 7 = .ok (.iload_n 1, 1) := by decide +kernel
theorem d_Fo_hasSameTargets_8 : decode b_Fo_hasSameTargets 8 = .ok (.invokevirtual 87, 3) := by decide +kernel
theorem d_Fo_hasSameTargets_11 : decode b_Fo_hasSameTargets 11 = .ok (.if_icmp .ge 64, 3) := by decide +kernel
theorem d_Fo_hasSameTargets_14 : decode b_Fo_hasSameTargets 14 = .ok (.aload_n 0, 1) := by decide +kernel
theorem d_Fo_hasSameTargets_15 : decode b_Fo_hasSameTargets 15 = .ok (.getfield 22, 3) := by decide +kernel
theorem d_Fo_hasSameTargets_18 : decode b_Fo_hasSameTargets 18 = .ok (.getfield 98, 3) := by decide +kernel
theorem d_Fo_hasSameTargets_21 : decode b_Fo_hasSameTargets 21 = .ok (.aload_n 0, 1) := by decide +kernel
theorem d_Fo_hasSameTargets_22 : decode b_Fo_hasSameTargets 22 = .ok (.getfield 22, 3) := by decide +kernel
theorem d_Fo_hasSameTargets_25 : decode b_Fo_hasSameTargets 25 = .ok (.iload_n 1, 1) := by decide +kernel
theorem d_Fo_hasSameTargets_26 : decode b_Fo_hasSameTargets 26 = .ok (.iload_n 3, 1) := by decide +kernel
theorem d_Fo_hasSameTargets_27 : decode b_Fo_hasSameTargets 27 = .ok (.invokevirtual 92, 3) := by decide +kernel
theorem d_Fo_hasSameTargets_30 : decode b_Fo_hasSameTargets 30 = .ok (.iaload, 1) := by decide +kernel
theorem d_Fo_hasSameTargets_31 : decode b_Fo_hasSameTargets 31 = .ok (.istore 4, 2) := by decide +kernel
theorem d_Fo_hasSameTargets_33 : decode b_Fo_hasSameTargets 33 = .ok (.aload_n 0, 1) := by decide +kernel
theorem d_Fo_hasSameTargets_34 : decode b_Fo_hasSameTargets 34 = .ok (.getfield 22, 3) := by decide +kernel
theorem d_Fo_hasSameTargets_37 : decode b_Fo_hasSameTargets 37 = .ok (.getfield 98, 3) := by decide +kernel
theorem d_Fo_hasSameTargets_40 : decode b_Fo_hasSameTargets 40 = .ok (.aload_n 0, 1) := by decide +kernel
theorem d_Fo_hasSameTargets_41 : decode b_Fo_hasSameTargets 41 = .ok (.getfield 22, 3) := by decide +kernel
theorem d_Fo_hasSameTargets_44 : decode b_Fo_hasSameTargets 44 = .ok (.iload_n 2, 1) := by decide +kernel
theorem d_Fo_hasSameTargets_45 : decode b_Fo_hasSameTargets 45 = .ok (.iload_n 3, 1) := by decide +kernel
theorem d_Fo_hasSameTargets_46 : decode b_Fo_hasSameTargets 46 = .ok (.invokevirtual 92, 3) := by decide +kernel
theorem d_Fo_hasSameTargets_49 : decode b_Fo_hasSameTargets 49 = .ok (.iaload, 1) := by decide +kernel
theorem d_Fo_hasSameTargets_50 : decode b_Fo_hasSameTargets 50 = .ok (.istore 5, 2) := by decide +kernel
theorem d_Fo_hasSameTargets_52 : decode b_Fo_hasSameTargets 52 = .ok (.aload_n 0, 1) := by decide +kernel
theorem d_Fo_hasSameTargets_53 : decode b_Fo_hasSameTargets 53 = .ok (.iload 4, 2) := by decide +kernel
theorem d_Fo_hasSameTargets_55 : decode b_Fo_hasSameTargets 55 = .ok (.invokevirtual 130, 3) := by decide +kernel
theorem d_Fo_hasSameTargets_58 : decode b_Fo_hasSameTargets 58 = .ok (.aload_n 0, 1) := by decide +kernel
theorem d_Fo_hasSameTargets_59 : decode b_Fo_hasSameTargets 59 = .ok (.iload 5, 2) := by decide +kernel
theorem d_Fo_hasSameTargets_61 : decode b_Fo_hasSameTargets 61 = .ok (.invokevirtual 130, 3) := by decide +kernel
theorem d_Fo_hasSameTargets_64 : decode b_Fo_hasSameTargets 64 = .ok (.if_icmp .eq 5, 3) := by decide +kernel
theorem d_Fo_hasSameTargets_67 : decode b_Fo_hasSameTargets 67 = .ok (.iconst 0, 1) := by decide +kernel
theorem d_Fo_hasSameTargets_68 : decode b_Fo_hasSameTargets 68 = .ok (.ireturn, 1) := by decide +kernel
theorem d_Fo_hasSameTargets_69 : decode b_Fo_hasSameTargets 69 = .ok (.iinc 3 1, 3) := by decide +kernel
theorem d_Fo_hasSameTargets_72 : decode b_Fo_hasSameTargets 72 = .ok (.goto (-70), 3) := by decide +kernel
theorem d_Fo_hasSameTargets_75 : decode b_Fo_hasSameTargets 75 = .ok (.iconst 1, 1) := by decide +kernel
theorem d_Fo_hasSameTargets_76 : decode b_Fo_hasSameTargets 76 = .ok (.ireturn, 1) := by decide +kernel
theorem d_Fo_firstOfSameTargets_0 : decode b_Fo_firstOfSameTargets 0 = .ok (.aload_n 0, 1) := by decide +kernel
theorem d_Fo_firstOfSameTargets_1 : decode b_Fo_firstOfSameTargets 1 = .ok (.getfield 9, 3) := by decide +kernel
theorem d_Fo_firstOfSameTargets_4 : decode b_Fo_firstOfSameTargets 4 = .ok (.iload_n 1, 1) := by decide +kernel
theorem d_Fo_firstOfSameTargets_5 : decode b_Fo_firstOfSameTargets 5 = .ok (.iaload, 1) := by decide +kernel
theorem d_Fo_firstOfSameTargets_6 : decode b_Fo_firstOfSameTargets 6 = .ok (.istore_n 2, 1) := by decide +kernel
theorem d_Fo_firstOfSameTargets_7 : decode b_Fo_firstOfSameTargets 7 = .ok (.iload_n 2, 1) := by decide +kernel
theorem d_Fo_firstOfSameTargets_8 : decode b_Fo_firstOfSameTargets 8 = .ok (.iload_n 1, 1) := by decide +kernel
theorem d_Fo_firstOfSameTargets_9 : decode b_Fo_firstOfSameTargets 9 = .ok (.if_icmp .ge 45, 3) := by decide +kernel
theorem d_Fo_firstOfSameTargets_12 : decode b_Fo_firstOfSameTargets 12 = .ok (.aload_n 0, 1) := by decide +kernel
theorem d_Fo_firstOfSameTargets_13 : decode b_Fo_firstOfSameTargets 13 = .ok (.getfield 15, 3) := by decide +kernel
theorem d_Fo_firstOfSameTargets_16 : decode b_Fo_firstOfSameTargets 16 = .ok (.iload_n 2, 1) := by decide +kernel
theorem d_Fo_firstOfSameTargets_17 : decode b_Fo_firstOfSameTargets 17 = .ok (.iaload, 1) := by decide +kernel
theorem d_Fo_firstOfSameTargets_18 : decode b_Fo_firstOfSameTargets 18 = .ok (.iload_n 2, 1) := by decide +kernel
theorem d_Fo_firstOfSameTargets_19 : decode b_Fo_firstOfSameTargets 19 = .ok (.if_icmp .ne 29, 3) := by decide +kernel
theorem d_Fo_firstOfSameTargets_22 : decode b_Fo_firstOfSameTargets 22 = .ok (.aload_n 0, 1) := by decide +kernel
theorem d_Fo_firstOfSameTargets_23 : decode b_Fo_firstOfSameTargets 23 = .ok (.getfield 9, 3) := by decide +kernel
theorem d_Fo_firstOfSameTargets_26 : decode b_Fo_firstOfSameTargets 26 = .ok (.iload_n 2, 1) := by decide +kernel
theorem d_Fo_firstOfSameTargets_27 : decode b_Fo_firstOfSameTargets 27 = .ok (.iaload, 1) := by decide +kernel
theorem d_Fo_firstOfSameTargets_28 : decode b_Fo_firstOfSameTargets 28 = .ok (.aload_n 0, 1) := by decide +kernel
theorem d_Fo_firstOfSameTargets_29 : decode b_Fo_firstOfSameTargets 29 = .ok (.getfield 9, 3) := by decide +kernel
theorem d_Fo_firstOfSameTargets_32 : decode b_Fo_firstOfSameTargets 32 = .ok (.iload_n 1, 1) := by decide +kernel
theorem d_Fo_firstOfSameTargets_33 : decode b_Fo_firstOfSameTargets 33 = .ok (.iaload, 1) := by decide +kernel
theorem d_Fo_firstOfSameTargets_34 : decode b_Fo_firstOfSameTargets 34 = .ok (.if_icmp .ne 14, 3) := by decide +kernel
theorem d_Fo_firstOfSameTargets_37 : decode b_Fo_firstOfSameTargets 37 = .ok (.aload_n 0, 1) := by decide +kernel
theorem d_Fo_firstOfSameTargets_38 : decode b_Fo_firstOfSameTargets 38 = .ok (.iload_n 2, 1) := by decide +kernel
theorem d_Fo_firstOfSameTargets_39 : decode b_Fo_firstOfSameTargets 39 = .ok (.iload_n 1, 1) := by decide +kernel
theorem d_Fo_firstOfSameTargets_40 : decode b_Fo_firstOfSameTargets 40 = .ok (.invokevirtual 127, 3) := by decide +kernel
theorem d_Fo_firstOfSameTargets_43 : decode b_Fo_firstOfSameTargets 43 = .ok (.ifCond .eq 5, 3) := by decide +kernel
theorem d_Fo_firstOfSameTargets_46 : decode b_Fo_firstOfSameTargets 46 = .ok (.iload_n 2, 1) := by decide +kernel
theorem d_Fo_firstOfSameTargets_47 : decode b_Fo_firstOfSameTargets 47 = .ok (.ireturn, 1) := by decide +kernel
theorem d_Fo_firstOfSameTargets_48 : decode b_Fo_firstOfSameTargets 48 = .ok (.iinc 2 1, 3) := by decide +kernel
theorem d_Fo_firstOfSameTargets_51 : decode b_Fo_firstOfSameTargets 51 = .ok (.goto (-44), 3) := by decide +kernel
theorem d_Fo_firstOfSameTargets_54 : decode b_Fo_firstOfSameTargets 54 = .ok (.iload_n 1, 1) := by decide +kernel
theorem d_Fo_firstOfSameTargets_55 : decode b_Fo_firstOfSameTargets 55 = .ok (.ireturn, 1) := by decide +kernel
theorem d_Fo_split_0 : decode b_Fo_split 0 = .ok (.iconst 0, 1) := by decide +kernel
theorem d_Fo_split_1 : decode b_Fo_split 1 = .ok (.istore_n 1, 1) := by decide +kernel
theorem d_Fo_split_2 : decode b_Fo_split 2 = .ok (.iconst 0, 1) := by decide +kernel
theorem d_Fo_split_3 : decode b_Fo_split 3 = .ok (.istore_n 2, 1) := by decide +kernel
theorem d_Fo_split_4 : decode b_Fo_split 4 = .ok (.iload_n 2, 1) := by decide +kernel
theorem d_Fo_split_5 : decode b_Fo_split 5 = .ok (.aload_n 0, 1) := by decide +kernel
theorem d_Fo_split_6 : decode b_Fo_split 6 = .ok (.getfield 18, 3) := by decide +kernel
theorem d_Fo_split_9 : decode b_Fo_split 9 = .ok (.getfield 34, 3) := by decide +kernel
theorem d_Fo_split_12 : decode b_Fo_split 12 = .ok (.if_icmp .ge 45, 3) := by decide +kernel
theorem d_Fo_split_15 : decode b_Fo_split 15 = .ok (.aload_n 0, 1) := by decide +kernel
theorem d_Fo_split_16 : decode b_Fo_split 16 = .ok (.getfield 15, 3) := by decide +kernel
theorem d_Fo_split_19 : decode b_Fo_split 19 = .ok (.iload_n 2, 1) := by decide +kernel
theorem d_Fo_split_20 : decode b_Fo_split 20 = .ok (.aload_n 0, 1) := by decide +kernel
theorem d_Fo_split_21 : decode b_Fo_split 21 = .ok (.iload_n 2, 1) := by decide +kernel
theorem d_Fo_split_22 : decode b_Fo_split 22 = .ok (.invokevirtual 118, 3) := by decide +kernel
theorem d_Fo_split_25 : decode b_Fo_split 25 = .ok (.iastore, 1) := by decide +kernel
theorem d_Fo_split_26 : decode b_Fo_split 26 = .ok (.iload_n 1, 1) := by decide +kernel
theorem d_Fo_split_27 : decode b_Fo_split 27 = .ok (.ifCond .ne 18, 3) := by decide +kernel
theorem d_Fo_split_30 : decode b_Fo_split 30 = .ok (.aload_n 0, 1) := by decide +kernel
theorem d_Fo_split_31 : decode b_Fo_split 31 = .ok (.getfield 15, 3) := by decide +kernel
theorem d_Fo_split_34 : decode b_Fo_split 34 = .ok (.iload_n 2, 1) := by decide +kernel
theorem d_Fo_split_35 : decode b_Fo_split 35 = .ok (.iaload, 1) := by decide +kernel
theorem d_Fo_split_36 : decode b_Fo_split 36 = .ok (.aload_n 0, 1) := by decide +kernel
theorem d_Fo_split_37 : decode b_Fo_split 37 = .ok (.getfield 9, 3) := by decide +kernel
theorem d_Fo_split_40 : decode b_Fo_split 40 = .ok (.iload_n 2, 1) := by decide +kernel
theorem d_Fo_split_41 : decode b_Fo_split 41 = .ok (.iaload, 1) := by decide +kernel
theorem d_Fo_split_42 : decode b_Fo_split 42 = .ok (.if_icmp .eq 7, 3) := by decide +kernel
theorem d_Fo_split_45 : decode b_Fo_split 45 = .ok (.iconst 1, 1) := by decide +kernel
theorem d_Fo_split_46 : decode b_Fo_split 46 = .ok (.goto 4, 3) := by decide +kernel
theorem d_Fo_split_49 : decode b_Fo_split 49 = .ok (.iconst 0, 1) := by decide +kernel
theorem d_Fo_split_50 : decode b_Fo_split 50 = .ok (.istore_n 1, 1) := by decide +kernel
theorem d_Fo_split_51 : decode b_Fo_split 51 = .ok (.iinc 2 1, 3) := by decide +kernel
theorem d_Fo_split_54 : decode b_Fo_split 54 = .ok (.goto (-50), 3) := by decide +kernel
theorem d_Fo_split_57 : decode b_Fo_split 57 = .ok (.aload_n 0, 1) := by decide +kernel
theorem d_Fo_split_58 : decode b_Fo_split 58 = .ok (.getfield 15, 3) := by decide +kernel
theorem d_Fo_split_61 : decode b_Fo_split 61 = .ok (.iconst 0, 1) := by decide +kernel
theorem d_Fo_split_62 : decode b_Fo_split 62 = .ok (.aload_n 0, 1) := by decide +kernel
theorem d_Fo_split_63 : decode b_Fo_split 63 = .ok (.getfield 9, 3) := by decide +kernel
theorem d_Fo_split_66 : decode b_Fo_split 66 = .ok (.iconst 0, 1) := by decide +kernel
theorem d_Fo_split_67 : decode b_Fo_split 67 = .ok (.aload_n 0, 1) := by decide +kernel
theorem d_Fo_split_68 : decode b_Fo_split 68 = .ok (.getfield 18, 3) := by decide +kernel
theorem d_Fo_split_71 : decode b_Fo_split 71 = .ok (.getfield 34, 3) := by decide +kernel
theorem d_Fo_split_74 : decode b_Fo_split 74 = .ok (.invokestatic 121, 3) := by decide +kernel
theorem d_Fo_split_77 : decode b_Fo_split 77 = .ok (.iload_n 1, 1) := by decide +kernel
theorem d_Fo_split_78 : decode b_Fo_split 78 = .ok (.ireturn, 1) := by decide +kernel
theorem d_Fo_settle_0 : decode b_Fo_settle 0 = .ok (.iconst 0, 1) := by decide +kernel
theorem d_Fo_settle_1 : decode b_Fo_settle 1 = .ok (.istore_n 2, 1) := by decide +kernel
theorem d_Fo_settle_2 : decode b_Fo_settle 2 = .ok (.iload_n 2, 1) := by decide +kernel
theorem d_Fo_settle_3 : decode b_Fo_settle 3 = .ok (.aload_n 0, 1) := by decide +kernel
theorem d_Fo_settle_4 : decode b_Fo_settle 4 = .ok (.getfield 18, 3) := by decide +kernel
theorem d_Fo_settle_7 : decode b_Fo_settle 7 = .ok (.getfield 34, 3) := by decide +kernel
theorem d_Fo_settle_10 : decode b_Fo_settle 10 = .ok (.if_icmp .ge 36, 3) := by decide +kernel
theorem d_Fo_settle_13 : decode b_Fo_settle 13 = .ok (.aload_n 0, 1) := by decide +kernel
theorem d_Fo_settle_14 : decode b_Fo_settle 14 = .ok (.getfield 9, 3) := by decide +kernel
theorem d_Fo_settle_17 : decode b_Fo_settle 17 = .ok (.iload_n 2, 1) := by decide +kernel
theorem d_Fo_settle_18 : decode b_Fo_settle 18 = .ok (.iload_n 1, 1) := by decide +kernel
theorem d_Fo_settle_19 : decode b_Fo_settle 19 = .ok (.ifCond .eq 19, 3) := by decide +kernel
theorem d_Fo_settle_22 : decode b_Fo_settle 22 = .ok (.aload_n 0, 1) := by decide +kernel
theorem d_Fo_settle_23 : decode b_Fo_settle 23 = .ok (.iload_n 2, 1) := by decide +kernel
theorem d_Fo_settle_24 : decode b_Fo_settle 24 = .ok (.invokevirtual 40, 3) := by decide +kernel
theorem d_Fo_settle_27 : decode b_Fo_settle 27 = .ok (.ifCond .eq 11, 3) := by decide +kernel
theorem d_Fo_settle_30 : decode b_Fo_settle 30 = .ok (.aload_n 0, 1) := by decide +kernel
theorem d_Fo_settle_31 : decode b_Fo_settle 31 = .ok (.iload_n 2, 1) := by decide +kernel
theorem d_Fo_settle_32 : decode b_Fo_settle 32 = .ok (.invokevirtual 44, 3) := by decide +kernel
theorem d_Fo_settle_35 : decode b_Fo_settle 35 = .ok (.goto 4, 3) := by decide +kernel
theorem d_Fo_settle_38 : decode b_Fo_settle 38 = .ok (.iload_n 2, 1) := by decide +kernel
theorem d_Fo_settle_39 : decode b_Fo_settle 39 = .ok (.iastore, 1) := by decide +kernel
theorem d_Fo_settle_40 : decode b_Fo_settle 40 = .ok (.iinc 2 1, 3) := by decide +kernel
theorem d_Fo_settle_43 : decode b_Fo_settle 43 = .ok (.goto (-41), 3) := by decide +kernel
theorem d_Fo_settle_46 : decode b_Fo_settle 46 = .ok (.iconst 0, 1) := by decide +kernel
theorem d_Fo_settle_47 : decode b_Fo_settle 47 = .ok (.istore_n 2, 1) := by decide +kernel
theorem d_Fo_settle_48 : decode b_Fo_settle 48 = .ok (.iload_n 2, 1) := by decide +kernel
theorem d_Fo_settle_49 : decode b_Fo_settle 49 = .ok (.bipush 96, 2) := by decide +kernel
theorem d_Fo_settle_51 : decode b_Fo_settle 51 = .ok (.if_icmp .ge 19, 3) := by decide +kernel
theorem d_Fo_settle_54 : decode b_Fo_settle 54 = .ok (.aload_n 0, 1) := by decide +kernel
theorem d_Fo_settle_55 : decode b_Fo_settle 55 = .ok (.invokevirtual 48, 3) := by decide +kernel
theorem d_Fo_settle_58 : decode b_Fo_settle 58 = .ok (.ifCond .ne 6, 3) := by decide +kernel
theorem d_Fo_settle_61 : decode b_Fo_settle 61 = .ok (.goto 9, 3) := by decide +kernel
theorem d_Fo_settle_64 : decode b_Fo_settle 64 = .ok (.iinc 2 1, 3) := by decide +kernel
theorem d_Fo_settle_67 : decode b_Fo_settle 67 = .ok (.goto (-19), 3) := by decide +kernel
theorem d_Fo_settle_70 : decode b_Fo_settle 70 = .ok (.return_, 1) := by decide +kernel
theorem d_Is_placeOf_0 : decode b_Is_placeOf 0 = .ok (.aload_n 0, 1) := by decide +kernel
theorem d_Is_placeOf_1 : decode b_Is_placeOf 1 = .ok (.getfield 40, 3) := by decide +kernel
theorem d_Is_placeOf_4 : decode b_Is_placeOf 4 = .ok (.getfield 128, 3) := by decide +kernel
theorem d_Is_placeOf_7 : decode b_Is_placeOf 7 = .ok (.aload_n 0, 1) := by decide +kernel
theorem d_Is_placeOf_8 : decode b_Is_placeOf 8 = .ok (.getfield 28, 3) := by decide +kernel
theorem d_Is_placeOf_11 : decode b_Is_placeOf 11 = .ok (.getfield 88, 3) := by decide +kernel
theorem d_Is_placeOf_14 : decode b_Is_placeOf 14 = .ok (.iload_n 1, 1) := by decide +kernel
theorem d_Is_placeOf_15 : decode b_Is_placeOf 15 = .ok (.iaload, 1) := by decide +kernel
theorem d_Is_placeOf_16 : decode b_Is_placeOf 16 = .ok (.iaload, 1) := by decide +kernel
theorem d_Is_placeOf_17 : decode b_Is_placeOf 17 = .ok (.aload_n 0, 1) := by decide +kernel
theorem d_Is_placeOf_18 : decode b_Is_placeOf 18 = .ok (.getfield 28, 3) := by decide +kernel
theorem d_Is_placeOf_21 : decode b_Is_placeOf 21 = .ok (.getfield 131, 3) := by decide +kernel
theorem d_Is_placeOf_24 : decode b_Is_placeOf 24 = .ok (.iload_n 1, 1) := by decide +kernel
theorem d_Is_placeOf_25 : decode b_Is_placeOf 25 = .ok (.iaload, 1) := by decide +kernel
theorem d_Is_placeOf_26 : decode b_Is_placeOf 26 = .ok (.iadd, 1) := by decide +kernel
theorem d_Is_placeOf_27 : decode b_Is_placeOf 27 = .ok (.ireturn, 1) := by decide +kernel
theorem d_Is_isNear_0 : decode b_Is_isNear 0 = .ok (.iload_n 2, 1) := by decide +kernel
theorem d_Is_isNear_1 : decode b_Is_isNear 1 = .ok (.i2l, 1) := by decide +kernel
theorem d_Is_isNear_2 : decode b_Is_isNear 2 = .ok (.aload_n 0, 1) := by decide +kernel
theorem d_Is_isNear_3 : decode b_Is_isNear 3 = .ok (.iload_n 1, 1) := by decide +kernel
theorem d_Is_isNear_4 : decode b_Is_isNear 4 = .ok (.invokevirtual 137, 3) := by decide +kernel
theorem d_Is_isNear_7 : decode b_Is_isNear 7 = .ok (.i2l, 1) := by decide +kernel
theorem d_Is_isNear_8 : decode b_Is_isNear 8 = .ok (.lsub, 1) := by decide +kernel
theorem d_Is_isNear_9 : decode b_Is_isNear 9 = .ok (.ldc2_w 140, 3) := by decide +kernel
theorem d_Is_isNear_12 : decode b_Is_isNear 12 = .ok (.lsub, 1) := by decide +kernel
theorem d_Is_isNear_13 : decode b_Is_isNear 13 = .ok (.lstore_n 3, 1) := by decide +kernel
theorem d_Is_isNear_14 : decode b_Is_isNear 14 = .ok (.lload_n 3, 1) := by decide +kernel
theorem d_Is_isNear_15 : decode b_Is_isNear 15 = .ok (.ldc2_w 140, 3) := by decide +kernel
theorem d_Is_isNear_18 : decode b_Is_isNear 18 = .ok (.lrem, 1) := by decide +kernel
theorem d_Is_isNear_19 : decode b_Is_isNear 19 = .ok (.lconst 0, 1) := by decide +kernel
theorem d_Is_isNear_20 : decode b_Is_isNear 20 = .ok (.lcmp, 1) := by decide +kernel
theorem d_Is_isNear_21 : decode b_Is_isNear 21 = .ok (.ifCond .ne 23, 3) := by decide +kernel
theorem d_Is_isNear_24 : decode b_Is_isNear 24 = .ok (.lload_n 3, 1) := by decide +kernel
theorem d_Is_isNear_25 : decode b_Is_isNear 25 = .ok (.ldc2_w 142, 3) := by decide +kernel
theorem d_Is_isNear_28 : decode b_Is_isNear 28 = .ok (.lcmp, 1) := by decide +kernel
theorem d_Is_isNear_29 : decode b_Is_isNear 29 = .ok (.ifCond .lt 15, 3) := by decide +kernel
theorem d_Is_isNear_32 : decode b_Is_isNear 32 = .ok (.lload_n 3, 1) := by decide +kernel
theorem d_Is_isNear_33 : decode b_Is_isNear 33 = .ok (.ldc2_w 144, 3) := by decide +kernel
theorem d_Is_isNear_36 : decode b_Is_isNear 36 = .ok (.lcmp, 1) := by decide +kernel
theorem d_Is_isNear_37 : decode b_Is_isNear 37 = .ok (.ifCond .gt 7, 3) := by decide +kernel
theorem d_Is_isNear_40 : decode b_Is_isNear 40 = .ok (.iconst 1, 1) := by decide +kernel
theorem d_Is_isNear_41 : decode b_Is_isNear 41 = .ok (.goto 4, 3) := by decide +kernel
theorem d_Is_isNear_44 : decode b_Is_isNear 44 = .ok (.iconst 0, 1) := by decide +kernel
theorem d_Is_isNear_45 : decode b_Is_isNear 45 = .ok (.ireturn, 1) := by decide +kernel
theorem d_Fo_isFolded_0 : decode b_Fo_isFolded 0 = .ok (.aload_n 0, 1) := by decide +kernel
theorem d_Fo_isFolded_1 : decode b_Fo_isFolded 1 = .ok (.getfield 9, 3) := by decide +kernel
theorem d_Fo_isFolded_4 : decode b_Fo_isFolded 4 = .ok (.iload_n 1, 1) := by decide +kernel
theorem d_Fo_isFolded_5 : decode b_Fo_isFolded 5 = .ok (.iaload, 1) := by decide +kernel
theorem d_Fo_isFolded_6 : decode b_Fo_isFolded 6 = .ok (.iload_n 1, 1) := by decide +kernel
theorem d_Fo_isFolded_7 : decode b_Fo_isFolded 7 = .ok (.if_icmp .eq 7, 3) := by decide +kernel
theorem d_Fo_isFolded_10 : decode b_Fo_isFolded 10 = .ok (.iconst 1, 1) := by decide +kernel
theorem d_Fo_isFolded_11 : decode b_Fo_isFolded 11 = .ok (.goto 4, 3) := by decide +kernel
theorem d_Fo_isFolded_14 : decode b_Fo_isFolded 14 = .ok (.iconst 0, 1) := by decide +kernel
theorem d_Fo_isFolded_15 : decode b_Fo_isFolded 15 = .ok (.ireturn, 1) := by decide +kernel
theorem d_La_isStanding_0 : decode b_La_isStanding 0 = .ok (.aload_n 0, 1) := by decide +kernel
theorem d_La_isStanding_1 : decode b_La_isStanding 1 = .ok (.getfield 26, 3) := by decide +kernel
theorem d_La_isStanding_4 : decode b_La_isStanding 4 = .ok (.getfield 77, 3) := by decide +kernel
theorem d_La_isStanding_7 : decode b_La_isStanding 7 = .ok (.iload_n 1, 1) := by decide +kernel
theorem d_La_isStanding_8 : decode b_La_isStanding 8 = .ok (.baload, 1) := by decide +kernel
theorem d_La_isStanding_9 : decode b_La_isStanding 9 = .ok (.ifCond .eq 18, 3) := by decide +kernel
theorem d_La_isStanding_12 : decode b_La_isStanding 12 = .ok (.aload_n 0, 1) := by decide +kernel
theorem d_La_isStanding_13 : decode b_La_isStanding 13 = .ok (.getfield 30, 3) := by decide +kernel
theorem d_La_isStanding_16 : decode b_La_isStanding 16 = .ok (.iload_n 1, 1) := by decide +kernel
theorem d_La_isStanding_17 : decode b_La_isStanding 17 = .ok (.invokevirtual 83, 3) := by decide +kernel
theorem d_La_isStanding_20 : decode b_La_isStanding 20 = .ok (.ifCond .ne 7, 3) := by decide +kernel
theorem d_La_isStanding_23 : decode b_La_isStanding 23 = .ok (.iconst 1, 1) := by decide +kernel
theorem d_La_isStanding_24 : decode b_La_isStanding 24 = .ok (.goto 4, 3) := by decide +kernel
theorem d_La_isStanding_27 : decode b_La_isStanding 27 = .ok (.iconst 0, 1) := by decide +kernel
theorem d_La_isStanding_28 : decode b_La_isStanding 28 = .ok (.ireturn, 1) := by decide +kernel
theorem d_Is_mayGo_0 : decode b_Is_mayGo 0 = .ok (.aload_n 0, 1) := by decide +kernel
theorem d_Is_mayGo_1 : decode b_Is_mayGo 1 = .ok (.getfield 28, 3) := by decide +kernel
theorem d_Is_mayGo_4 : decode b_Is_mayGo 4 = .ok (.getfield 88, 3) := by decide +kernel
theorem d_Is_mayGo_7 : decode b_Is_mayGo 7 = .ok (.iload_n 1, 1) := by decide +kernel
theorem d_Is_mayGo_8 : decode b_Is_mayGo 8 = .ok (.iaload, 1) := by decide +kernel
theorem d_Is_mayGo_9 : decode b_Is_mayGo 9 = .ok (.istore_n 2, 1) := by decide +kernel
theorem d_Is_mayGo_10 : decode b_Is_mayGo 10 = .ok (.aload_n 0, 1) := by decide +kernel
theorem d_Is_mayGo_11 : decode b_Is_mayGo 11 = .ok (.getfield 28, 3) := by decide +kernel
theorem d_Is_mayGo_14 : decode b_Is_mayGo 14 = .ok (.getfield 91, 3) := by decide +kernel
theorem d_Is_mayGo_17 : decode b_Is_mayGo 17 = .ok (.iload_n 1, 1) := by decide +kernel
theorem d_Is_mayGo_18 : decode b_Is_mayGo 18 = .ok (.iaload, 1) := by decide +kernel
theorem d_Is_mayGo_19 : decode b_Is_mayGo 19 = .ok (.iconst 4, 1) := by decide +kernel
theorem d_Is_mayGo_20 : decode b_Is_mayGo 20 = .ok (.if_icmp .ne 30, 3) := by decide +kernel
theorem d_Is_mayGo_23 : decode b_Is_mayGo 23 = .ok (.aload_n 0, 1) := by decide +kernel
theorem d_Is_mayGo_24 : decode b_Is_mayGo 24 = .ok (.getfield 24, 3) := by decide +kernel
theorem d_Is_mayGo_27 : decode b_Is_mayGo 27 = .ok (.getfield 94, 3) := by decide +kernel
theorem d_Is_mayGo_30 : decode b_Is_mayGo 30 = .ok (.iload_n 2, 1) := by decide +kernel
theorem d_Is_mayGo_31 : decode b_Is_mayGo 31 = .ok (.iaload, 1) := by decide +kernel
theorem d_Is_mayGo_32 : decode b_Is_mayGo 32 = .ok (.ifCond .ne 18, 3) := by decide +kernel
theorem d_Is_mayGo_35 : decode b_Is_mayGo 35 = .ok (.aload_n 0, 1) := by decide +kernel
theorem d_Is_mayGo_36 : decode b_Is_mayGo 36 = .ok (.getfield 40, 3) := by decide +kernel
theorem d_Is_mayGo_39 : decode b_Is_mayGo 39 = .ok (.iload_n 2, 1) := by decide +kernel
theorem d_Is_mayGo_40 : decode b_Is_mayGo 40 = .ok (.invokevirtual 99, 3) := by decide +kernel
theorem d_Is_mayGo_43 : decode b_Is_mayGo 43 = .ok (.ifCond .eq 7, 3) := by decide +kernel
theorem d_Is_mayGo_46 : decode b_Is_mayGo 46 = .ok (.iconst 1, 1) := by decide +kernel
theorem d_Is_mayGo_47 : decode b_Is_mayGo 47 = .ok (.goto 4, 3) := by decide +kernel
theorem d_Is_mayGo_50 : decode b_Is_mayGo 50 = .ok (.iconst 0, 1) := by decide +kernel
theorem d_Is_mayGo_51 : decode b_Is_mayGo 51 = .ok (.ireturn, 1) := by decide +kernel
theorem d_La_startOf_0 : decode b_La_startOf 0 = .ok (.iload_n 1, 1) := by decide +kernel
theorem d_La_startOf_1 : decode b_La_startOf 1 = .ok (.lookupswitch 41 #[(1, 27), (3, 34)], 27) := by decide +kernel
theorem d_La_startOf_28 : decode b_La_startOf 28 = .ok (.aload_n 0, 1) := by decide +kernel
theorem d_La_startOf_29 : decode b_La_startOf 29 = .ok (.getfield 9, 3) := by decide +kernel
theorem d_La_startOf_32 : decode b_La_startOf 32 = .ok (.iload_n 2, 1) := by decide +kernel
theorem d_La_startOf_33 : decode b_La_startOf 33 = .ok (.iaload, 1) := by decide +kernel
theorem d_La_startOf_34 : decode b_La_startOf 34 = .ok (.ireturn, 1) := by decide +kernel
theorem d_La_startOf_35 : decode b_La_startOf 35 = .ok (.aload_n 0, 1) := by decide +kernel
theorem d_La_startOf_36 : decode b_La_startOf 36 = .ok (.getfield 15, 3) := by decide +kernel
theorem d_La_startOf_39 : decode b_La_startOf 39 = .ok (.iload_n 2, 1) := by decide +kernel
theorem d_La_startOf_40 : decode b_La_startOf 40 = .ok (.iaload, 1) := by decide +kernel
theorem d_La_startOf_41 : decode b_La_startOf 41 = .ok (.ireturn, 1) := by decide +kernel
theorem d_La_startOf_42 : decode b_La_startOf 42 = .ok (.iconst 0, 1) := by decide +kernel
theorem d_La_startOf_43 : decode b_La_startOf 43 = .ok (.ireturn, 1) := by decide +kernel
theorem d_La_addressOf_0 : decode b_La_addressOf 0 = .ok (.aload_n 0, 1) := by decide +kernel
theorem d_La_addressOf_1 : decode b_La_addressOf 1 = .ok (.aload_n 0, 1) := by decide +kernel
theorem d_La_addressOf_2 : decode b_La_addressOf 2 = .ok (.getfield 22, 3) := by decide +kernel
theorem d_La_addressOf_5 : decode b_La_addressOf 5 = .ok (.getfield 98, 3) := by decide +kernel
theorem d_La_addressOf_8 : decode b_La_addressOf 8 = .ok (.iload_n 1, 1) := by decide +kernel
theorem d_La_addressOf_9 : decode b_La_addressOf 9 = .ok (.iaload, 1) := by decide +kernel
theorem d_La_addressOf_10 : decode b_La_addressOf 10 = .ok (.aload_n 0, 1) := by decide +kernel
theorem d_La_addressOf_11 : decode b_La_addressOf 11 = .ok (.getfield 22, 3) := by decide +kernel
theorem d_La_addressOf_14 : decode b_La_addressOf 14 = .ok (.getfield 101, 3) := by decide +kernel
theorem d_La_addressOf_17 : decode b_La_addressOf 17 = .ok (.iload_n 1, 1) := by decide +kernel
theorem d_La_addressOf_18 : decode b_La_addressOf 18 = .ok (.iaload, 1) := by decide +kernel
theorem d_La_addressOf_19 : decode b_La_addressOf 19 = .ok (.invokevirtual 104, 3) := by decide +kernel
theorem d_La_addressOf_22 : decode b_La_addressOf 22 = .ok (.aload_n 0, 1) := by decide +kernel
theorem d_La_addressOf_23 : decode b_La_addressOf 23 = .ok (.getfield 22, 3) := by decide +kernel
theorem d_La_addressOf_26 : decode b_La_addressOf 26 = .ok (.getfield 107, 3) := by decide +kernel
theorem d_La_addressOf_29 : decode b_La_addressOf 29 = .ok (.iload_n 1, 1) := by decide +kernel
theorem d_La_addressOf_30 : decode b_La_addressOf 30 = .ok (.iaload, 1) := by decide +kernel
theorem d_La_addressOf_31 : decode b_La_addressOf 31 = .ok (.iadd, 1) := by decide +kernel
theorem d_La_addressOf_32 : decode b_La_addressOf 32 = .ok (.ireturn, 1) := by decide +kernel
theorem d_Is_targetOf_0 : decode b_Is_targetOf 0 = .ok (.aload_n 0, 1) := by decide +kernel
theorem d_Is_targetOf_1 : decode b_Is_targetOf 1 = .ok (.getfield 40, 3) := by decide +kernel
theorem d_Is_targetOf_4 : decode b_Is_targetOf 4 = .ok (.aload_n 0, 1) := by decide +kernel
theorem d_Is_targetOf_5 : decode b_Is_targetOf 5 = .ok (.getfield 28, 3) := by decide +kernel
theorem d_Is_targetOf_8 : decode b_Is_targetOf 8 = .ok (.getfield 108, 3) := by decide +kernel
theorem d_Is_targetOf_11 : decode b_Is_targetOf 11 = .ok (.iload_n 1, 1) := by decide +kernel
theorem d_Is_targetOf_12 : decode b_Is_targetOf 12 = .ok (.iaload, 1) := by decide +kernel
theorem d_Is_targetOf_13 : decode b_Is_targetOf 13 = .ok (.invokevirtual 125, 3) := by decide +kernel
theorem d_Is_targetOf_16 : decode b_Is_targetOf 16 = .ok (.aload_n 0, 1) := by decide +kernel
theorem d_Is_targetOf_17 : decode b_Is_targetOf 17 = .ok (.getfield 28, 3) := by decide +kernel
theorem d_Is_targetOf_20 : decode b_Is_targetOf 20 = .ok (.getfield 122, 3) := by decide +kernel
theorem d_Is_targetOf_23 : decode b_Is_targetOf 23 = .ok (.iload_n 1, 1) := by decide +kernel
theorem d_Is_targetOf_24 : decode b_Is_targetOf 24 = .ok (.iaload, 1) := by decide +kernel
theorem d_Is_targetOf_25 : decode b_Is_targetOf 25 = .ok (.iadd, 1) := by decide +kernel
theorem d_Is_targetOf_26 : decode b_Is_targetOf 26 = .ok (.ireturn, 1) := by decide +kernel
theorem d_Is_firstStranded_0 : decode b_Is_firstStranded 0 = .ok (.iconst 0, 1) := by decide +kernel
theorem d_Is_firstStranded_1 : decode b_Is_firstStranded 1 = .ok (.istore_n 1, 1) := by decide +kernel
theorem d_Is_firstStranded_2 : decode b_Is_firstStranded 2 = .ok (.iload_n 1, 1) := by decide +kernel
theorem d_Is_firstStranded_3 : decode b_Is_firstStranded 3 = .ok (.aload_n 0, 1) := by decide +kernel
theorem d_Is_firstStranded_4 : decode b_Is_firstStranded 4 = .ok (.getfield 28, 3) := by decide +kernel
theorem d_Is_firstStranded_7 : decode b_Is_firstStranded 7 = .ok (.getfield 71, 3) := by decide +kernel
theorem d_Is_firstStranded_10 : decode b_Is_firstStranded 10 = .ok (.if_icmp .ge 52, 3) := by decide +kernel
theorem d_Is_firstStranded_13 : decode b_Is_firstStranded 13 = .ok (.aload_n 0, 1) := by decide +kernel
theorem d_Is_firstStranded_14 : decode b_Is_firstStranded 14 = .ok (.getfield 28, 3) := by decide +kernel
theorem d_Is_firstStranded_17 : decode b_Is_firstStranded 17 = .ok (.getfield 74, 3) := by decide +kernel
theorem d_Is_firstStranded_20 : decode b_Is_firstStranded 20 = .ok (.iload_n 1, 1) := by decide +kernel
theorem d_Is_firstStranded_21 : decode b_Is_firstStranded 21 = .ok (.iaload, 1) := by decide +kernel
theorem d_Is_firstStranded_22 : decode b_Is_firstStranded 22 = .ok (.istore_n 2, 1) := by decide +kernel
theorem d_Is_firstStranded_23 : decode b_Is_firstStranded 23 = .ok (.aload_n 0, 1) := by decide +kernel
theorem d_Is_firstStranded_24 : decode b_Is_firstStranded 24 = .ok (.getfield 21, 3) := by decide +kernel
theorem d_Is_firstStranded_27 : decode b_Is_firstStranded 27 = .ok (.iload_n 2, 1) := by decide +kernel
theorem d_Is_firstStranded_28 : decode b_Is_firstStranded 28 = .ok (.iaload, 1) := by decide +kernel
theorem d_Is_firstStranded_29 : decode b_Is_firstStranded 29 = .ok (.iconst (-1), 1) := by decide +kernel
theorem d_Is_firstStranded_30 : decode b_Is_firstStranded 30 = .ok (.if_icmp .ne 26, 3) := by decide +kernel
theorem d_Is_firstStranded_33 : decode b_Is_firstStranded 33 = .ok (.aload_n 0, 1) := by decide +kernel
theorem d_Is_firstStranded_34 : decode b_Is_firstStranded 34 = .ok (.iload_n 2, 1) := by decide +kernel
theorem d_Is_firstStranded_35 : decode b_Is_firstStranded 35 = .ok (.invokevirtual 77, 3) := by decide +kernel
theorem d_Is_firstStranded_38 : decode b_Is_firstStranded 38 = .ok (.ifCond .eq 18, 3) := by decide +kernel
theorem d_Is_firstStranded_41 : decode b_Is_firstStranded 41 = .ok (.aload_n 0, 1) := by decide +kernel
theorem d_Is_firstStranded_42 : decode b_Is_firstStranded 42 = .ok (.iload_n 2, 1) := by decide +kernel
theorem d_Is_firstStranded_43 : decode b_Is_firstStranded 43 = .ok (.aload_n 0, 1) := by decide +kernel
theorem d_Is_firstStranded_44 : decode b_Is_firstStranded 44 = .ok (.iload_n 2, 1) := by decide +kernel
theorem d_Is_firstStranded_45 : decode b_Is_firstStranded 45 = .ok (.invokevirtual 80, 3) := by decide +kernel
theorem d_Is_firstStranded_48 : decode b_Is_firstStranded 48 = .ok (.invokevirtual 84, 3) := by decide +kernel
theorem d_Is_firstStranded_51 : decode b_Is_firstStranded 51 = .ok (.ifCond .ne 5, 3) := by decide +kernel
theorem d_Is_firstStranded_54 : decode b_Is_firstStranded 54 = .ok (.iload_n 2, 1) := by decide +kernel
theorem d_Is_firstStranded_55 : decode b_Is_firstStranded 55 = .ok (.ireturn, 1) := by decide +kernel
theorem d_Is_firstStranded_56 : decode b_Is_firstStranded 56 = .ok (.iinc 1 1, 3) := by decide +kernel
theorem d_Is_firstStranded_59 : decode b_Is_firstStranded 59 = .ok (.goto (-57), 3) := by decide +kernel
theorem d_Is_firstStranded_62 : decode b_Is_firstStranded 62 = .ok (.iconst (-1), 1) := by decide +kernel
theorem d_Is_firstStranded_63 : decode b_Is_firstStranded 63 = .ok (.ireturn, 1) := by decide +kernel
