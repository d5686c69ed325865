theorem ki_0 : Int32.ofInt 0 = 0 := by decide
theorem fl_Ly_243 : FL R_Ly 243 0 14 := ⟨R_Ly, F_Ly, N_Ly, rfl, by decide, i_Ly, (mw 553 (by decide +kernel))⟩
theorem ft_Ly_14 : FT 0 14 .boolean := ⟨R_Ly, F_Ly, N_Ly, rfl, rfl, by decide +kernel⟩
theorem fl_Ly_249 : FL R_Ly 249 0 15 := ⟨R_Ly, F_Ly, N_Ly, rfl, by decide, i_Ly, (mw 554 (by decide +kernel))⟩
theorem ft_Ly_15 : FT 0 15 .int := ⟨R_Ly, F_Ly, N_Ly, rfl, rfl, by decide +kernel⟩
theorem ki_m1 : Int32.ofInt (-1) = (-1) := by decide
theorem fl_Ly_102 : FL R_Ly 102 0 16 := ⟨R_Ly, F_Ly, N_Ly, rfl, by decide, i_Ly, (mw 555 (by decide +kernel))⟩
theorem ft_Ly_16 : FT 0 16 .int := ⟨R_Ly, F_Ly, N_Ly, rfl, rfl, by decide +kernel⟩
theorem fl_Ly_105 : FL R_Ly 105 0 17 := ⟨R_Ly, F_Ly, N_Ly, rfl, by decide, i_Ly, (mw 556 (by decide +kernel))⟩
theorem ft_Ly_17 : FT 0 17 .int := ⟨R_Ly, F_Ly, N_Ly, rfl, rfl, by decide +kernel⟩
theorem ml_Ly_123 : MLb R_Ly 123 y_Ly_takeLinkAway b_Ly_takeLinkAway 1 (none) 0 := ⟨(mw 601 (by decide +kernel)), (mw 598 (by decide +kernel)), (mw 83 (by decide +kernel)), by decide +kernel⟩
theorem mv_Ly_takeLinkAway : MLv y_Ly_takeLinkAway := ⟨(mw 600 (by decide +kernel)), (mw 0 (by decide +kernel))⟩
theorem fl_Ly_223 : FL R_Ly 223 0 12 := ⟨R_Ly, F_Ly, N_Ly, rfl, by decide, i_Ly, (mw 551 (by decide +kernel))⟩
theorem ft_Ly_12 : FT 0 12 .boolean := ⟨R_Ly, F_Ly, N_Ly, rfl, rfl, by decide +kernel⟩
theorem fl_Ly_227 : FL R_Ly 227 0 13 := ⟨R_Ly, F_Ly, N_Ly, rfl, by decide, i_Ly, (mw 552 (by decide +kernel))⟩
theorem ft_Ly_13 : FT 0 13 .boolean := ⟨R_Ly, F_Ly, N_Ly, rfl, rfl, by decide +kernel⟩
theorem fl_Se_34 : FL R_Se 34 2 0 := ⟨R_Se, F_Se, N_Se, rfl, by decide, i_Se, (mw 154 (by decide +kernel))⟩
theorem ft_Se_0 : FT 2 0 .int := ⟨R_Se, F_Se, N_Se, rfl, rfl, by decide +kernel⟩
theorem fl_Se_45 : FL R_Se 45 2 1 := ⟨R_Se, F_Se, N_Se, rfl, by decide, i_Se, (mw 160 (by decide +kernel))⟩
theorem ft_Se_1 : FT 2 1 .int := ⟨R_Se, F_Se, N_Se, rfl, rfl, by decide +kernel⟩
theorem fl_Se_42 : FL R_Se 42 2 2 := ⟨R_Se, F_Se, N_Se, rfl, by decide, i_Se, (mw 161 (by decide +kernel))⟩
theorem ft_Se_2 : FT 2 2 .int := ⟨R_Se, F_Se, N_Se, rfl, rfl, by decide +kernel⟩
theorem fl_Ly_10 : FL R_Ly 10 0 0 := ⟨R_Ly, F_Ly, N_Ly, rfl, by decide, i_Ly, (mw 539 (by decide +kernel))⟩
theorem fl_Ly_115 : FL R_Ly 115 1 0 := ⟨R_Un, F_Un, N_Un, rfl, by decide, i_Un, (mw 130 (by decide +kernel))⟩
theorem ft_Un_0 : FT 1 0 .int := ⟨R_Un, F_Un, N_Un, rfl, rfl, by decide +kernel⟩
theorem fl_Ly_19 : FL R_Ly 19 0 1 := ⟨R_Ly, F_Ly, N_Ly, rfl, by decide, i_Ly, (mw 540 (by decide +kernel))⟩
theorem ml_Ly_230 : MLb R_Ly 230 y_Se_forget b_Se_forget 1 (none) 0 := ⟨(mw 609 (by decide +kernel)), (mw 606 (by decide +kernel)), (mw 85 (by decide +kernel)), by decide +kernel⟩
theorem mv_Se_forget : MLv y_Se_forget := ⟨(mw 607 (by decide +kernel)), (mw 608 (by decide +kernel))⟩
theorem fl_Ly_26 : FL R_Ly 26 0 2 := ⟨R_Ly, F_Ly, N_Ly, rfl, by decide, i_Ly, (mw 541 (by decide +kernel))⟩
theorem fl_Ly_185 : FL R_Ly 185 3 0 := ⟨R_Sy, F_Sy, N_Sy, rfl, by decide, i_Sy, (mw 213 (by decide +kernel))⟩
theorem ft_Sy_0 : FT 3 0 .int := ⟨R_Sy, F_Sy, N_Sy, rfl, rfl, by decide +kernel⟩
theorem fl_Ly_33 : FL R_Ly 33 0 3 := ⟨R_Ly, F_Ly, N_Ly, rfl, by decide, i_Ly, (mw 542 (by decide +kernel))⟩
theorem fl_Ly_209 : FL R_Ly 209 4 0 := ⟨R_Re, F_Re, N_Re, rfl, by decide, i_Re, (mw 256 (by decide +kernel))⟩
theorem ft_Re_0 : FT 4 0 .int := ⟨R_Re, F_Re, N_Re, rfl, rfl, by decide +kernel⟩
theorem fl_Ly_98 : FL R_Ly 98 0 11 := ⟨R_Ly, F_Ly, N_Ly, rfl, by decide, i_Ly, (mw 550 (by decide +kernel))⟩
theorem ft_Ly_11 : FT 0 11 .int := ⟨R_Ly, F_Ly, N_Ly, rfl, rfl, by decide +kernel⟩
theorem fl_Sy_18 : FL R_Sy 18 3 3 := ⟨R_Sy, F_Sy, N_Sy, rfl, by decide, i_Sy, (mw 222 (by decide +kernel))⟩
theorem ki_1 : Int32.ofInt 1 = 1 := by decide
theorem fl_Sy_21 : FL R_Sy 21 3 4 := ⟨R_Sy, F_Sy, N_Sy, rfl, by decide, i_Sy, (mw 225 (by decide +kernel))⟩
theorem fl_Ar_22 : FL R_Ar 22 5 1 := ⟨R_Ar, F_Ar, N_Ar, rfl, by decide, i_Ar, (mw 309 (by decide +kernel))⟩
theorem ml_Ar_63 : MLb R_Ar 63 y_Sy_asksForName b_Sy_asksForName 2 (some .boolean) 1 := ⟨(mw 1162 (by decide +kernel)), (mw 1159 (by decide +kernel)), (mw 86 (by decide +kernel)), by decide +kernel⟩
theorem mv_Sy_asksForName : MLv y_Sy_asksForName := ⟨(mw 1160 (by decide +kernel)), (mw 1161 (by decide +kernel))⟩
theorem ml_Ar_70 : MLb R_Ar 70 y_Sy_givesName b_Sy_givesName 2 (some .boolean) 1 := ⟨(mw 1166 (by decide +kernel)), (mw 1163 (by decide +kernel)), (mw 86 (by decide +kernel)), by decide +kernel⟩
theorem mv_Sy_givesName : MLv y_Sy_givesName := ⟨(mw 1164 (by decide +kernel)), (mw 1165 (by decide +kernel))⟩
theorem fl_Ar_15 : FL R_Ar 15 5 3 := ⟨R_Ar, F_Ar, N_Ar, rfl, by decide, i_Ar, (mw 311 (by decide +kernel))⟩
theorem fl_Ar_67 : FL R_Ar 67 3 2 := ⟨R_Sy, F_Sy, N_Sy, rfl, by decide, i_Sy, (mw 220 (by decide +kernel))⟩
theorem fl_Ar_9 : FL R_Ar 9 5 2 := ⟨R_Ar, F_Ar, N_Ar, rfl, by decide, i_Ar, (mw 310 (by decide +kernel))⟩
theorem fl_Ar_54 : FL R_Ar 54 3 0 := ⟨R_Sy, F_Sy, N_Sy, rfl, by decide, i_Sy, (mw 212 (by decide +kernel))⟩
theorem fl_Ar_57 : FL R_Ar 57 3 1 := ⟨R_Sy, F_Sy, N_Sy, rfl, by decide, i_Sy, (mw 216 (by decide +kernel))⟩
theorem ml_Ar_60 : MLb R_Ar 60 y_Ar_note b_Ar_note 2 (none) 1 := ⟨(mw 1158 (by decide +kernel)), (mw 1155 (by decide +kernel)), (mw 88 (by decide +kernel)), by decide +kernel⟩
theorem mv_Ar_note : MLv y_Ar_note := ⟨(mw 1157 (by decide +kernel)), (mw 6 (by decide +kernel))⟩
theorem fl_Ar_18 : FL R_Ar 18 5 0 := ⟨R_Ar, F_Ar, N_Ar, rfl, by decide, i_Ar, (mw 308 (by decide +kernel))⟩
theorem fl_Ar_40 : FL R_Ar 40 1 2 := ⟨R_Un, F_Un, N_Un, rfl, by decide, i_Un, (mw 137 (by decide +kernel))⟩
theorem ks_200 : (Int16.ofInt 200).toInt32 = 200 := by decide
theorem fl_Ar_34 : FL R_Ar 34 1 0 := ⟨R_Un, F_Un, N_Un, rfl, by decide, i_Un, (mw 131 (by decide +kernel))⟩
theorem fl_Ar_43 : FL R_Ar 43 1 1 := ⟨R_Un, F_Un, N_Un, rfl, by decide, i_Un, (mw 133 (by decide +kernel))⟩
theorem ml_Ar_47 : MLb R_Ar 47 y_Ar_admit b_Ar_admit 3 (none) 1 := ⟨(mw 1154 (by decide +kernel)), (mw 1151 (by decide +kernel)), (mw 88 (by decide +kernel)), by decide +kernel⟩
theorem mv_Ar_admit : MLv y_Ar_admit := ⟨(mw 1153 (by decide +kernel)), (mw 5 (by decide +kernel))⟩
theorem fl_Ar_76 : FL R_Ar 76 3 3 := ⟨R_Sy, F_Sy, N_Sy, rfl, by decide, i_Sy, (mw 224 (by decide +kernel))⟩
theorem ki_2 : Int32.ofInt 2 = 2 := by decide
theorem ml_Ar_73 : MLb R_Ar 73 y_Ar_isNeeded b_Ar_isNeeded 3 (some .boolean) 1 := ⟨(mw 1178 (by decide +kernel)), (mw 1175 (by decide +kernel)), (mw 88 (by decide +kernel)), by decide +kernel⟩
theorem mv_Ar_isNeeded : MLv y_Ar_isNeeded := ⟨(mw 1177 (by decide +kernel)), (mw 9 (by decide +kernel))⟩
theorem kb_24 : (Int8.ofInt 24).toInt32 = 24 := by decide
theorem ml_Ar_50 : MLb R_Ar 50 y_Ar_firstNeeded b_Ar_firstNeeded 6 (some .int) 1 := ⟨(mw 1174 (by decide +kernel)), (mw 1171 (by decide +kernel)), (mw 88 (by decide +kernel)), by decide +kernel⟩
theorem mv_Ar_firstNeeded : MLv y_Ar_firstNeeded := ⟨(mw 1173 (by decide +kernel)), (mw 8 (by decide +kernel))⟩
theorem ki_4 : Int32.ofInt 4 = 4 := by decide
theorem ml_Ar_30 : MLb R_Ar 30 y_Ar_goThroughArchives b_Ar_goThroughArchives 5 (some .boolean) 0 := ⟨(mw 1170 (by decide +kernel)), (mw 1167 (by decide +kernel)), (mw 88 (by decide +kernel)), by decide +kernel⟩
theorem mv_Ar_goThroughArchives : MLv y_Ar_goThroughArchives := ⟨(mw 1169 (by decide +kernel)), (mw 7 (by decide +kernel))⟩
theorem ml_Ar_26 : MLb R_Ar 26 y_Ar_begin b_Ar_begin 3 (none) 1 := ⟨(mw 1150 (by decide +kernel)), (mw 1147 (by decide +kernel)), (mw 88 (by decide +kernel)), by decide +kernel⟩
theorem mv_Ar_begin : MLv y_Ar_begin := ⟨(mw 1149 (by decide +kernel)), (mw 4 (by decide +kernel))⟩
theorem kb_25 : (Int8.ofInt 25).toInt32 = 25 := by decide
theorem fl_Na_9 : FL R_Na 9 6 2 := ⟨R_Na, F_Na, N_Na, rfl, by decide, i_Na, (mw 329 (by decide +kernel))⟩
theorem fl_Na_18 : FL R_Na 18 6 4 := ⟨R_Na, F_Na, N_Na, rfl, by decide, i_Na, (mw 331 (by decide +kernel))⟩
theorem ml_Na_93 : MLb R_Na 93 y_Na_isCommon b_Na_isCommon 2 (some .boolean) 1 := ⟨(mw 1213 (by decide +kernel)), (mw 1210 (by decide +kernel)), (mw 89 (by decide +kernel)), by decide +kernel⟩
theorem mv_Na_isCommon : MLv y_Na_isCommon := ⟨(mw 1212 (by decide +kernel)), (mw 16 (by decide +kernel))⟩
theorem fl_Na_15 : FL R_Na 15 6 3 := ⟨R_Na, F_Na, N_Na, rfl, by decide, i_Na, (mw 330 (by decide +kernel))⟩
theorem ml_Na_96 : MLb R_Na 96 y_Na_definer b_Na_definer 2 (some .int) 1 := ⟨(mw 1217 (by decide +kernel)), (mw 1214 (by decide +kernel)), (mw 89 (by decide +kernel)), by decide +kernel⟩
theorem mv_Na_definer : MLv y_Na_definer := ⟨(mw 1216 (by decide +kernel)), (mw 17 (by decide +kernel))⟩
theorem fl_Na_34 : FL R_Na 34 6 1 := ⟨R_Na, F_Na, N_Na, rfl, by decide, i_Na, (mw 328 (by decide +kernel))⟩
theorem fl_Na_100 : FL R_Na 100 3 5 := ⟨R_Sy, F_Sy, N_Sy, rfl, by decide, i_Sy, (mw 228 (by decide +kernel))⟩
theorem fl_Na_21 : FL R_Na 21 6 6 := ⟨R_Na, F_Na, N_Na, rfl, by decide, i_Na, (mw 335 (by decide +kernel))⟩
theorem fl_Na_24 : FL R_Na 24 6 7 := ⟨R_Na, F_Na, N_Na, rfl, by decide, i_Na, (mw 341 (by decide +kernel))⟩
theorem fl_Na_27 : FL R_Na 27 6 8 := ⟨R_Na, F_Na, N_Na, rfl, by decide, i_Na, (mw 346 (by decide +kernel))⟩
theorem fl_Na_110 : FL R_Na 110 3 4 := ⟨R_Sy, F_Sy, N_Sy, rfl, by decide, i_Sy, (mw 226 (by decide +kernel))⟩
theorem fl_Na_83 : FL R_Na 83 3 6 := ⟨R_Sy, F_Sy, N_Sy, rfl, by decide, i_Sy, (mw 230 (by decide +kernel))⟩
theorem ml_Na_103 : MLb R_Na 103 y_Na_setMeaning b_Na_setMeaning 5 (none) 4 := ⟨(mw 1205 (by decide +kernel)), (mw 1202 (by decide +kernel)), (mw 89 (by decide +kernel)), by decide +kernel⟩
theorem mv_Na_setMeaning : MLv y_Na_setMeaning := ⟨(mw 1204 (by decide +kernel)), (mw 14 (by decide +kernel))⟩
theorem d_Ly_takeLinkAway_0 : decode b_Ly_takeLinkAway 0 = .ok (.aload_n 0, 1) := by decide +kernel
theorem d_Ly_takeLinkAway_1 : decode b_Ly_takeLinkAway 1 = .ok (.iconst 0, 1) := by decide +kernel
theorem d_Ly_takeLinkAway_2 : decode b_Ly_takeLinkAway 2 = .ok (.putfield 243, 3) := by decide +kernel
theorem d_Ly_takeLinkAway_5 : decode b_Ly_takeLinkAway 5 = .ok (.aload_n 0, 1) := by decide +kernel
theorem d_Ly_takeLinkAway_6 : decode b_Ly_takeLinkAway 6 = .ok (.iconst 0, 1) := by decide +kernel
theorem d_Ly_takeLinkAway_7 : decode b_Ly_takeLinkAway 7 = .ok (.putfield 249, 3) := by decide +kernel
theorem d_Ly_takeLinkAway_10 : decode b_Ly_takeLinkAway 10 = .ok (.aload_n 0, 1) := by decide +kernel
theorem d_Ly_takeLinkAway_11 : decode b_Ly_takeLinkAway 11 = .ok (.iconst (-1), 1) := by decide +kernel
theorem d_Ly_takeLinkAway_12 : decode b_Ly_takeLinkAway 12 = .ok (.putfield 102, 3) := by decide +kernel
theorem d_Ly_takeLinkAway_15 : decode b_Ly_takeLinkAway 15 = .ok (.aload_n 0, 1) := by decide +kernel
theorem d_Ly_takeLinkAway_16 : decode b_Ly_takeLinkAway 16 = .ok (.iconst (-1), 1) := by decide +kernel
theorem d_Ly_takeLinkAway_17 : decode b_Ly_takeLinkAway 17 = .ok (.putfield 105, 3) := by decide +kernel
theorem d_Ly_takeLinkAway_20 : decode b_Ly_takeLinkAway 20 = .ok (.return_, 1) := by decide +kernel
theorem d_Ly_fold_0 : decode b_Ly_fold 0 = .ok (.aload_n 0, 1) := by decide +kernel
theorem d_Ly_fold_1 : decode b_Ly_fold 1 = .ok (.invokevirtual 123, 3) := by decide +kernel
theorem d_Ly_fold_4 : decode b_Ly_fold 4 = .ok (.aload_n 0, 1) := by decide +kernel
theorem d_Ly_fold_5 : decode b_Ly_fold 5 = .ok (.iload_n 1, 1) := by decide +kernel
theorem d_Ly_fold_6 : decode b_Ly_fold 6 = .ok (.putfield 223, 3) := by decide +kernel
theorem d_Ly_fold_9 : decode b_Ly_fold 9 = .ok (.aload_n 0, 1) := by decide +kernel
theorem d_Ly_fold_10 : decode b_Ly_fold 10 = .ok (.iload_n 2, 1) := by decide +kernel
theorem d_Ly_fold_11 : decode b_Ly_fold 11 = .ok (.putfield 227, 3) := by decide +kernel
theorem d_Ly_fold_14 : decode b_Ly_fold 14 = .ok (.return_, 1) := by decide +kernel
theorem d_Se_forget_0 : decode b_Se_forget 0 = .ok (.aload_n 0, 1) := by decide +kernel
theorem d_Se_forget_1 : decode b_Se_forget 1 = .ok (.iconst 0, 1) := by decide +kernel
theorem d_Se_forget_2 : decode b_Se_forget 2 = .ok (.putfield 34, 3) := by decide +kernel
theorem d_Se_forget_5 : decode b_Se_forget 5 = .ok (.aload_n 0, 1) := by decide +kernel
theorem d_Se_forget_6 : decode b_Se_forget 6 = .ok (.iconst 0, 1) := by decide +kernel
theorem d_Se_forget_7 : decode b_Se_forget 7 = .ok (.putfield 45, 3) := by decide +kernel
theorem d_Se_forget_10 : decode b_Se_forget 10 = .ok (.aload_n 0, 1) := by decide +kernel
theorem d_Se_forget_11 : decode b_Se_forget 11 = .ok (.iconst 0, 1) := by decide +kernel
theorem d_Se_forget_12 : decode b_Se_forget 12 = .ok (.putfield 42, 3) := by decide +kernel
theorem d_Se_forget_15 : decode b_Se_forget 15 = .ok (.return_, 1) := by decide +kernel
theorem d_Ly_clear_0 : decode b_Ly_clear 0 = .ok (.aload_n 0, 1) := by decide +kernel
theorem d_Ly_clear_1 : decode b_Ly_clear 1 = .ok (.invokevirtual 123, 3) := by decide +kernel
theorem d_Ly_clear_4 : decode b_Ly_clear 4 = .ok (.aload_n 0, 1) := by decide +kernel
theorem d_Ly_clear_5 : decode b_Ly_clear 5 = .ok (.getfield 10, 3) := by decide +kernel
theorem d_Ly_clear_8 : decode b_Ly_clear 8 = .ok (.iconst 0, 1) := by decide +kernel
theorem d_Ly_clear_9 : decode b_Ly_clear 9 = .ok (.putfield 115, 3) := by decide +kernel
theorem d_Ly_clear_12 : decode b_Ly_clear 12 = .ok (.aload_n 0, 1) := by decide +kernel
theorem d_Ly_clear_13 : decode b_Ly_clear 13 = .ok (.getfield 19, 3) := by decide +kernel
theorem d_Ly_clear_16 : decode b_Ly_clear 16 = .ok (.invokevirtual 230, 3) := by decide +kernel
theorem d_Ly_clear_19 : decode b_Ly_clear 19 = .ok (.aload_n 0, 1) := by decide +kernel
theorem d_Ly_clear_20 : decode b_Ly_clear 20 = .ok (.getfield 26, 3) := by decide +kernel
theorem d_Ly_clear_23 : decode b_Ly_clear 23 = .ok (.iconst 0, 1) := by decide +kernel
theorem d_Ly_clear_24 : decode b_Ly_clear 24 = .ok (.putfield 185, 3) := by decide +kernel
theorem d_Ly_clear_27 : decode b_Ly_clear 27 = .ok (.aload_n 0, 1) := by decide +kernel
theorem d_Ly_clear_28 : decode b_Ly_clear 28 = .ok (.getfield 33, 3) := by decide +kernel
theorem d_Ly_clear_31 : decode b_Ly_clear 31 = .ok (.iconst 0, 1) := by decide +kernel
theorem d_Ly_clear_32 : decode b_Ly_clear 32 = .ok (.putfield 209, 3) := by decide +kernel
theorem d_Ly_clear_35 : decode b_Ly_clear 35 = .ok (.aload_n 0, 1) := by decide +kernel
theorem d_Ly_clear_36 : decode b_Ly_clear 36 = .ok (.iconst (-1), 1) := by decide +kernel
theorem d_Ly_clear_37 : decode b_Ly_clear 37 = .ok (.putfield 98, 3) := by decide +kernel
theorem d_Ly_clear_40 : decode b_Ly_clear 40 = .ok (.aload_n 0, 1) := by decide +kernel
theorem d_Ly_clear_41 : decode b_Ly_clear 41 = .ok (.iconst 0, 1) := by decide +kernel
theorem d_Ly_clear_42 : decode b_Ly_clear 42 = .ok (.putfield 223, 3) := by decide +kernel
theorem d_Ly_clear_45 : decode b_Ly_clear 45 = .ok (.aload_n 0, 1) := by decide +kernel
theorem d_Ly_clear_46 : decode b_Ly_clear 46 = .ok (.iconst 0, 1) := by decide +kernel
theorem d_Ly_clear_47 : decode b_Ly_clear 47 = .ok (.putfield 227, 3) := by decide +kernel
theorem d_Ly_clear_50 : decode b_Ly_clear 50 = .ok (.return_, 1) := by decide +kernel
theorem d_Sy_asksForName_0 : decode b_Sy_asksForName 0 = .ok (.aload_n 0, 1) := by decide +kernel
theorem d_Sy_asksForName_1 : decode b_Sy_asksForName 1 = .ok (.getfield 18, 3) := by decide +kernel
theorem d_Sy_asksForName_4 : decode b_Sy_asksForName 4 = .ok (.iload_n 1, 1) := by decide +kernel
theorem d_Sy_asksForName_5 : decode b_Sy_asksForName 5 = .ok (.iaload, 1) := by decide +kernel
theorem d_Sy_asksForName_6 : decode b_Sy_asksForName 6 = .ok (.iconst 1, 1) := by decide +kernel
theorem d_Sy_asksForName_7 : decode b_Sy_asksForName 7 = .ok (.if_icmp .ne 16, 3) := by decide +kernel
theorem d_Sy_asksForName_10 : decode b_Sy_asksForName 10 = .ok (.aload_n 0, 1) := by decide +kernel
theorem d_Sy_asksForName_11 : decode b_Sy_asksForName 11 = .ok (.getfield 21, 3) := by decide +kernel
theorem d_Sy_asksForName_14 : decode b_Sy_asksForName 14 = .ok (.iload_n 1, 1) := by decide +kernel
theorem d_Sy_asksForName_15 : decode b_Sy_asksForName 15 = .ok (.iaload, 1) := by decide +kernel
theorem d_Sy_asksForName_16 : decode b_Sy_asksForName 16 = .ok (.ifCond .ne 7, 3) := by decide +kernel
theorem d_Sy_asksForName_19 : decode b_Sy_asksForName 19 = .ok (.iconst 1, 1) := by decide +kernel
theorem d_Sy_asksForName_20 : decode b_Sy_asksForName 20 = .ok (.goto 4, 3) := by decide +kernel
theorem d_Sy_asksForName_23 : decode b_Sy_asksForName 23 = .ok (.iconst 0, 1) := by decide +kernel
theorem d_Sy_asksForName_24 : decode b_Sy_asksForName 24 = .ok (.ireturn, 1) := by decide +kernel
theorem d_Sy_givesName_0 : decode b_Sy_givesName 0 = .ok (.aload_n 0, 1) := by decide +kernel
theorem d_Sy_givesName_1 : decode b_Sy_givesName 1 = .ok (.getfield 18, 3) := by decide +kernel
theorem d_Sy_givesName_4 : decode b_Sy_givesName 4 = .ok (.iload_n 1, 1) := by decide +kernel
theorem d_Sy_givesName_5 : decode b_Sy_givesName 5 = .ok (.iaload, 1) := by decide +kernel
theorem d_Sy_givesName_6 : decode b_Sy_givesName 6 = .ok (.ifCond .eq 16, 3) := by decide +kernel
theorem d_Sy_givesName_9 : decode b_Sy_givesName 9 = .ok (.aload_n 0, 1) := by decide +kernel
theorem d_Sy_givesName_10 : decode b_Sy_givesName 10 = .ok (.getfield 21, 3) := by decide +kernel
theorem d_Sy_givesName_13 : decode b_Sy_givesName 13 = .ok (.iload_n 1, 1) := by decide +kernel
theorem d_Sy_givesName_14 : decode b_Sy_givesName 14 = .ok (.iaload, 1) := by decide +kernel
theorem d_Sy_givesName_15 : decode b_Sy_givesName 15 = .ok (.ifCond .eq 7, 3) := by decide +kernel
theorem d_Sy_givesName_18 : decode b_Sy_givesName 18 = .ok (.iconst 1, 1) := by decide +kernel
theorem d_Sy_givesName_19 : decode b_Sy_givesName 19 = .ok (.goto 4, 3) := by decide +kernel
theorem d_Sy_givesName_22 : decode b_Sy_givesName 22 = .ok (.iconst 0, 1) := by decide +kernel
theorem d_Sy_givesName_23 : decode b_Sy_givesName 23 = .ok (.ireturn, 1) := by decide +kernel
theorem d_Ar_note_0 : decode b_Ar_note 0 = .ok (.aload_n 0, 1) := by decide +kernel
theorem d_Ar_note_1 : decode b_Ar_note 1 = .ok (.getfield 22, 3) := by decide +kernel
theorem d_Ar_note_4 : decode b_Ar_note 4 = .ok (.iload_n 1, 1) := by decide +kernel
theorem d_Ar_note_5 : decode b_Ar_note 5 = .ok (.invokevirtual 63, 3) := by decide +kernel
theorem d_Ar_note_8 : decode b_Ar_note 8 = .ok (.ifCond .eq 18, 3) := by decide +kernel
theorem d_Ar_note_11 : decode b_Ar_note 11 = .ok (.aload_n 0, 1) := by decide +kernel
theorem d_Ar_note_12 : decode b_Ar_note 12 = .ok (.getfield 9, 3) := by decide +kernel
theorem d_Ar_note_15 : decode b_Ar_note 15 = .ok (.aload_n 0, 1) := by decide +kernel
theorem d_Ar_note_16 : decode b_Ar_note 16 = .ok (.getfield 22, 3) := by decide +kernel
theorem d_Ar_note_19 : decode b_Ar_note 19 = .ok (.getfield 67, 3) := by decide +kernel
theorem d_Ar_note_22 : decode b_Ar_note 22 = .ok (.iload_n 1, 1) := by decide +kernel
theorem d_Ar_note_23 : decode b_Ar_note 23 = .ok (.iaload, 1) := by decide +kernel
theorem d_Ar_note_24 : decode b_Ar_note 24 = .ok (.iconst 1, 1) := by decide +kernel
theorem d_Ar_note_25 : decode b_Ar_note 25 = .ok (.bastore, 1) := by decide +kernel
theorem d_Ar_note_26 : decode b_Ar_note 26 = .ok (.aload_n 0, 1) := by decide +kernel
theorem d_Ar_note_27 : decode b_Ar_note 27 = .ok (.getfield 22, 3) := by decide +kernel
theorem d_Ar_note_30 : decode b_Ar_note 30 = .ok (.iload_n 1, 1) := by decide +kernel
theorem d_Ar_note_31 : decode b_Ar_note 31 = .ok (.invokevirtual 70, 3) := by decide +kernel
theorem d_Ar_note_34 : decode b_Ar_note 34 = .ok (.ifCond .eq 18, 3) := by decide +kernel
theorem d_Ar_note_37 : decode b_Ar_note 37 = .ok (.aload_n 0, 1) := by decide +kernel
theorem d_Ar_note_38 : decode b_Ar_note 38 = .ok (.getfield 15, 3) := by decide +kernel
theorem d_Ar_note_41 : decode b_Ar_note 41 = .ok (.aload_n 0, 1) := by decide +kernel
theorem d_Ar_note_42 : decode b_Ar_note 42 = .ok (.getfield 22, 3) := by decide +kernel
theorem d_Ar_note_45 : decode b_Ar_note 45 = .ok (.getfield 67, 3) := by decide +kernel
theorem d_Ar_note_48 : decode b_Ar_note 48 = .ok (.iload_n 1, 1) := by decide +kernel
theorem d_Ar_note_49 : decode b_Ar_note 49 = .ok (.iaload, 1) := by decide +kernel
theorem d_Ar_note_50 : decode b_Ar_note 50 = .ok (.iconst 1, 1) := by decide +kernel
theorem d_Ar_note_51 : decode b_Ar_note 51 = .ok (.bastore, 1) := by decide +kernel
theorem d_Ar_note_52 : decode b_Ar_note 52 = .ok (.return_, 1) := by decide +kernel
theorem d_Ar_admit_0 : decode b_Ar_admit 0 = .ok (.aload_n 0, 1) := by decide +kernel
theorem d_Ar_admit_1 : decode b_Ar_admit 1 = .ok (.getfield 18, 3) := by decide +kernel
theorem d_Ar_admit_4 : decode b_Ar_admit 4 = .ok (.getfield 40, 3) := by decide +kernel
theorem d_Ar_admit_7 : decode b_Ar_admit 7 = .ok (.iload_n 1, 1) := by decide +kernel
theorem d_Ar_admit_8 : decode b_Ar_admit 8 = .ok (.iconst 1, 1) := by decide +kernel
theorem d_Ar_admit_9 : decode b_Ar_admit 9 = .ok (.bastore, 1) := by decide +kernel
theorem d_Ar_admit_10 : decode b_Ar_admit 10 = .ok (.iconst 0, 1) := by decide +kernel
theorem d_Ar_admit_11 : decode b_Ar_admit 11 = .ok (.istore_n 2, 1) := by decide +kernel
theorem d_Ar_admit_12 : decode b_Ar_admit 12 = .ok (.iload_n 2, 1) := by decide +kernel
theorem d_Ar_admit_13 : decode b_Ar_admit 13 = .ok (.aload_n 0, 1) := by decide +kernel
theorem d_Ar_admit_14 : decode b_Ar_admit 14 = .ok (.getfield 22, 3) := by decide +kernel
theorem d_Ar_admit_17 : decode b_Ar_admit 17 = .ok (.getfield 54, 3) := by decide +kernel
theorem d_Ar_admit_20 : decode b_Ar_admit 20 = .ok (.if_icmp .ge 27, 3) := by decide +kernel
theorem d_Ar_admit_23 : decode b_Ar_admit 23 = .ok (.aload_n 0, 1) := by decide +kernel
theorem d_Ar_admit_24 : decode b_Ar_admit 24 = .ok (.getfield 22, 3) := by decide +kernel
theorem d_Ar_admit_27 : decode b_Ar_admit 27 = .ok (.getfield 57, 3) := by decide +kernel
theorem d_Ar_admit_30 : decode b_Ar_admit 30 = .ok (.iload_n 2, 1) := by decide +kernel
theorem d_Ar_admit_31 : decode b_Ar_admit 31 = .ok (.iaload, 1) := by decide +kernel
theorem d_Ar_admit_32 : decode b_Ar_admit 32 = .ok (.iload_n 1, 1) := by decide +kernel
theorem d_Ar_admit_33 : decode b_Ar_admit 33 = .ok (.if_icmp .ne 8, 3) := by decide +kernel
theorem d_Ar_admit_36 : decode b_Ar_admit 36 = .ok (.aload_n 0, 1) := by decide +kernel
theorem d_Ar_admit_37 : decode b_Ar_admit 37 = .ok (.iload_n 2, 1) := by decide +kernel
theorem d_Ar_admit_38 : decode b_Ar_admit 38 = .ok (.invokevirtual 60, 3) := by decide +kernel
theorem d_Ar_admit_41 : decode b_Ar_admit 41 = .ok (.iinc 2 1, 3) := by decide +kernel
theorem d_Ar_admit_44 : decode b_Ar_admit 44 = .ok (.goto (-32), 3) := by decide +kernel
theorem d_Ar_admit_47 : decode b_Ar_admit 47 = .ok (.return_, 1) := by decide +kernel
theorem d_Ar_begin_0 : decode b_Ar_begin 0 = .ok (.iconst 0, 1) := by decide +kernel
theorem d_Ar_begin_1 : decode b_Ar_begin 1 = .ok (.istore_n 2, 1) := by decide +kernel
theorem d_Ar_begin_2 : decode b_Ar_begin 2 = .ok (.iload_n 2, 1) := by decide +kernel
theorem d_Ar_begin_3 : decode b_Ar_begin 3 = .ok (.sipush 200, 3) := by decide +kernel
theorem d_Ar_begin_6 : decode b_Ar_begin 6 = .ok (.if_icmp .ge 32, 3) := by decide +kernel
theorem d_Ar_begin_9 : decode b_Ar_begin 9 = .ok (.aload_n 0, 1) := by decide +kernel
theorem d_Ar_begin_10 : decode b_Ar_begin 10 = .ok (.getfield 9, 3) := by decide +kernel
theorem d_Ar_begin_13 : decode b_Ar_begin 13 = .ok (.iload_n 2, 1) := by decide +kernel
theorem d_Ar_begin_14 : decode b_Ar_begin 14 = .ok (.iload_n 2, 1) := by decide +kernel
theorem d_Ar_begin_15 : decode b_Ar_begin 15 = .ok (.iload_n 1, 1) := by decide +kernel
theorem d_Ar_begin_16 : decode b_Ar_begin 16 = .ok (.if_icmp .ne 7, 3) := by decide +kernel
theorem d_Ar_begin_19 : decode b_Ar_begin 19 = .ok (.iconst 1, 1) := by decide +kernel
theorem d_Ar_begin_20 : decode b_Ar_begin 20 = .ok (.goto 4, 3) := by decide +kernel
theorem d_Ar_begin_23 : decode b_Ar_begin 23 = .ok (.iconst 0, 1) := by decide +kernel
theorem d_Ar_begin_24 : decode b_Ar_begin 24 = .ok (.bastore, 1) := by decide +kernel
theorem d_Ar_begin_25 : decode b_Ar_begin 25 = .ok (.aload_n 0, 1) := by decide +kernel
theorem d_Ar_begin_26 : decode b_Ar_begin 26 = .ok (.getfield 15, 3) := by decide +kernel
theorem d_Ar_begin_29 : decode b_Ar_begin 29 = .ok (.iload_n 2, 1) := by decide +kernel
theorem d_Ar_begin_30 : decode b_Ar_begin 30 = .ok (.iconst 0, 1) := by decide +kernel
theorem d_Ar_begin_31 : decode b_Ar_begin 31 = .ok (.bastore, 1) := by decide +kernel
theorem d_Ar_begin_32 : decode b_Ar_begin 32 = .ok (.iinc 2 1, 3) := by decide +kernel
theorem d_Ar_begin_35 : decode b_Ar_begin 35 = .ok (.goto (-33), 3) := by decide +kernel
theorem d_Ar_begin_38 : decode b_Ar_begin 38 = .ok (.iconst 0, 1) := by decide +kernel
theorem d_Ar_begin_39 : decode b_Ar_begin 39 = .ok (.istore_n 2, 1) := by decide +kernel
theorem d_Ar_begin_40 : decode b_Ar_begin 40 = .ok (.iload_n 2, 1) := by decide +kernel
theorem d_Ar_begin_41 : decode b_Ar_begin 41 = .ok (.aload_n 0, 1) := by decide +kernel
theorem d_Ar_begin_42 : decode b_Ar_begin 42 = .ok (.getfield 18, 3) := by decide +kernel
theorem d_Ar_begin_45 : decode b_Ar_begin 45 = .ok (.getfield 34, 3) := by decide +kernel
theorem d_Ar_begin_48 : decode b_Ar_begin 48 = .ok (.if_icmp .ge 19, 3) := by decide +kernel
theorem d_Ar_begin_51 : decode b_Ar_begin 51 = .ok (.aload_n 0, 1) := by decide +kernel
theorem d_Ar_begin_52 : decode b_Ar_begin 52 = .ok (.getfield 18, 3) := by decide +kernel
theorem d_Ar_begin_55 : decode b_Ar_begin 55 = .ok (.getfield 40, 3) := by decide +kernel
theorem d_Ar_begin_58 : decode b_Ar_begin 58 = .ok (.iload_n 2, 1) := by decide +kernel
theorem d_Ar_begin_59 : decode b_Ar_begin 59 = .ok (.iconst 0, 1) := by decide +kernel
theorem d_Ar_begin_60 : decode b_Ar_begin 60 = .ok (.bastore, 1) := by decide +kernel
theorem d_Ar_begin_61 : decode b_Ar_begin 61 = .ok (.iinc 2 1, 3) := by decide +kernel
theorem d_Ar_begin_64 : decode b_Ar_begin 64 = .ok (.goto (-24), 3) := by decide +kernel
theorem d_Ar_begin_67 : decode b_Ar_begin 67 = .ok (.iconst 0, 1) := by decide +kernel
theorem d_Ar_begin_68 : decode b_Ar_begin 68 = .ok (.istore_n 2, 1) := by decide +kernel
theorem d_Ar_begin_69 : decode b_Ar_begin 69 = .ok (.iload_n 2, 1) := by decide +kernel
theorem d_Ar_begin_70 : decode b_Ar_begin 70 = .ok (.aload_n 0, 1) := by decide +kernel
theorem d_Ar_begin_71 : decode b_Ar_begin 71 = .ok (.getfield 18, 3) := by decide +kernel
theorem d_Ar_begin_74 : decode b_Ar_begin 74 = .ok (.getfield 34, 3) := by decide +kernel
theorem d_Ar_begin_77 : decode b_Ar_begin 77 = .ok (.if_icmp .ge 27, 3) := by decide +kernel
theorem d_Ar_begin_80 : decode b_Ar_begin 80 = .ok (.aload_n 0, 1) := by decide +kernel
theorem d_Ar_begin_81 : decode b_Ar_begin 81 = .ok (.getfield 18, 3) := by decide +kernel
theorem d_Ar_begin_84 : decode b_Ar_begin 84 = .ok (.getfield 43, 3) := by decide +kernel
theorem d_Ar_begin_87 : decode b_Ar_begin 87 = .ok (.iload_n 2, 1) := by decide +kernel
theorem d_Ar_begin_88 : decode b_Ar_begin 88 = .ok (.iaload, 1) := by decide +kernel
theorem d_Ar_begin_89 : decode b_Ar_begin 89 = .ok (.iconst (-1), 1) := by decide +kernel
theorem d_Ar_begin_90 : decode b_Ar_begin 90 = .ok (.if_icmp .ne 8, 3) := by decide +kernel
theorem d_Ar_begin_93 : decode b_Ar_begin 93 = .ok (.aload_n 0, 1) := by decide +kernel
theorem d_Ar_begin_94 : decode b_Ar_begin 94 = .ok (.iload_n 2, 1) := by decide +kernel
theorem d_Ar_begin_95 : decode b_Ar_begin 95 = .ok (.invokevirtual 47, 3) := by decide +kernel
theorem d_Ar_begin_98 : decode b_Ar_begin 98 = .ok (.iinc 2 1, 3) := by decide +kernel
theorem d_Ar_begin_101 : decode b_Ar_begin 101 = .ok (.goto (-32), 3) := by decide +kernel
theorem d_Ar_begin_104 : decode b_Ar_begin 104 = .ok (.return_, 1) := by decide +kernel
theorem d_Ar_isNeeded_0 : decode b_Ar_isNeeded 0 = .ok (.aload_n 0, 1) := by decide +kernel
theorem d_Ar_isNeeded_1 : decode b_Ar_isNeeded 1 = .ok (.getfield 22, 3) := by decide +kernel
theorem d_Ar_isNeeded_4 : decode b_Ar_isNeeded 4 = .ok (.getfield 67, 3) := by decide +kernel
theorem d_Ar_isNeeded_7 : decode b_Ar_isNeeded 7 = .ok (.iload_n 1, 1) := by decide +kernel
theorem d_Ar_isNeeded_8 : decode b_Ar_isNeeded 8 = .ok (.iaload, 1) := by decide +kernel
theorem d_Ar_isNeeded_9 : decode b_Ar_isNeeded 9 = .ok (.istore_n 2, 1) := by decide +kernel
theorem d_Ar_isNeeded_10 : decode b_Ar_isNeeded 10 = .ok (.aload_n 0, 1) := by decide +kernel
theorem d_Ar_isNeeded_11 : decode b_Ar_isNeeded 11 = .ok (.getfield 22, 3) := by decide +kernel
theorem d_Ar_isNeeded_14 : decode b_Ar_isNeeded 14 = .ok (.iload_n 1, 1) := by decide +kernel
theorem d_Ar_isNeeded_15 : decode b_Ar_isNeeded 15 = .ok (.invokevirtual 70, 3) := by decide +kernel
theorem d_Ar_isNeeded_18 : decode b_Ar_isNeeded 18 = .ok (.ifCond .eq 38, 3) := by decide +kernel
theorem d_Ar_isNeeded_21 : decode b_Ar_isNeeded 21 = .ok (.aload_n 0, 1) := by decide +kernel
theorem d_Ar_isNeeded_22 : decode b_Ar_isNeeded 22 = .ok (.getfield 22, 3) := by decide +kernel
theorem d_Ar_isNeeded_25 : decode b_Ar_isNeeded 25 = .ok (.getfield 76, 3) := by decide +kernel
theorem d_Ar_isNeeded_28 : decode b_Ar_isNeeded 28 = .ok (.iload_n 1, 1) := by decide +kernel
theorem d_Ar_isNeeded_29 : decode b_Ar_isNeeded 29 = .ok (.iaload, 1) := by decide +kernel
theorem d_Ar_isNeeded_30 : decode b_Ar_isNeeded 30 = .ok (.iconst 2, 1) := by decide +kernel
theorem d_Ar_isNeeded_31 : decode b_Ar_isNeeded 31 = .ok (.if_icmp .eq 25, 3) := by decide +kernel
theorem d_Ar_isNeeded_34 : decode b_Ar_isNeeded 34 = .ok (.aload_n 0, 1) := by decide +kernel
theorem d_Ar_isNeeded_35 : decode b_Ar_isNeeded 35 = .ok (.getfield 9, 3) := by decide +kernel
theorem d_Ar_isNeeded_38 : decode b_Ar_isNeeded 38 = .ok (.iload_n 2, 1) := by decide +kernel
theorem d_Ar_isNeeded_39 : decode b_Ar_isNeeded 39 = .ok (.baload, 1) := by decide +kernel
theorem d_Ar_isNeeded_40 : decode b_Ar_isNeeded 40 = .ok (.ifCond .eq 16, 3) := by decide +kernel
theorem d_Ar_isNeeded_43 : decode b_Ar_isNeeded 43 = .ok (.aload_n 0, 1) := by decide +kernel
theorem d_Ar_isNeeded_44 : decode b_Ar_isNeeded 44 = .ok (.getfield 15, 3) := by decide +kernel
theorem d_Ar_isNeeded_47 : decode b_Ar_isNeeded 47 = .ok (.iload_n 2, 1) := by decide +kernel
theorem d_Ar_isNeeded_48 : decode b_Ar_isNeeded 48 = .ok (.baload, 1) := by decide +kernel
theorem d_Ar_isNeeded_49 : decode b_Ar_isNeeded 49 = .ok (.ifCond .ne 7, 3) := by decide +kernel
theorem d_Ar_isNeeded_52 : decode b_Ar_isNeeded 52 = .ok (.iconst 1, 1) := by decide +kernel
theorem d_Ar_isNeeded_53 : decode b_Ar_isNeeded 53 = .ok (.goto 4, 3) := by decide +kernel
theorem d_Ar_isNeeded_56 : decode b_Ar_isNeeded 56 = .ok (.iconst 0, 1) := by decide +kernel
theorem d_Ar_isNeeded_57 : decode b_Ar_isNeeded 57 = .ok (.ireturn, 1) := by decide +kernel
theorem d_Ar_firstNeeded_0 : decode b_Ar_firstNeeded 0 = .ok (.iconst (-1), 1) := by decide +kernel
theorem d_Ar_firstNeeded_1 : decode b_Ar_firstNeeded 1 = .ok (.istore_n 2, 1) := by decide +kernel
theorem d_Ar_firstNeeded_2 : decode b_Ar_firstNeeded 2 = .ok (.iconst 0, 1) := by decide +kernel
theorem d_Ar_firstNeeded_3 : decode b_Ar_firstNeeded 3 = .ok (.istore_n 3, 1) := by decide +kernel
theorem d_Ar_firstNeeded_4 : decode b_Ar_firstNeeded 4 = .ok (.iload_n 3, 1) := by decide +kernel
theorem d_Ar_firstNeeded_5 : decode b_Ar_firstNeeded 5 = .ok (.aload_n 0, 1) := by decide +kernel
theorem d_Ar_firstNeeded_6 : decode b_Ar_firstNeeded 6 = .ok (.getfield 22, 3) := by decide +kernel
theorem d_Ar_firstNeeded_9 : decode b_Ar_firstNeeded 9 = .ok (.getfield 54, 3) := by decide +kernel
theorem d_Ar_firstNeeded_12 : decode b_Ar_firstNeeded 12 = .ok (.if_icmp .ge 81, 3) := by decide +kernel
theorem d_Ar_firstNeeded_15 : decode b_Ar_firstNeeded 15 = .ok (.aload_n 0, 1) := by decide +kernel
theorem d_Ar_firstNeeded_16 : decode b_Ar_firstNeeded 16 = .ok (.getfield 22, 3) := by decide +kernel
theorem d_Ar_firstNeeded_19 : decode b_Ar_firstNeeded 19 = .ok (.getfield 57, 3) := by decide +kernel
theorem d_Ar_firstNeeded_22 : decode b_Ar_firstNeeded 22 = .ok (.iload_n 3, 1) := by decide +kernel
theorem d_Ar_firstNeeded_23 : decode b_Ar_firstNeeded 23 = .ok (.iaload, 1) := by decide +kernel
theorem d_Ar_firstNeeded_24 : decode b_Ar_firstNeeded 24 = .ok (.istore 4, 2) := by decide +kernel
theorem d_Ar_firstNeeded_26 : decode b_Ar_firstNeeded 26 = .ok (.aload_n 0, 1) := by decide +kernel
theorem d_Ar_firstNeeded_27 : decode b_Ar_firstNeeded 27 = .ok (.getfield 18, 3) := by decide +kernel
theorem d_Ar_firstNeeded_30 : decode b_Ar_firstNeeded 30 = .ok (.getfield 43, 3) := by decide +kernel
theorem d_Ar_firstNeeded_33 : decode b_Ar_firstNeeded 33 = .ok (.iload 4, 2) := by decide +kernel
theorem d_Ar_firstNeeded_35 : decode b_Ar_firstNeeded 35 = .ok (.iaload, 1) := by decide +kernel
theorem d_Ar_firstNeeded_36 : decode b_Ar_firstNeeded 36 = .ok (.iload_n 1, 1) := by decide +kernel
theorem d_Ar_firstNeeded_37 : decode b_Ar_firstNeeded 37 = .ok (.if_icmp .ne 20, 3) := by decide +kernel
theorem d_Ar_firstNeeded_40 : decode b_Ar_firstNeeded 40 = .ok (.aload_n 0, 1) := by decide +kernel
theorem d_Ar_firstNeeded_41 : decode b_Ar_firstNeeded 41 = .ok (.getfield 18, 3) := by decide +kernel
theorem d_Ar_firstNeeded_44 : decode b_Ar_firstNeeded 44 = .ok (.getfield 40, 3) := by decide +kernel
theorem d_Ar_firstNeeded_47 : decode b_Ar_firstNeeded 47 = .ok (.iload 4, 2) := by decide +kernel
theorem d_Ar_firstNeeded_49 : decode b_Ar_firstNeeded 49 = .ok (.baload, 1) := by decide +kernel
theorem d_Ar_firstNeeded_50 : decode b_Ar_firstNeeded 50 = .ok (.ifCond .ne 7, 3) := by decide +kernel
theorem d_Ar_firstNeeded_53 : decode b_Ar_firstNeeded 53 = .ok (.iconst 1, 1) := by decide +kernel
theorem d_Ar_firstNeeded_54 : decode b_Ar_firstNeeded 54 = .ok (.goto 4, 3) := by decide +kernel
theorem d_Ar_firstNeeded_57 : decode b_Ar_firstNeeded 57 = .ok (.iconst 0, 1) := by decide +kernel
theorem d_Ar_firstNeeded_58 : decode b_Ar_firstNeeded 58 = .ok (.istore 5, 2) := by decide +kernel
theorem d_Ar_firstNeeded_60 : decode b_Ar_firstNeeded 60 = .ok (.iload 5, 2) := by decide +kernel
theorem d_Ar_firstNeeded_62 : decode b_Ar_firstNeeded 62 = .ok (.ifCond .eq 25, 3) := by decide +kernel
theorem d_Ar_firstNeeded_65 : decode b_Ar_firstNeeded 65 = .ok (.aload_n 0, 1) := by decide +kernel
theorem d_Ar_firstNeeded_66 : decode b_Ar_firstNeeded 66 = .ok (.iload_n 3, 1) := by decide +kernel
theorem d_Ar_firstNeeded_67 : decode b_Ar_firstNeeded 67 = .ok (.invokevirtual 73, 3) := by decide +kernel
theorem d_Ar_firstNeeded_70 : decode b_Ar_firstNeeded 70 = .ok (.ifCond .eq 17, 3) := by decide +kernel
theorem d_Ar_firstNeeded_73 : decode b_Ar_firstNeeded 73 = .ok (.iload_n 2, 1) := by decide +kernel
theorem d_Ar_firstNeeded_74 : decode b_Ar_firstNeeded 74 = .ok (.iconst (-1), 1) := by decide +kernel
theorem d_Ar_firstNeeded_75 : decode b_Ar_firstNeeded 75 = .ok (.if_icmp .eq 9, 3) := by decide +kernel
theorem d_Ar_firstNeeded_78 : decode b_Ar_firstNeeded 78 = .ok (.iload 4, 2) := by decide +kernel
theorem d_Ar_firstNeeded_80 : decode b_Ar_firstNeeded 80 = .ok (.iload_n 2, 1) := by decide +kernel
theorem d_Ar_firstNeeded_81 : decode b_Ar_firstNeeded 81 = .ok (.if_icmp .ge 6, 3) := by decide +kernel
theorem d_Ar_firstNeeded_84 : decode b_Ar_firstNeeded 84 = .ok (.iload 4, 2) := by decide +kernel
theorem d_Ar_firstNeeded_86 : decode b_Ar_firstNeeded 86 = .ok (.istore_n 2, 1) := by decide +kernel
theorem d_Ar_firstNeeded_87 : decode b_Ar_firstNeeded 87 = .ok (.iinc 3 1, 3) := by decide +kernel
theorem d_Ar_firstNeeded_90 : decode b_Ar_firstNeeded 90 = .ok (.goto (-86), 3) := by decide +kernel
theorem d_Ar_firstNeeded_93 : decode b_Ar_firstNeeded 93 = .ok (.iload_n 2, 1) := by decide +kernel
theorem d_Ar_firstNeeded_94 : decode b_Ar_firstNeeded 94 = .ok (.ireturn, 1) := by decide +kernel
theorem d_Ar_goThroughArchives_0 : decode b_Ar_goThroughArchives 0 = .ok (.iconst 0, 1) := by decide +kernel
theorem d_Ar_goThroughArchives_1 : decode b_Ar_goThroughArchives 1 = .ok (.istore_n 1, 1) := by decide +kernel
theorem d_Ar_goThroughArchives_2 : decode b_Ar_goThroughArchives 2 = .ok (.iconst 0, 1) := by decide +kernel
theorem d_Ar_goThroughArchives_3 : decode b_Ar_goThroughArchives 3 = .ok (.istore_n 2, 1) := by decide +kernel
theorem d_Ar_goThroughArchives_4 : decode b_Ar_goThroughArchives 4 = .ok (.iload_n 2, 1) := by decide +kernel
theorem d_Ar_goThroughArchives_5 : decode b_Ar_goThroughArchives 5 = .ok (.iconst 4, 1) := by decide +kernel
theorem d_Ar_goThroughArchives_6 : decode b_Ar_goThroughArchives 6 = .ok (.if_icmp .ge 47, 3) := by decide +kernel
theorem d_Ar_goThroughArchives_9 : decode b_Ar_goThroughArchives 9 = .ok (.iconst 0, 1) := by decide +kernel
theorem d_Ar_goThroughArchives_10 : decode b_Ar_goThroughArchives 10 = .ok (.istore_n 3, 1) := by decide +kernel
theorem d_Ar_goThroughArchives_11 : decode b_Ar_goThroughArchives 11 = .ok (.iload_n 3, 1) := by decide +kernel
theorem d_Ar_goThroughArchives_12 : decode b_Ar_goThroughArchives 12 = .ok (.bipush 24, 2) := by decide +kernel
theorem d_Ar_goThroughArchives_14 : decode b_Ar_goThroughArchives 14 = .ok (.if_icmp .ge 33, 3) := by decide +kernel
theorem d_Ar_goThroughArchives_17 : decode b_Ar_goThroughArchives 17 = .ok (.aload_n 0, 1) := by decide +kernel
theorem d_Ar_goThroughArchives_18 : decode b_Ar_goThroughArchives 18 = .ok (.iload_n 2, 1) := by decide +kernel
theorem d_Ar_goThroughArchives_19 : decode b_Ar_goThroughArchives 19 = .ok (.invokevirtual 50, 3) := by decide +kernel
theorem d_Ar_goThroughArchives_22 : decode b_Ar_goThroughArchives 22 = .ok (.istore 4, 2) := by decide +kernel
theorem d_Ar_goThroughArchives_24 : decode b_Ar_goThroughArchives 24 = .ok (.iload 4, 2) := by decide +kernel
theorem d_Ar_goThroughArchives_26 : decode b_Ar_goThroughArchives 26 = .ok (.iconst (-1), 1) := by decide +kernel
theorem d_Ar_goThroughArchives_27 : decode b_Ar_goThroughArchives 27 = .ok (.if_icmp .ne 6, 3) := by decide +kernel
theorem d_Ar_goThroughArchives_30 : decode b_Ar_goThroughArchives 30 = .ok (.goto 17, 3) := by decide +kernel
theorem d_Ar_goThroughArchives_33 : decode b_Ar_goThroughArchives 33 = .ok (.aload_n 0, 1) := by decide +kernel
theorem d_Ar_goThroughArchives_34 : decode b_Ar_goThroughArchives 34 = .ok (.iload 4, 2) := by decide +kernel
theorem d_Ar_goThroughArchives_36 : decode b_Ar_goThroughArchives 36 = .ok (.invokevirtual 47, 3) := by decide +kernel
theorem d_Ar_goThroughArchives_39 : decode b_Ar_goThroughArchives 39 = .ok (.iconst 1, 1) := by decide +kernel
theorem d_Ar_goThroughArchives_40 : decode b_Ar_goThroughArchives 40 = .ok (.istore_n 1, 1) := by decide +kernel
theorem d_Ar_goThroughArchives_41 : decode b_Ar_goThroughArchives 41 = .ok (.iinc 3 1, 3) := by decide +kernel
theorem d_Ar_goThroughArchives_44 : decode b_Ar_goThroughArchives 44 = .ok (.goto (-33), 3) := by decide +kernel
theorem d_Ar_goThroughArchives_47 : decode b_Ar_goThroughArchives 47 = .ok (.iinc 2 1, 3) := by decide +kernel
theorem d_Ar_goThroughArchives_50 : decode b_Ar_goThroughArchives 50 = .ok (.goto (-46), 3) := by decide +kernel
theorem d_Ar_goThroughArchives_53 : decode b_Ar_goThroughArchives 53 = .ok (.iload_n 1, 1) := by decide +kernel
theorem d_Ar_goThroughArchives_54 : decode b_Ar_goThroughArchives 54 = .ok (.ireturn, 1) := by decide +kernel
theorem d_Ar_bringIn_0 : decode b_Ar_bringIn 0 = .ok (.aload_n 0, 1) := by decide +kernel
theorem d_Ar_bringIn_1 : decode b_Ar_bringIn 1 = .ok (.iload_n 1, 1) := by decide +kernel
theorem d_Ar_bringIn_2 : decode b_Ar_bringIn 2 = .ok (.invokevirtual 26, 3) := by decide +kernel
theorem d_Ar_bringIn_5 : decode b_Ar_bringIn 5 = .ok (.iload_n 2, 1) := by decide +kernel
theorem d_Ar_bringIn_6 : decode b_Ar_bringIn 6 = .ok (.ifCond .eq 8, 3) := by decide +kernel
theorem d_Ar_bringIn_9 : decode b_Ar_bringIn 9 = .ok (.bipush 25, 2) := by decide +kernel
theorem d_Ar_bringIn_11 : decode b_Ar_bringIn 11 = .ok (.goto 4, 3) := by decide +kernel
theorem d_Ar_bringIn_14 : decode b_Ar_bringIn 14 = .ok (.iconst 1, 1) := by decide +kernel
theorem d_Ar_bringIn_15 : decode b_Ar_bringIn 15 = .ok (.istore_n 3, 1) := by decide +kernel
theorem d_Ar_bringIn_16 : decode b_Ar_bringIn 16 = .ok (.iconst 0, 1) := by decide +kernel
theorem d_Ar_bringIn_17 : decode b_Ar_bringIn 17 = .ok (.istore 4, 2) := by decide +kernel
theorem d_Ar_bringIn_19 : decode b_Ar_bringIn 19 = .ok (.iload 4, 2) := by decide +kernel
theorem d_Ar_bringIn_21 : decode b_Ar_bringIn 21 = .ok (.iload_n 3, 1) := by decide +kernel
theorem d_Ar_bringIn_22 : decode b_Ar_bringIn 22 = .ok (.if_icmp .ge 19, 3) := by decide +kernel
theorem d_Ar_bringIn_25 : decode b_Ar_bringIn 25 = .ok (.aload_n 0, 1) := by decide +kernel
theorem d_Ar_bringIn_26 : decode b_Ar_bringIn 26 = .ok (.invokevirtual 30, 3) := by decide +kernel
theorem d_Ar_bringIn_29 : decode b_Ar_bringIn 29 = .ok (.ifCond .ne 6, 3) := by decide +kernel
theorem d_Ar_bringIn_32 : decode b_Ar_bringIn 32 = .ok (.goto 9, 3) := by decide +kernel
theorem d_Ar_bringIn_35 : decode b_Ar_bringIn 35 = .ok (.iinc 4 1, 3) := by decide +kernel
theorem d_Ar_bringIn_38 : decode b_Ar_bringIn 38 = .ok (.goto (-19), 3) := by decide +kernel
theorem d_Ar_bringIn_41 : decode b_Ar_bringIn 41 = .ok (.return_, 1) := by decide +kernel
theorem d_Na_isCommon_0 : decode b_Na_isCommon 0 = .ok (.aload_n 0, 1) := by decide +kernel
theorem d_Na_isCommon_1 : decode b_Na_isCommon 1 = .ok (.getfield 9, 3) := by decide +kernel
theorem d_Na_isCommon_4 : decode b_Na_isCommon 4 = .ok (.iload_n 1, 1) := by decide +kernel
theorem d_Na_isCommon_5 : decode b_Na_isCommon 5 = .ok (.iaload, 1) := by decide +kernel
theorem d_Na_isCommon_6 : decode b_Na_isCommon 6 = .ok (.iconst (-1), 1) := by decide +kernel
theorem d_Na_isCommon_7 : decode b_Na_isCommon 7 = .ok (.if_icmp .ne 16, 3) := by decide +kernel
theorem d_Na_isCommon_10 : decode b_Na_isCommon 10 = .ok (.aload_n 0, 1) := by decide +kernel
theorem d_Na_isCommon_11 : decode b_Na_isCommon 11 = .ok (.getfield 18, 3) := by decide +kernel
theorem d_Na_isCommon_14 : decode b_Na_isCommon 14 = .ok (.iload_n 1, 1) := by decide +kernel
theorem d_Na_isCommon_15 : decode b_Na_isCommon 15 = .ok (.iaload, 1) := by decide +kernel
theorem d_Na_isCommon_16 : decode b_Na_isCommon 16 = .ok (.ifCond .le 7, 3) := by decide +kernel
theorem d_Na_isCommon_19 : decode b_Na_isCommon 19 = .ok (.iconst 1, 1) := by decide +kernel
theorem d_Na_isCommon_20 : decode b_Na_isCommon 20 = .ok (.goto 4, 3) := by decide +kernel
theorem d_Na_isCommon_23 : decode b_Na_isCommon 23 = .ok (.iconst 0, 1) := by decide +kernel
theorem d_Na_isCommon_24 : decode b_Na_isCommon 24 = .ok (.ireturn, 1) := by decide +kernel
theorem d_Na_definer_0 : decode b_Na_definer 0 = .ok (.aload_n 0, 1) := by decide +kernel
theorem d_Na_definer_1 : decode b_Na_definer 1 = .ok (.getfield 9, 3) := by decide +kernel
theorem d_Na_definer_4 : decode b_Na_definer 4 = .ok (.iload_n 1, 1) := by decide +kernel
theorem d_Na_definer_5 : decode b_Na_definer 5 = .ok (.iaload, 1) := by decide +kernel
theorem d_Na_definer_6 : decode b_Na_definer 6 = .ok (.iconst (-1), 1) := by decide +kernel
theorem d_Na_definer_7 : decode b_Na_definer 7 = .ok (.if_icmp .eq 10, 3) := by decide +kernel
theorem d_Na_definer_10 : decode b_Na_definer 10 = .ok (.aload_n 0, 1) := by decide +kernel
theorem d_Na_definer_11 : decode b_Na_definer 11 = .ok (.getfield 9, 3) := by decide +kernel
theorem d_Na_definer_14 : decode b_Na_definer 14 = .ok (.iload_n 1, 1) := by decide +kernel
theorem d_Na_definer_15 : decode b_Na_definer 15 = .ok (.iaload, 1) := by decide +kernel
theorem d_Na_definer_16 : decode b_Na_definer 16 = .ok (.ireturn, 1) := by decide +kernel
theorem d_Na_definer_17 : decode b_Na_definer 17 = .ok (.aload_n 0, 1) := by decide +kernel
theorem d_Na_definer_18 : decode b_Na_definer 18 = .ok (.iload_n 1, 1) := by decide +kernel
theorem d_Na_definer_19 : decode b_Na_definer 19 = .ok (.invokevirtual 93, 3) := by decide +kernel
theorem d_Na_definer_22 : decode b_Na_definer 22 = .ok (.ifCond .eq 7, 3) := by decide +kernel
theorem d_Na_definer_25 : decode b_Na_definer 25 = .ok (.iconst (-1), 1) := by decide +kernel
theorem d_Na_definer_26 : decode b_Na_definer 26 = .ok (.goto 9, 3) := by decide +kernel
theorem d_Na_definer_29 : decode b_Na_definer 29 = .ok (.aload_n 0, 1) := by decide +kernel
theorem d_Na_definer_30 : decode b_Na_definer 30 = .ok (.getfield 15, 3) := by decide +kernel
theorem d_Na_definer_33 : decode b_Na_definer 33 = .ok (.iload_n 1, 1) := by decide +kernel
theorem d_Na_definer_34 : decode b_Na_definer 34 = .ok (.iaload, 1) := by decide +kernel
theorem d_Na_definer_35 : decode b_Na_definer 35 = .ok (.ireturn, 1) := by decide +kernel
theorem d_Na_isDefined_0 : decode b_Na_isDefined 0 = .ok (.aload_n 0, 1) := by decide +kernel
theorem d_Na_isDefined_1 : decode b_Na_isDefined 1 = .ok (.iload_n 1, 1) := by decide +kernel
theorem d_Na_isDefined_2 : decode b_Na_isDefined 2 = .ok (.invokevirtual 93, 3) := by decide +kernel
theorem d_Na_isDefined_5 : decode b_Na_isDefined 5 = .ok (.ifCond .ne 12, 3) := by decide +kernel
theorem d_Na_isDefined_8 : decode b_Na_isDefined 8 = .ok (.aload_n 0, 1) := by decide +kernel
theorem d_Na_isDefined_9 : decode b_Na_isDefined 9 = .ok (.iload_n 1, 1) := by decide +kernel
theorem d_Na_isDefined_10 : decode b_Na_isDefined 10 = .ok (.invokevirtual 96, 3) := by decide +kernel
theorem d_Na_isDefined_13 : decode b_Na_isDefined 13 = .ok (.iconst (-1), 1) := by decide +kernel
theorem d_Na_isDefined_14 : decode b_Na_isDefined 14 = .ok (.if_icmp .eq 7, 3) := by decide +kernel
theorem d_Na_isDefined_17 : decode b_Na_isDefined 17 = .ok (.iconst 1, 1) := by decide +kernel
theorem d_Na_isDefined_18 : decode b_Na_isDefined 18 = .ok (.goto 4, 3) := by decide +kernel
theorem d_Na_isDefined_21 : decode b_Na_isDefined 21 = .ok (.iconst 0, 1) := by decide +kernel
theorem d_Na_isDefined_22 : decode b_Na_isDefined 22 = .ok (.ireturn, 1) := by decide +kernel
theorem d_Na_sectionOf_0 : decode b_Na_sectionOf 0 = .ok (.aload_n 0, 1) := by decide +kernel
theorem d_Na_sectionOf_1 : decode b_Na_sectionOf 1 = .ok (.iload_n 1, 1) := by decide +kernel
theorem d_Na_sectionOf_2 : decode b_Na_sectionOf 2 = .ok (.invokevirtual 96, 3) := by decide +kernel
theorem d_Na_sectionOf_5 : decode b_Na_sectionOf 5 = .ok (.istore_n 2, 1) := by decide +kernel
theorem d_Na_sectionOf_6 : decode b_Na_sectionOf 6 = .ok (.iload_n 2, 1) := by decide +kernel
theorem d_Na_sectionOf_7 : decode b_Na_sectionOf 7 = .ok (.iconst (-1), 1) := by decide +kernel
theorem d_Na_sectionOf_8 : decode b_Na_sectionOf 8 = .ok (.if_icmp .ne 7, 3) := by decide +kernel
theorem d_Na_sectionOf_11 : decode b_Na_sectionOf 11 = .ok (.iconst (-1), 1) := by decide +kernel
theorem d_Na_sectionOf_12 : decode b_Na_sectionOf 12 = .ok (.goto 12, 3) := by decide +kernel
theorem d_Na_sectionOf_15 : decode b_Na_sectionOf 15 = .ok (.aload_n 0, 1) := by decide +kernel
theorem d_Na_sectionOf_16 : decode b_Na_sectionOf 16 = .ok (.getfield 34, 3) := by decide +kernel
theorem d_Na_sectionOf_19 : decode b_Na_sectionOf 19 = .ok (.getfield 100, 3) := by decide +kernel
theorem d_Na_sectionOf_22 : decode b_Na_sectionOf 22 = .ok (.iload_n 2, 1) := by decide +kernel
theorem d_Na_sectionOf_23 : decode b_Na_sectionOf 23 = .ok (.iaload, 1) := by decide +kernel
theorem d_Na_sectionOf_24 : decode b_Na_sectionOf 24 = .ok (.ireturn, 1) := by decide +kernel
theorem d_Na_setMeaning_0 : decode b_Na_setMeaning 0 = .ok (.aload_n 0, 1) := by decide +kernel
theorem d_Na_setMeaning_1 : decode b_Na_setMeaning 1 = .ok (.getfield 21, 3) := by decide +kernel
theorem d_Na_setMeaning_4 : decode b_Na_setMeaning 4 = .ok (.iload_n 1, 1) := by decide +kernel
theorem d_Na_setMeaning_5 : decode b_Na_setMeaning 5 = .ok (.iload_n 2, 1) := by decide +kernel
theorem d_Na_setMeaning_6 : decode b_Na_setMeaning 6 = .ok (.iastore, 1) := by decide +kernel
theorem d_Na_setMeaning_7 : decode b_Na_setMeaning 7 = .ok (.aload_n 0, 1) := by decide +kernel
theorem d_Na_setMeaning_8 : decode b_Na_setMeaning 8 = .ok (.getfield 24, 3) := by decide +kernel
theorem d_Na_setMeaning_11 : decode b_Na_setMeaning 11 = .ok (.iload_n 1, 1) := by decide +kernel
theorem d_Na_setMeaning_12 : decode b_Na_setMeaning 12 = .ok (.iload_n 3, 1) := by decide +kernel
theorem d_Na_setMeaning_13 : decode b_Na_setMeaning 13 = .ok (.iastore, 1) := by decide +kernel
theorem d_Na_setMeaning_14 : decode b_Na_setMeaning 14 = .ok (.aload_n 0, 1) := by decide +kernel
theorem d_Na_setMeaning_15 : decode b_Na_setMeaning 15 = .ok (.getfield 27, 3) := by decide +kernel
theorem d_Na_setMeaning_18 : decode b_Na_setMeaning 18 = .ok (.iload_n 1, 1) := by decide +kernel
theorem d_Na_setMeaning_19 : decode b_Na_setMeaning 19 = .ok (.iload 4, 2) := by decide +kernel
theorem d_Na_setMeaning_21 : decode b_Na_setMeaning 21 = .ok (.iastore, 1) := by decide +kernel
theorem d_Na_setMeaning_22 : decode b_Na_setMeaning 22 = .ok (.return_, 1) := by decide +kernel
theorem d_Na_copyMeaning_0 : decode b_Na_copyMeaning 0 = .ok (.aload_n 0, 1) := by decide +kernel
theorem d_Na_copyMeaning_1 : decode b_Na_copyMeaning 1 = .ok (.iload_n 1, 1) := by decide +kernel
theorem d_Na_copyMeaning_2 : decode b_Na_copyMeaning 2 = .ok (.aload_n 0, 1) := by decide +kernel
theorem d_Na_copyMeaning_3 : decode b_Na_copyMeaning 3 = .ok (.getfield 34, 3) := by decide +kernel
theorem d_Na_copyMeaning_6 : decode b_Na_copyMeaning 6 = .ok (.getfield 110, 3) := by decide +kernel
theorem d_Na_copyMeaning_9 : decode b_Na_copyMeaning 9 = .ok (.iload_n 2, 1) := by decide +kernel
theorem d_Na_copyMeaning_10 : decode b_Na_copyMeaning 10 = .ok (.iaload, 1) := by decide +kernel
theorem d_Na_copyMeaning_11 : decode b_Na_copyMeaning 11 = .ok (.aload_n 0, 1) := by decide +kernel
theorem d_Na_copyMeaning_12 : decode b_Na_copyMeaning 12 = .ok (.getfield 34, 3) := by decide +kernel
theorem d_Na_copyMeaning_15 : decode b_Na_copyMeaning 15 = .ok (.getfield 100, 3) := by decide +kernel
theorem d_Na_copyMeaning_18 : decode b_Na_copyMeaning 18 = .ok (.iload_n 2, 1) := by decide +kernel
theorem d_Na_copyMeaning_19 : decode b_Na_copyMeaning 19 = .ok (.iaload, 1) := by decide +kernel
theorem d_Na_copyMeaning_20 : decode b_Na_copyMeaning 20 = .ok (.aload_n 0, 1) := by decide +kernel
theorem d_Na_copyMeaning_21 : decode b_Na_copyMeaning 21 = .ok (.getfield 34, 3) := by decide +kernel
theorem d_Na_copyMeaning_24 : decode b_Na_copyMeaning 24 = .ok (.getfield 83, 3) := by decide +kernel
theorem d_Na_copyMeaning_27 : decode b_Na_copyMeaning 27 = .ok (.iload_n 2, 1) := by decide +kernel
theorem d_Na_copyMeaning_28 : decode b_Na_copyMeaning 28 = .ok (.iaload, 1) := by decide +kernel
theorem d_Na_copyMeaning_29 : decode b_Na_copyMeaning 29 = .ok (.invokevirtual 103, 3) := by decide +kernel
theorem d_Na_copyMeaning_32 : decode b_Na_copyMeaning 32 = .ok (.return_, 1) := by decide +kernel
