theorem fl_Rc_26 : FL R_Rc 26 7 1 := ⟨R_Rc, F_Rc, N_Rc, rfl, by decide, i_Rc, (mw 376 (by decide +kernel))⟩
theorem fl_Rc_45 : FL R_Rc 45 2 0 := ⟨R_Se, F_Se, N_Se, rfl, by decide, i_Se, (mw 156 (by decide +kernel))⟩
theorem fl_Rc_51 : FL R_Rc 51 2 9 := ⟨R_Se, F_Se, N_Se, rfl, by decide, i_Se, (mw 180 (by decide +kernel))⟩
theorem fl_Rc_22 : FL R_Rc 22 7 0 := ⟨R_Rc, F_Rc, N_Rc, rfl, by decide, i_Rc, (mw 375 (by decide +kernel))⟩
theorem fl_Rc_54 : FL R_Rc 54 1 2 := ⟨R_Un, F_Un, N_Un, rfl, by decide, i_Un, (mw 135 (by decide +kernel))⟩
theorem fl_Rc_59 : FL R_Rc 59 2 4 := ⟨R_Se, F_Se, N_Se, rfl, by decide, i_Se, (mw 164 (by decide +kernel))⟩
theorem ml_Rc_65 : MLb R_Rc 65 y_Rc_spreadFrom b_Rc_spreadFrom 4 (none) 1 := ⟨(mw 1245 (by decide +kernel)), (mw 1242 (by decide +kernel)), (mw 90 (by decide +kernel)), by decide +kernel⟩
theorem mv_Rc_spreadFrom : MLv y_Rc_spreadFrom := ⟨(mw 1244 (by decide +kernel)), (mw 21 (by decide +kernel))⟩
theorem ml_Rc_38 : MLb R_Rc 38 y_Rc_forget b_Rc_forget 2 (none) 0 := ⟨(mw 1237 (by decide +kernel)), (mw 1234 (by decide +kernel)), (mw 90 (by decide +kernel)), by decide +kernel⟩
theorem mv_Rc_forget : MLv y_Rc_forget := ⟨(mw 1236 (by decide +kernel)), (mw 19 (by decide +kernel))⟩
theorem fl_Re_36 : FL R_Re 36 4 0 := ⟨R_Re, F_Re, N_Re, rfl, by decide, i_Re, (mw 252 (by decide +kernel))⟩
theorem fl_Re_9 : FL R_Re 9 4 1 := ⟨R_Re, F_Re, N_Re, rfl, by decide, i_Re, (mw 257 (by decide +kernel))⟩
theorem fl_Re_33 : FL R_Re 33 4 8 := ⟨R_Re, F_Re, N_Re, rfl, by decide, i_Re, (mw 282 (by decide +kernel))⟩
theorem ml_Re_40 : MLb R_Re 40 y_fill33 b_fill33 4 (none) 2 := ⟨(mw 1142 (by decide +kernel)), (mw 1140 (by decide +kernel)), (mw 103 (by decide +kernel)), by decide +kernel⟩
theorem ms_fill33 : Cond.static y_fill33 ∈ ALLW := (mw 1141 (by decide +kernel))
theorem fl_Ly_145 : FL R_Ly 145 2 0 := ⟨R_Se, F_Se, N_Se, rfl, by decide, i_Se, (mw 157 (by decide +kernel))⟩
theorem ml_Ly_328 : MLb R_Ly 328 y_Re_putInOrder b_Re_putInOrder 4 (none) 1 := ⟨(mw 1139 (by decide +kernel)), (mw 1136 (by decide +kernel)), (mw 87 (by decide +kernel)), by decide +kernel⟩
theorem mv_Re_putInOrder : MLv y_Re_putInOrder := ⟨(mw 1137 (by decide +kernel)), (mw 1138 (by decide +kernel))⟩
theorem fl_Ly_42 : FL R_Ly 42 0 4 := ⟨R_Ly, F_Ly, N_Ly, rfl, by decide, i_Ly, (mw 543 (by decide +kernel))⟩
theorem ml_Ly_331 : MLb R_Ly 331 y_Ar_bringIn b_Ar_bringIn 5 (none) 2 := ⟨(mw 1146 (by decide +kernel)), (mw 1143 (by decide +kernel)), (mw 88 (by decide +kernel)), by decide +kernel⟩
theorem mv_Ar_bringIn : MLv y_Ar_bringIn := ⟨(mw 1144 (by decide +kernel)), (mw 1145 (by decide +kernel))⟩
theorem fl_Ly_49 : FL R_Ly 49 0 5 := ⟨R_Ly, F_Ly, N_Ly, rfl, by decide, i_Ly, (mw 544 (by decide +kernel))⟩
theorem ml_Ly_335 : MLb R_Ly 335 y_Na_settle b_Na_settle 2 (none) 0 := ⟨(mw 1182 (by decide +kernel)), (mw 1179 (by decide +kernel)), (mw 89 (by decide +kernel)), by decide +kernel⟩
theorem mv_Na_settle : MLv y_Na_settle := ⟨(mw 1180 (by decide +kernel)), (mw 1181 (by decide +kernel))⟩
theorem fl_Ly_338 : FL R_Ly 338 6 5 := ⟨R_Na, F_Na, N_Na, rfl, by decide, i_Na, (mw 334 (by decide +kernel))⟩
theorem fl_Ly_58 : FL R_Ly 58 0 6 := ⟨R_Ly, F_Ly, N_Ly, rfl, by decide, i_Ly, (mw 545 (by decide +kernel))⟩
theorem ml_Ly_350 : MLb R_Ly 350 y_Rc_spread b_Rc_spread 3 (none) 1 := ⟨(mw 1233 (by decide +kernel)), (mw 1230 (by decide +kernel)), (mw 90 (by decide +kernel)), by decide +kernel⟩
theorem mv_Rc_spread : MLv y_Rc_spread := ⟨(mw 1231 (by decide +kernel)), (mw 1232 (by decide +kernel))⟩
theorem ml_Ly_353 : MLb R_Ly 353 y_Rc_firstMissing b_Rc_firstMissing 3 (some .int) 0 := ⟨(mw 1257 (by decide +kernel)), (mw 1254 (by decide +kernel)), (mw 90 (by decide +kernel)), by decide +kernel⟩
theorem mv_Rc_firstMissing : MLv y_Rc_firstMissing := ⟨(mw 1255 (by decide +kernel)), (mw 1256 (by decide +kernel))⟩
theorem fl_Ly_356 : FL R_Ly 356 3 2 := ⟨R_Sy, F_Sy, N_Sy, rfl, by decide, i_Sy, (mw 221 (by decide +kernel))⟩
theorem fl_Ly_359 : FL R_Ly 359 4 4 := ⟨R_Re, F_Re, N_Re, rfl, by decide, i_Re, (mw 273 (by decide +kernel))⟩
theorem ml_Ly_341 : MLb R_Ly 341 y_Ly_fails b_Ly_fails 4 (some .boolean) 3 := ⟨(mw 1221 (by decide +kernel)), (mw 1218 (by decide +kernel)), (mw 83 (by decide +kernel)), by decide +kernel⟩
theorem mv_Ly_fails : MLv y_Ly_fails := ⟨(mw 1220 (by decide +kernel)), (mw 18 (by decide +kernel))⟩
theorem ml_Ly_347 : MLb R_Ly 347 y_Na_sectionOf b_Na_sectionOf 3 (some .int) 1 := ⟨(mw 1229 (by decide +kernel)), (mw 1226 (by decide +kernel)), (mw 89 (by decide +kernel)), by decide +kernel⟩
theorem mv_Na_sectionOf : MLv y_Na_sectionOf := ⟨(mw 1227 (by decide +kernel)), (mw 1228 (by decide +kernel))⟩
theorem ml_Ly_344 : MLb R_Ly 344 y_Na_isDefined b_Na_isDefined 2 (some .boolean) 1 := ⟨(mw 1225 (by decide +kernel)), (mw 1222 (by decide +kernel)), (mw 89 (by decide +kernel)), by decide +kernel⟩
theorem mv_Na_isDefined : MLv y_Na_isDefined := ⟨(mw 1223 (by decide +kernel)), (mw 1224 (by decide +kernel))⟩
theorem fl_Fo_22 : FL R_Fo 22 8 1 := ⟨R_Fo, F_Fo, N_Fo, rfl, by decide, i_Fo, (mw 412 (by decide +kernel))⟩
theorem fl_Fo_98 : FL R_Fo 98 4 4 := ⟨R_Re, F_Re, N_Re, rfl, by decide, i_Re, (mw 272 (by decide +kernel))⟩
theorem fl_Fo_101 : FL R_Fo 101 4 2 := ⟨R_Re, F_Re, N_Re, rfl, by decide, i_Re, (mw 264 (by decide +kernel))⟩
theorem fl_Fo_104 : FL R_Fo 104 4 3 := ⟨R_Re, F_Re, N_Re, rfl, by decide, i_Re, (mw 268 (by decide +kernel))⟩
theorem fl_Fo_107 : FL R_Fo 107 4 5 := ⟨R_Re, F_Re, N_Re, rfl, by decide, i_Re, (mw 276 (by decide +kernel))⟩
theorem fl_Fo_26 : FL R_Fo 26 8 2 := ⟨R_Fo, F_Fo, N_Fo, rfl, by decide, i_Fo, (mw 413 (by decide +kernel))⟩
theorem fl_Fo_110 : FL R_Fo 110 6 6 := ⟨R_Na, F_Na, N_Na, rfl, by decide, i_Na, (mw 339 (by decide +kernel))⟩
theorem fl_Fo_115 : FL R_Fo 115 6 8 := ⟨R_Na, F_Na, N_Na, rfl, by decide, i_Na, (mw 349 (by decide +kernel))⟩
theorem ml_Fo_87 : MLb R_Fo 87 y_Re_countOf b_Re_countOf 2 (some .int) 1 := ⟨(mw 1249 (by decide +kernel)), (mw 1290 (by decide +kernel)), (mw 87 (by decide +kernel)), by decide +kernel⟩
theorem ml_Fo_92 : MLb R_Fo 92 y_Re_pick b_Re_pick 3 (some .int) 2 := ⟨(mw 1253 (by decide +kernel)), (mw 1291 (by decide +kernel)), (mw 87 (by decide +kernel)), by decide +kernel⟩
theorem ml_Fo_95 : MLb R_Fo 95 y_Fo_isSame b_Fo_isSame 5 (some .boolean) 2 := ⟨(mw 1295 (by decide +kernel)), (mw 1292 (by decide +kernel)), (mw 91 (by decide +kernel)), by decide +kernel⟩
theorem mv_Fo_isSame : MLv y_Fo_isSame := ⟨(mw 1294 (by decide +kernel)), (mw 28 (by decide +kernel))⟩
theorem fl_Se_9 : FL R_Se 9 2 3 := ⟨R_Se, F_Se, N_Se, rfl, by decide, i_Se, (mw 162 (by decide +kernel))⟩
theorem fl_Se_27 : FL R_Se 27 2 8 := ⟨R_Se, F_Se, N_Se, rfl, by decide, i_Se, (mw 178 (by decide +kernel))⟩
theorem fl_Fo_18 : FL R_Fo 18 8 0 := ⟨R_Fo, F_Fo, N_Fo, rfl, by decide, i_Fo, (mw 411 (by decide +kernel))⟩
theorem fl_Fo_71 : FL R_Fo 71 2 6 := ⟨R_Se, F_Se, N_Se, rfl, by decide, i_Se, (mw 174 (by decide +kernel))⟩
theorem ml_Fo_83 : MLb R_Fo 83 y_Se_read b_Se_read 3 (some .int) 2 := ⟨(mw 1285 (by decide +kernel)), (mw 1282 (by decide +kernel)), (mw 85 (by decide +kernel)), by decide +kernel⟩
theorem mv_Se_read : MLv y_Se_read := ⟨(mw 1283 (by decide +kernel)), (mw 1284 (by decide +kernel))⟩
theorem fl_Fo_74 : FL R_Fo 74 2 7 := ⟨R_Se, F_Se, N_Se, rfl, by decide, i_Se, (mw 177 (by decide +kernel))⟩
theorem ml_Fo_77 : MLb R_Fo 77 y_Fo_hasSameWords b_Fo_hasSameWords 4 (some .boolean) 2 := ⟨(mw 1281 (by decide +kernel)), (mw 1278 (by decide +kernel)), (mw 91 (by decide +kernel)), by decide +kernel⟩
theorem mv_Fo_hasSameWords : MLv y_Fo_hasSameWords := ⟨(mw 1280 (by decide +kernel)), (mw 26 (by decide +kernel))⟩
theorem ml_Fo_80 : MLb R_Fo 80 y_Fo_hasSameRelocations b_Fo_hasSameRelocations 4 (some .boolean) 2 := ⟨(mw 1289 (by decide +kernel)), (mw 1286 (by decide +kernel)), (mw 91 (by decide +kernel)), by decide +kernel⟩
theorem mv_Fo_hasSameRelocations : MLv y_Fo_hasSameRelocations := ⟨(mw 1288 (by decide +kernel)), (mw 27 (by decide +kernel))⟩
theorem d_Rc_spread_0 : decode b_Rc_spread 0 = .ok (.aload_n 0, 1) := by decide +kernel
theorem d_Rc_spread_1 : decode b_Rc_spread 1 = .ok (.invokevirtual 38, 3) := by decide +kernel
theorem d_Rc_spread_4 : decode b_Rc_spread 4 = .ok (.iload_n 1, 1) := by decide +kernel
theorem d_Rc_spread_5 : decode b_Rc_spread 5 = .ok (.iconst (-1), 1) := by decide +kernel
theorem d_Rc_spread_6 : decode b_Rc_spread 6 = .ok (.if_icmp .eq 8, 3) := by decide +kernel
theorem d_Rc_spread_9 : decode b_Rc_spread 9 = .ok (.aload_n 0, 1) := by decide +kernel
theorem d_Rc_spread_10 : decode b_Rc_spread 10 = .ok (.iload_n 1, 1) := by decide +kernel
theorem d_Rc_spread_11 : decode b_Rc_spread 11 = .ok (.invokevirtual 41, 3) := by decide +kernel
theorem d_Rc_spread_14 : decode b_Rc_spread 14 = .ok (.iconst 0, 1) := by decide +kernel
theorem d_Rc_spread_15 : decode b_Rc_spread 15 = .ok (.istore_n 2, 1) := by decide +kernel
theorem d_Rc_spread_16 : decode b_Rc_spread 16 = .ok (.iload_n 2, 1) := by decide +kernel
theorem d_Rc_spread_17 : decode b_Rc_spread 17 = .ok (.aload_n 0, 1) := by decide +kernel
theorem d_Rc_spread_18 : decode b_Rc_spread 18 = .ok (.getfield 26, 3) := by decide +kernel
theorem d_Rc_spread_21 : decode b_Rc_spread 21 = .ok (.getfield 45, 3) := by decide +kernel
theorem d_Rc_spread_24 : decode b_Rc_spread 24 = .ok (.if_icmp .ge 46, 3) := by decide +kernel
theorem d_Rc_spread_27 : decode b_Rc_spread 27 = .ok (.aload_n 0, 1) := by decide +kernel
theorem d_Rc_spread_28 : decode b_Rc_spread 28 = .ok (.getfield 26, 3) := by decide +kernel
theorem d_Rc_spread_31 : decode b_Rc_spread 31 = .ok (.getfield 51, 3) := by decide +kernel
theorem d_Rc_spread_34 : decode b_Rc_spread 34 = .ok (.iload_n 2, 1) := by decide +kernel
theorem d_Rc_spread_35 : decode b_Rc_spread 35 = .ok (.baload, 1) := by decide +kernel
theorem d_Rc_spread_36 : decode b_Rc_spread 36 = .ok (.ifCond .eq 28, 3) := by decide +kernel
theorem d_Rc_spread_39 : decode b_Rc_spread 39 = .ok (.aload_n 0, 1) := by decide +kernel
theorem d_Rc_spread_40 : decode b_Rc_spread 40 = .ok (.getfield 22, 3) := by decide +kernel
theorem d_Rc_spread_43 : decode b_Rc_spread 43 = .ok (.getfield 54, 3) := by decide +kernel
theorem d_Rc_spread_46 : decode b_Rc_spread 46 = .ok (.aload_n 0, 1) := by decide +kernel
theorem d_Rc_spread_47 : decode b_Rc_spread 47 = .ok (.getfield 26, 3) := by decide +kernel
theorem d_Rc_spread_50 : decode b_Rc_spread 50 = .ok (.getfield 59, 3) := by decide +kernel
theorem d_Rc_spread_53 : decode b_Rc_spread 53 = .ok (.iload_n 2, 1) := by decide +kernel
theorem d_Rc_spread_54 : decode b_Rc_spread 54 = .ok (.iaload, 1) := by decide +kernel
theorem d_Rc_spread_55 : decode b_Rc_spread 55 = .ok (.baload, 1) := by decide +kernel
theorem d_Rc_spread_56 : decode b_Rc_spread 56 = .ok (.ifCond .eq 8, 3) := by decide +kernel
theorem d_Rc_spread_59 : decode b_Rc_spread 59 = .ok (.aload_n 0, 1) := by decide +kernel
theorem d_Rc_spread_60 : decode b_Rc_spread 60 = .ok (.iload_n 2, 1) := by decide +kernel
theorem d_Rc_spread_61 : decode b_Rc_spread 61 = .ok (.invokevirtual 41, 3) := by decide +kernel
theorem d_Rc_spread_64 : decode b_Rc_spread 64 = .ok (.iinc 2 1, 3) := by decide +kernel
theorem d_Rc_spread_67 : decode b_Rc_spread 67 = .ok (.goto (-51), 3) := by decide +kernel
theorem d_Rc_spread_70 : decode b_Rc_spread 70 = .ok (.iconst 0, 1) := by decide +kernel
theorem d_Rc_spread_71 : decode b_Rc_spread 71 = .ok (.istore_n 2, 1) := by decide +kernel
theorem d_Rc_spread_72 : decode b_Rc_spread 72 = .ok (.iload_n 2, 1) := by decide +kernel
theorem d_Rc_spread_73 : decode b_Rc_spread 73 = .ok (.aload_n 0, 1) := by decide +kernel
theorem d_Rc_spread_74 : decode b_Rc_spread 74 = .ok (.getfield 62, 3) := by decide +kernel
theorem d_Rc_spread_77 : decode b_Rc_spread 77 = .ok (.if_icmp .ge 25, 3) := by decide +kernel
theorem d_Rc_spread_80 : decode b_Rc_spread 80 = .ok (.iload_n 2, 1) := by decide +kernel
theorem d_Rc_spread_81 : decode b_Rc_spread 81 = .ok (.bipush 96, 2) := by decide +kernel
theorem d_Rc_spread_83 : decode b_Rc_spread 83 = .ok (.if_icmp .ge 19, 3) := by decide +kernel
theorem d_Rc_spread_86 : decode b_Rc_spread 86 = .ok (.aload_n 0, 1) := by decide +kernel
theorem d_Rc_spread_87 : decode b_Rc_spread 87 = .ok (.aload_n 0, 1) := by decide +kernel
theorem d_Rc_spread_88 : decode b_Rc_spread 88 = .ok (.getfield 18, 3) := by decide +kernel
theorem d_Rc_spread_91 : decode b_Rc_spread 91 = .ok (.iload_n 2, 1) := by decide +kernel
theorem d_Rc_spread_92 : decode b_Rc_spread 92 = .ok (.iaload, 1) := by decide +kernel
theorem d_Rc_spread_93 : decode b_Rc_spread 93 = .ok (.invokevirtual 65, 3) := by decide +kernel
theorem d_Rc_spread_96 : decode b_Rc_spread 96 = .ok (.iinc 2 1, 3) := by decide +kernel
theorem d_Rc_spread_99 : decode b_Rc_spread 99 = .ok (.goto (-27), 3) := by decide +kernel
theorem d_Rc_spread_102 : decode b_Rc_spread 102 = .ok (.return_, 1) := by decide +kernel
theorem d_fill33_0 : decode b_fill33 0 = .ok (.iconst 0, 1) := by decide +kernel
theorem d_fill33_1 : decode b_fill33 1 = .ok (.istore_n 2, 1) := by decide +kernel
theorem d_fill33_2 : decode b_fill33 2 = .ok (.aload_n 0, 1) := by decide +kernel
theorem d_fill33_3 : decode b_fill33 3 = .ok (.arraylength, 1) := by decide +kernel
theorem d_fill33_4 : decode b_fill33 4 = .ok (.istore_n 3, 1) := by decide +kernel
theorem d_fill33_5 : decode b_fill33 5 = .ok (.iload_n 2, 1) := by decide +kernel
theorem d_fill33_6 : decode b_fill33 6 = .ok (.iload_n 3, 1) := by decide +kernel
theorem d_fill33_7 : decode b_fill33 7 = .ok (.if_icmp .ge 13, 3) := by decide +kernel
theorem d_fill33_10 : decode b_fill33 10 = .ok (.aload_n 0, 1) := by decide +kernel
theorem d_fill33_11 : decode b_fill33 11 = .ok (.iload_n 2, 1) := by decide +kernel
theorem d_fill33_12 : decode b_fill33 12 = .ok (.iload_n 1, 1) := by decide +kernel
theorem d_fill33_13 : decode b_fill33 13 = .ok (.iastore, 1) := by decide +kernel
theorem d_fill33_14 : decode b_fill33 14 = .ok (.iinc 2 1, 3) := by decide +kernel
theorem d_fill33_17 : decode b_fill33 17 = .ok (.goto (-12), 3) := by decide +kernel
theorem d_fill33_20 : decode b_fill33 20 = .ok (.return_, 1) := by decide +kernel
theorem d_Re_putInOrder_0 : decode b_Re_putInOrder 0 = .ok (.aload_n 0, 1) := by decide +kernel
theorem d_Re_putInOrder_1 : decode b_Re_putInOrder 1 = .ok (.getfield 30, 3) := by decide +kernel
theorem d_Re_putInOrder_4 : decode b_Re_putInOrder 4 = .ok (.iconst 0, 1) := by decide +kernel
theorem d_Re_putInOrder_5 : decode b_Re_putInOrder 5 = .ok (.invokestatic 40, 3) := by decide +kernel
theorem d_Re_putInOrder_8 : decode b_Re_putInOrder 8 = .ok (.iconst 0, 1) := by decide +kernel
theorem d_Re_putInOrder_9 : decode b_Re_putInOrder 9 = .ok (.istore_n 2, 1) := by decide +kernel
theorem d_Re_putInOrder_10 : decode b_Re_putInOrder 10 = .ok (.iload_n 2, 1) := by decide +kernel
theorem d_Re_putInOrder_11 : decode b_Re_putInOrder 11 = .ok (.aload_n 0, 1) := by decide +kernel
theorem d_Re_putInOrder_12 : decode b_Re_putInOrder 12 = .ok (.getfield 36, 3) := by decide +kernel
theorem d_Re_putInOrder_15 : decode b_Re_putInOrder 15 = .ok (.if_icmp .ge 26, 3) := by decide +kernel
theorem d_Re_putInOrder_18 : decode b_Re_putInOrder 18 = .ok (.aload_n 0, 1) := by decide +kernel
theorem d_Re_putInOrder_19 : decode b_Re_putInOrder 19 = .ok (.getfield 30, 3) := by decide +kernel
theorem d_Re_putInOrder_22 : decode b_Re_putInOrder 22 = .ok (.aload_n 0, 1) := by decide +kernel
theorem d_Re_putInOrder_23 : decode b_Re_putInOrder 23 = .ok (.getfield 9, 3) := by decide +kernel
theorem d_Re_putInOrder_26 : decode b_Re_putInOrder 26 = .ok (.iload_n 2, 1) := by decide +kernel
theorem d_Re_putInOrder_27 : decode b_Re_putInOrder 27 = .ok (.iaload, 1) := by decide +kernel
theorem d_Re_putInOrder_28 : decode b_Re_putInOrder 28 = .ok (.iconst 1, 1) := by decide +kernel
theorem d_Re_putInOrder_29 : decode b_Re_putInOrder 29 = .ok (.iadd, 1) := by decide +kernel
theorem d_Re_putInOrder_30 : decode b_Re_putInOrder 30 = .ok (.dup2, 1) := by decide +kernel
theorem d_Re_putInOrder_31 : decode b_Re_putInOrder 31 = .ok (.iaload, 1) := by decide +kernel
theorem d_Re_putInOrder_32 : decode b_Re_putInOrder 32 = .ok (.iconst 1, 1) := by decide +kernel
theorem d_Re_putInOrder_33 : decode b_Re_putInOrder 33 = .ok (.iadd, 1) := by decide +kernel
theorem d_Re_putInOrder_34 : decode b_Re_putInOrder 34 = .ok (.iastore, 1) := by decide +kernel
theorem d_Re_putInOrder_35 : decode b_Re_putInOrder 35 = .ok (.iinc 2 1, 3) := by decide +kernel
theorem d_Re_putInOrder_38 : decode b_Re_putInOrder 38 = .ok (.goto (-28), 3) := by decide +kernel
theorem d_Re_putInOrder_41 : decode b_Re_putInOrder 41 = .ok (.iconst 0, 1) := by decide +kernel
theorem d_Re_putInOrder_42 : decode b_Re_putInOrder 42 = .ok (.istore_n 2, 1) := by decide +kernel
theorem d_Re_putInOrder_43 : decode b_Re_putInOrder 43 = .ok (.iload_n 2, 1) := by decide +kernel
theorem d_Re_putInOrder_44 : decode b_Re_putInOrder 44 = .ok (.iload_n 1, 1) := by decide +kernel
theorem d_Re_putInOrder_45 : decode b_Re_putInOrder 45 = .ok (.if_icmp .ge 38, 3) := by decide +kernel
theorem d_Re_putInOrder_48 : decode b_Re_putInOrder 48 = .ok (.aload_n 0, 1) := by decide +kernel
theorem d_Re_putInOrder_49 : decode b_Re_putInOrder 49 = .ok (.getfield 30, 3) := by decide +kernel
theorem d_Re_putInOrder_52 : decode b_Re_putInOrder 52 = .ok (.iload_n 2, 1) := by decide +kernel
theorem d_Re_putInOrder_53 : decode b_Re_putInOrder 53 = .ok (.iconst 1, 1) := by decide +kernel
theorem d_Re_putInOrder_54 : decode b_Re_putInOrder 54 = .ok (.iadd, 1) := by decide +kernel
theorem d_Re_putInOrder_55 : decode b_Re_putInOrder 55 = .ok (.dup2, 1) := by decide +kernel
theorem d_Re_putInOrder_56 : decode b_Re_putInOrder 56 = .ok (.iaload, 1) := by decide +kernel
theorem d_Re_putInOrder_57 : decode b_Re_putInOrder 57 = .ok (.aload_n 0, 1) := by decide +kernel
theorem d_Re_putInOrder_58 : decode b_Re_putInOrder 58 = .ok (.getfield 30, 3) := by decide +kernel
theorem d_Re_putInOrder_61 : decode b_Re_putInOrder 61 = .ok (.iload_n 2, 1) := by decide +kernel
theorem d_Re_putInOrder_62 : decode b_Re_putInOrder 62 = .ok (.iaload, 1) := by decide +kernel
theorem d_Re_putInOrder_63 : decode b_Re_putInOrder 63 = .ok (.iadd, 1) := by decide +kernel
theorem d_Re_putInOrder_64 : decode b_Re_putInOrder 64 = .ok (.iastore, 1) := by decide +kernel
theorem d_Re_putInOrder_65 : decode b_Re_putInOrder 65 = .ok (.aload_n 0, 1) := by decide +kernel
theorem d_Re_putInOrder_66 : decode b_Re_putInOrder 66 = .ok (.getfield 33, 3) := by decide +kernel
theorem d_Re_putInOrder_69 : decode b_Re_putInOrder 69 = .ok (.iload_n 2, 1) := by decide +kernel
theorem d_Re_putInOrder_70 : decode b_Re_putInOrder 70 = .ok (.aload_n 0, 1) := by decide +kernel
theorem d_Re_putInOrder_71 : decode b_Re_putInOrder 71 = .ok (.getfield 30, 3) := by decide +kernel
theorem d_Re_putInOrder_74 : decode b_Re_putInOrder 74 = .ok (.iload_n 2, 1) := by decide +kernel
theorem d_Re_putInOrder_75 : decode b_Re_putInOrder 75 = .ok (.iaload, 1) := by decide +kernel
theorem d_Re_putInOrder_76 : decode b_Re_putInOrder 76 = .ok (.iastore, 1) := by decide +kernel
theorem d_Re_putInOrder_77 : decode b_Re_putInOrder 77 = .ok (.iinc 2 1, 3) := by decide +kernel
theorem d_Re_putInOrder_80 : decode b_Re_putInOrder 80 = .ok (.goto (-37), 3) := by decide +kernel
theorem d_Re_putInOrder_83 : decode b_Re_putInOrder 83 = .ok (.iconst 0, 1) := by decide +kernel
theorem d_Re_putInOrder_84 : decode b_Re_putInOrder 84 = .ok (.istore_n 2, 1) := by decide +kernel
theorem d_Re_putInOrder_85 : decode b_Re_putInOrder 85 = .ok (.iload_n 2, 1) := by decide +kernel
theorem d_Re_putInOrder_86 : decode b_Re_putInOrder 86 = .ok (.aload_n 0, 1) := by decide +kernel
theorem d_Re_putInOrder_87 : decode b_Re_putInOrder 87 = .ok (.getfield 36, 3) := by decide +kernel
theorem d_Re_putInOrder_90 : decode b_Re_putInOrder 90 = .ok (.if_icmp .ge 38, 3) := by decide +kernel
theorem d_Re_putInOrder_93 : decode b_Re_putInOrder 93 = .ok (.aload_n 0, 1) := by decide +kernel
theorem d_Re_putInOrder_94 : decode b_Re_putInOrder 94 = .ok (.getfield 9, 3) := by decide +kernel
theorem d_Re_putInOrder_97 : decode b_Re_putInOrder 97 = .ok (.iload_n 2, 1) := by decide +kernel
theorem d_Re_putInOrder_98 : decode b_Re_putInOrder 98 = .ok (.iaload, 1) := by decide +kernel
theorem d_Re_putInOrder_99 : decode b_Re_putInOrder 99 = .ok (.istore_n 3, 1) := by decide +kernel
theorem d_Re_putInOrder_100 : decode b_Re_putInOrder 100 = .ok (.aload_n 0, 1) := by decide +kernel
theorem d_Re_putInOrder_101 : decode b_Re_putInOrder 101 = .ok (.getfield 27, 3) := by decide +kernel
theorem d_Re_putInOrder_104 : decode b_Re_putInOrder 104 = .ok (.aload_n 0, 1) := by decide +kernel
theorem d_Re_putInOrder_105 : decode b_Re_putInOrder 105 = .ok (.getfield 33, 3) := by decide +kernel
theorem d_Re_putInOrder_108 : decode b_Re_putInOrder 108 = .ok (.iload_n 3, 1) := by decide +kernel
theorem d_Re_putInOrder_109 : decode b_Re_putInOrder 109 = .ok (.iaload, 1) := by decide +kernel
theorem d_Re_putInOrder_110 : decode b_Re_putInOrder 110 = .ok (.iload_n 2, 1) := by decide +kernel
theorem d_Re_putInOrder_111 : decode b_Re_putInOrder 111 = .ok (.iastore, 1) := by decide +kernel
theorem d_Re_putInOrder_112 : decode b_Re_putInOrder 112 = .ok (.aload_n 0, 1) := by decide +kernel
theorem d_Re_putInOrder_113 : decode b_Re_putInOrder 113 = .ok (.getfield 33, 3) := by decide +kernel
theorem d_Re_putInOrder_116 : decode b_Re_putInOrder 116 = .ok (.iload_n 3, 1) := by decide +kernel
theorem d_Re_putInOrder_117 : decode b_Re_putInOrder 117 = .ok (.dup2, 1) := by decide +kernel
theorem d_Re_putInOrder_118 : decode b_Re_putInOrder 118 = .ok (.iaload, 1) := by decide +kernel
theorem d_Re_putInOrder_119 : decode b_Re_putInOrder 119 = .ok (.iconst 1, 1) := by decide +kernel
theorem d_Re_putInOrder_120 : decode b_Re_putInOrder 120 = .ok (.iadd, 1) := by decide +kernel
theorem d_Re_putInOrder_121 : decode b_Re_putInOrder 121 = .ok (.iastore, 1) := by decide +kernel
theorem d_Re_putInOrder_122 : decode b_Re_putInOrder 122 = .ok (.iinc 2 1, 3) := by decide +kernel
theorem d_Re_putInOrder_125 : decode b_Re_putInOrder 125 = .ok (.goto (-40), 3) := by decide +kernel
theorem d_Re_putInOrder_128 : decode b_Re_putInOrder 128 = .ok (.return_, 1) := by decide +kernel
theorem d_Ly_fails_0 : decode b_Ly_fails 0 = .ok (.aload_n 0, 1) := by decide +kernel
theorem d_Ly_fails_1 : decode b_Ly_fails 1 = .ok (.iload_n 1, 1) := by decide +kernel
theorem d_Ly_fails_2 : decode b_Ly_fails 2 = .ok (.putfield 249, 3) := by decide +kernel
theorem d_Ly_fails_5 : decode b_Ly_fails 5 = .ok (.aload_n 0, 1) := by decide +kernel
theorem d_Ly_fails_6 : decode b_Ly_fails 6 = .ok (.iload_n 2, 1) := by decide +kernel
theorem d_Ly_fails_7 : decode b_Ly_fails 7 = .ok (.putfield 102, 3) := by decide +kernel
theorem d_Ly_fails_10 : decode b_Ly_fails 10 = .ok (.aload_n 0, 1) := by decide +kernel
theorem d_Ly_fails_11 : decode b_Ly_fails 11 = .ok (.iload_n 3, 1) := by decide +kernel
theorem d_Ly_fails_12 : decode b_Ly_fails 12 = .ok (.putfield 105, 3) := by decide +kernel
theorem d_Ly_fails_15 : decode b_Ly_fails 15 = .ok (.iconst 0, 1) := by decide +kernel
theorem d_Ly_fails_16 : decode b_Ly_fails 16 = .ok (.ireturn, 1) := by decide +kernel
theorem d_Ly_linksNames_0 : decode b_Ly_linksNames 0 = .ok (.aload_n 0, 1) := by decide +kernel
theorem d_Ly_linksNames_1 : decode b_Ly_linksNames 1 = .ok (.getfield 33, 3) := by decide +kernel
theorem d_Ly_linksNames_4 : decode b_Ly_linksNames 4 = .ok (.aload_n 0, 1) := by decide +kernel
theorem d_Ly_linksNames_5 : decode b_Ly_linksNames 5 = .ok (.getfield 19, 3) := by decide +kernel
theorem d_Ly_linksNames_8 : decode b_Ly_linksNames 8 = .ok (.getfield 145, 3) := by decide +kernel
theorem d_Ly_linksNames_11 : decode b_Ly_linksNames 11 = .ok (.invokevirtual 328, 3) := by decide +kernel
theorem d_Ly_linksNames_14 : decode b_Ly_linksNames 14 = .ok (.aload_n 0, 1) := by decide +kernel
theorem d_Ly_linksNames_15 : decode b_Ly_linksNames 15 = .ok (.getfield 42, 3) := by decide +kernel
theorem d_Ly_linksNames_18 : decode b_Ly_linksNames 18 = .ok (.aload_n 0, 1) := by decide +kernel
theorem d_Ly_linksNames_19 : decode b_Ly_linksNames 19 = .ok (.getfield 98, 3) := by decide +kernel
theorem d_Ly_linksNames_22 : decode b_Ly_linksNames 22 = .ok (.aload_n 0, 1) := by decide +kernel
theorem d_Ly_linksNames_23 : decode b_Ly_linksNames 23 = .ok (.getfield 227, 3) := by decide +kernel
theorem d_Ly_linksNames_26 : decode b_Ly_linksNames 26 = .ok (.invokevirtual 331, 3) := by decide +kernel
theorem d_Ly_linksNames_29 : decode b_Ly_linksNames 29 = .ok (.aload_n 0, 1) := by decide +kernel
theorem d_Ly_linksNames_30 : decode b_Ly_linksNames 30 = .ok (.getfield 49, 3) := by decide +kernel
theorem d_Ly_linksNames_33 : decode b_Ly_linksNames 33 = .ok (.invokevirtual 335, 3) := by decide +kernel
theorem d_Ly_linksNames_36 : decode b_Ly_linksNames 36 = .ok (.aload_n 0, 1) := by decide +kernel
theorem d_Ly_linksNames_37 : decode b_Ly_linksNames 37 = .ok (.getfield 49, 3) := by decide +kernel
theorem d_Ly_linksNames_40 : decode b_Ly_linksNames 40 = .ok (.getfield 338, 3) := by decide +kernel
theorem d_Ly_linksNames_43 : decode b_Ly_linksNames 43 = .ok (.iconst (-1), 1) := by decide +kernel
theorem d_Ly_linksNames_44 : decode b_Ly_linksNames 44 = .ok (.if_icmp .eq 17, 3) := by decide +kernel
theorem d_Ly_linksNames_47 : decode b_Ly_linksNames 47 = .ok (.aload_n 0, 1) := by decide +kernel
theorem d_Ly_linksNames_48 : decode b_Ly_linksNames 48 = .ok (.iconst 1, 1) := by decide +kernel
theorem d_Ly_linksNames_49 : decode b_Ly_linksNames 49 = .ok (.aload_n 0, 1) := by decide +kernel
theorem d_Ly_linksNames_50 : decode b_Ly_linksNames 50 = .ok (.getfield 49, 3) := by decide +kernel
theorem d_Ly_linksNames_53 : decode b_Ly_linksNames 53 = .ok (.getfield 338, 3) := by decide +kernel
theorem d_Ly_linksNames_56 : decode b_Ly_linksNames 56 = .ok (.iconst (-1), 1) := by decide +kernel
theorem d_Ly_linksNames_57 : decode b_Ly_linksNames 57 = .ok (.invokevirtual 341, 3) := by decide +kernel
theorem d_Ly_linksNames_60 : decode b_Ly_linksNames 60 = .ok (.ireturn, 1) := by decide +kernel
theorem d_Ly_linksNames_61 : decode b_Ly_linksNames 61 = .ok (.aload_n 0, 1) := by decide +kernel
theorem d_Ly_linksNames_62 : decode b_Ly_linksNames 62 = .ok (.getfield 98, 3) := by decide +kernel
theorem d_Ly_linksNames_65 : decode b_Ly_linksNames 65 = .ok (.iconst (-1), 1) := by decide +kernel
theorem d_Ly_linksNames_66 : decode b_Ly_linksNames 66 = .ok (.if_icmp .eq 28, 3) := by decide +kernel
theorem d_Ly_linksNames_69 : decode b_Ly_linksNames 69 = .ok (.aload_n 0, 1) := by decide +kernel
theorem d_Ly_linksNames_70 : decode b_Ly_linksNames 70 = .ok (.getfield 49, 3) := by decide +kernel
theorem d_Ly_linksNames_73 : decode b_Ly_linksNames 73 = .ok (.aload_n 0, 1) := by decide +kernel
theorem d_Ly_linksNames_74 : decode b_Ly_linksNames 74 = .ok (.getfield 98, 3) := by decide +kernel
theorem d_Ly_linksNames_77 : decode b_Ly_linksNames 77 = .ok (.invokevirtual 344, 3) := by decide +kernel
theorem d_Ly_linksNames_80 : decode b_Ly_linksNames 80 = .ok (.ifCond .ne 14, 3) := by decide +kernel
theorem d_Ly_linksNames_83 : decode b_Ly_linksNames 83 = .ok (.aload_n 0, 1) := by decide +kernel
theorem d_Ly_linksNames_84 : decode b_Ly_linksNames 84 = .ok (.iconst 2, 1) := by decide +kernel
theorem d_Ly_linksNames_85 : decode b_Ly_linksNames 85 = .ok (.aload_n 0, 1) := by decide +kernel
theorem d_Ly_linksNames_86 : decode b_Ly_linksNames 86 = .ok (.getfield 98, 3) := by decide +kernel
theorem d_Ly_linksNames_89 : decode b_Ly_linksNames 89 = .ok (.iconst (-1), 1) := by decide +kernel
theorem d_Ly_linksNames_90 : decode b_Ly_linksNames 90 = .ok (.invokevirtual 341, 3) := by decide +kernel
theorem d_Ly_linksNames_93 : decode b_Ly_linksNames 93 = .ok (.ireturn, 1) := by decide +kernel
theorem d_Ly_linksNames_94 : decode b_Ly_linksNames 94 = .ok (.aload_n 0, 1) := by decide +kernel
theorem d_Ly_linksNames_95 : decode b_Ly_linksNames 95 = .ok (.getfield 58, 3) := by decide +kernel
theorem d_Ly_linksNames_98 : decode b_Ly_linksNames 98 = .ok (.aload_n 0, 1) := by decide +kernel
theorem d_Ly_linksNames_99 : decode b_Ly_linksNames 99 = .ok (.getfield 98, 3) := by decide +kernel
theorem d_Ly_linksNames_102 : decode b_Ly_linksNames 102 = .ok (.iconst (-1), 1) := by decide +kernel
theorem d_Ly_linksNames_103 : decode b_Ly_linksNames 103 = .ok (.if_icmp .ne 7, 3) := by decide +kernel
theorem d_Ly_linksNames_106 : decode b_Ly_linksNames 106 = .ok (.iconst (-1), 1) := by decide +kernel
theorem d_Ly_linksNames_107 : decode b_Ly_linksNames 107 = .ok (.goto 14, 3) := by decide +kernel
theorem d_Ly_linksNames_110 : decode b_Ly_linksNames 110 = .ok (.aload_n 0, 1) := by decide +kernel
theorem d_Ly_linksNames_111 : decode b_Ly_linksNames 111 = .ok (.getfield 49, 3) := by decide +kernel
theorem d_Ly_linksNames_114 : decode b_Ly_linksNames 114 = .ok (.aload_n 0, 1) := by decide +kernel
theorem d_Ly_linksNames_115 : decode b_Ly_linksNames 115 = .ok (.getfield 98, 3) := by decide +kernel
theorem d_Ly_linksNames_118 : decode b_Ly_linksNames 118 = .ok (.invokevirtual 347, 3) := by decide +kernel
theorem d_Ly_linksNames_121 : decode b_Ly_linksNames 121 = .ok (.invokevirtual 350, 3) := by decide +kernel
theorem d_Ly_linksNames_124 : decode b_Ly_linksNames 124 = .ok (.aload_n 0, 1) := by decide +kernel
theorem d_Ly_linksNames_125 : decode b_Ly_linksNames 125 = .ok (.getfield 58, 3) := by decide +kernel
theorem d_Ly_linksNames_128 : decode b_Ly_linksNames 128 = .ok (.invokevirtual 353, 3) := by decide +kernel
theorem d_Ly_linksNames_131 : decode b_Ly_linksNames 131 = .ok (.istore_n 1, 1) := by decide +kernel
theorem d_Ly_linksNames_132 : decode b_Ly_linksNames 132 = .ok (.iload_n 1, 1) := by decide +kernel
theorem d_Ly_linksNames_133 : decode b_Ly_linksNames 133 = .ok (.iconst (-1), 1) := by decide +kernel
theorem d_Ly_linksNames_134 : decode b_Ly_linksNames 134 = .ok (.if_icmp .eq 27, 3) := by decide +kernel
theorem d_Ly_linksNames_137 : decode b_Ly_linksNames 137 = .ok (.aload_n 0, 1) := by decide +kernel
theorem d_Ly_linksNames_138 : decode b_Ly_linksNames 138 = .ok (.iconst 2, 1) := by decide +kernel
theorem d_Ly_linksNames_139 : decode b_Ly_linksNames 139 = .ok (.aload_n 0, 1) := by decide +kernel
theorem d_Ly_linksNames_140 : decode b_Ly_linksNames 140 = .ok (.getfield 26, 3) := by decide +kernel
theorem d_Ly_linksNames_143 : decode b_Ly_linksNames 143 = .ok (.getfield 356, 3) := by decide +kernel
theorem d_Ly_linksNames_146 : decode b_Ly_linksNames 146 = .ok (.aload_n 0, 1) := by decide +kernel
theorem d_Ly_linksNames_147 : decode b_Ly_linksNames 147 = .ok (.getfield 33, 3) := by decide +kernel
theorem d_Ly_linksNames_150 : decode b_Ly_linksNames 150 = .ok (.getfield 359, 3) := by decide +kernel
theorem d_Ly_linksNames_153 : decode b_Ly_linksNames 153 = .ok (.iload_n 1, 1) := by decide +kernel
theorem d_Ly_linksNames_154 : decode b_Ly_linksNames 154 = .ok (.iaload, 1) := by decide +kernel
theorem d_Ly_linksNames_155 : decode b_Ly_linksNames 155 = .ok (.iaload, 1) := by decide +kernel
theorem d_Ly_linksNames_156 : decode b_Ly_linksNames 156 = .ok (.iload_n 1, 1) := by decide +kernel
theorem d_Ly_linksNames_157 : decode b_Ly_linksNames 157 = .ok (.invokevirtual 341, 3) := by decide +kernel
theorem d_Ly_linksNames_160 : decode b_Ly_linksNames 160 = .ok (.ireturn, 1) := by decide +kernel
theorem d_Ly_linksNames_161 : decode b_Ly_linksNames 161 = .ok (.iconst 1, 1) := by decide +kernel
theorem d_Ly_linksNames_162 : decode b_Ly_linksNames 162 = .ok (.ireturn, 1) := by decide +kernel
theorem d_Fo_isSame_0 : decode b_Fo_isSame 0 = .ok (.aload_n 0, 1) := by decide +kernel
theorem d_Fo_isSame_1 : decode b_Fo_isSame 1 = .ok (.getfield 22, 3) := by decide +kernel
theorem d_Fo_isSame_4 : decode b_Fo_isSame 4 = .ok (.getfield 98, 3) := by decide +kernel
theorem d_Fo_isSame_7 : decode b_Fo_isSame 7 = .ok (.iload_n 1, 1) := by decide +kernel
theorem d_Fo_isSame_8 : decode b_Fo_isSame 8 = .ok (.iaload, 1) := by decide +kernel
theorem d_Fo_isSame_9 : decode b_Fo_isSame 9 = .ok (.istore_n 3, 1) := by decide +kernel
theorem d_Fo_isSame_10 : decode b_Fo_isSame 10 = .ok (.aload_n 0, 1) := by decide +kernel
theorem d_Fo_isSame_11 : decode b_Fo_isSame 11 = .ok (.getfield 22, 3) := by decide +kernel
theorem d_Fo_isSame_14 : decode b_Fo_isSame 14 = .ok (.getfield 98, 3) := by decide +kernel
theorem d_Fo_isSame_17 : decode b_Fo_isSame 17 = .ok (.iload_n 2, 1) := by decide +kernel
theorem d_Fo_isSame_18 : decode b_Fo_isSame 18 = .ok (.iaload, 1) := by decide +kernel
theorem d_Fo_isSame_19 : decode b_Fo_isSame 19 = .ok (.istore 4, 2) := by decide +kernel
theorem d_Fo_isSame_21 : decode b_Fo_isSame 21 = .ok (.aload_n 0, 1) := by decide +kernel
theorem d_Fo_isSame_22 : decode b_Fo_isSame 22 = .ok (.getfield 22, 3) := by decide +kernel
theorem d_Fo_isSame_25 : decode b_Fo_isSame 25 = .ok (.getfield 101, 3) := by decide +kernel
theorem d_Fo_isSame_28 : decode b_Fo_isSame 28 = .ok (.iload_n 1, 1) := by decide +kernel
theorem d_Fo_isSame_29 : decode b_Fo_isSame 29 = .ok (.iaload, 1) := by decide +kernel
theorem d_Fo_isSame_30 : decode b_Fo_isSame 30 = .ok (.aload_n 0, 1) := by decide +kernel
theorem d_Fo_isSame_31 : decode b_Fo_isSame 31 = .ok (.getfield 22, 3) := by decide +kernel
theorem d_Fo_isSame_34 : decode b_Fo_isSame 34 = .ok (.getfield 101, 3) := by decide +kernel
theorem d_Fo_isSame_37 : decode b_Fo_isSame 37 = .ok (.iload_n 2, 1) := by decide +kernel
theorem d_Fo_isSame_38 : decode b_Fo_isSame 38 = .ok (.iaload, 1) := by decide +kernel
theorem d_Fo_isSame_39 : decode b_Fo_isSame 39 = .ok (.if_icmp .ne 93, 3) := by decide +kernel
theorem d_Fo_isSame_42 : decode b_Fo_isSame 42 = .ok (.aload_n 0, 1) := by decide +kernel
theorem d_Fo_isSame_43 : decode b_Fo_isSame 43 = .ok (.getfield 22, 3) := by decide +kernel
theorem d_Fo_isSame_46 : decode b_Fo_isSame 46 = .ok (.getfield 104, 3) := by decide +kernel
theorem d_Fo_isSame_49 : decode b_Fo_isSame 49 = .ok (.iload_n 1, 1) := by decide +kernel
theorem d_Fo_isSame_50 : decode b_Fo_isSame 50 = .ok (.iaload, 1) := by decide +kernel
theorem d_Fo_isSame_51 : decode b_Fo_isSame 51 = .ok (.aload_n 0, 1) := by decide +kernel
theorem d_Fo_isSame_52 : decode b_Fo_isSame 52 = .ok (.getfield 22, 3) := by decide +kernel
theorem d_Fo_isSame_55 : decode b_Fo_isSame 55 = .ok (.getfield 104, 3) := by decide +kernel
theorem d_Fo_isSame_58 : decode b_Fo_isSame 58 = .ok (.iload_n 2, 1) := by decide +kernel
theorem d_Fo_isSame_59 : decode b_Fo_isSame 59 = .ok (.iaload, 1) := by decide +kernel
theorem d_Fo_isSame_60 : decode b_Fo_isSame 60 = .ok (.if_icmp .ne 72, 3) := by decide +kernel
theorem d_Fo_isSame_63 : decode b_Fo_isSame 63 = .ok (.aload_n 0, 1) := by decide +kernel
theorem d_Fo_isSame_64 : decode b_Fo_isSame 64 = .ok (.getfield 22, 3) := by decide +kernel
theorem d_Fo_isSame_67 : decode b_Fo_isSame 67 = .ok (.getfield 107, 3) := by decide +kernel
theorem d_Fo_isSame_70 : decode b_Fo_isSame 70 = .ok (.iload_n 1, 1) := by decide +kernel
theorem d_Fo_isSame_71 : decode b_Fo_isSame 71 = .ok (.iaload, 1) := by decide +kernel
theorem d_Fo_isSame_72 : decode b_Fo_isSame 72 = .ok (.aload_n 0, 1) := by decide +kernel
theorem d_Fo_isSame_73 : decode b_Fo_isSame 73 = .ok (.getfield 22, 3) := by decide +kernel
theorem d_Fo_isSame_76 : decode b_Fo_isSame 76 = .ok (.getfield 107, 3) := by decide +kernel
theorem d_Fo_isSame_79 : decode b_Fo_isSame 79 = .ok (.iload_n 2, 1) := by decide +kernel
theorem d_Fo_isSame_80 : decode b_Fo_isSame 80 = .ok (.iaload, 1) := by decide +kernel
theorem d_Fo_isSame_81 : decode b_Fo_isSame 81 = .ok (.if_icmp .ne 51, 3) := by decide +kernel
theorem d_Fo_isSame_84 : decode b_Fo_isSame 84 = .ok (.aload_n 0, 1) := by decide +kernel
theorem d_Fo_isSame_85 : decode b_Fo_isSame 85 = .ok (.getfield 26, 3) := by decide +kernel
theorem d_Fo_isSame_88 : decode b_Fo_isSame 88 = .ok (.getfield 110, 3) := by decide +kernel
theorem d_Fo_isSame_91 : decode b_Fo_isSame 91 = .ok (.iload_n 3, 1) := by decide +kernel
theorem d_Fo_isSame_92 : decode b_Fo_isSame 92 = .ok (.iaload, 1) := by decide +kernel
theorem d_Fo_isSame_93 : decode b_Fo_isSame 93 = .ok (.aload_n 0, 1) := by decide +kernel
theorem d_Fo_isSame_94 : decode b_Fo_isSame 94 = .ok (.getfield 26, 3) := by decide +kernel
theorem d_Fo_isSame_97 : decode b_Fo_isSame 97 = .ok (.getfield 110, 3) := by decide +kernel
theorem d_Fo_isSame_100 : decode b_Fo_isSame 100 = .ok (.iload 4, 2) := by decide +kernel
theorem d_Fo_isSame_102 : decode b_Fo_isSame 102 = .ok (.iaload, 1) := by decide +kernel
theorem d_Fo_isSame_103 : decode b_Fo_isSame 103 = .ok (.if_icmp .ne 29, 3) := by decide +kernel
theorem d_Fo_isSame_106 : decode b_Fo_isSame 106 = .ok (.aload_n 0, 1) := by decide +kernel
theorem d_Fo_isSame_107 : decode b_Fo_isSame 107 = .ok (.getfield 26, 3) := by decide +kernel
theorem d_Fo_isSame_110 : decode b_Fo_isSame 110 = .ok (.getfield 115, 3) := by decide +kernel
theorem d_Fo_isSame_113 : decode b_Fo_isSame 113 = .ok (.iload_n 3, 1) := by decide +kernel
theorem d_Fo_isSame_114 : decode b_Fo_isSame 114 = .ok (.iaload, 1) := by decide +kernel
theorem d_Fo_isSame_115 : decode b_Fo_isSame 115 = .ok (.aload_n 0, 1) := by decide +kernel
theorem d_Fo_isSame_116 : decode b_Fo_isSame 116 = .ok (.getfield 26, 3) := by decide +kernel
theorem d_Fo_isSame_119 : decode b_Fo_isSame 119 = .ok (.getfield 115, 3) := by decide +kernel
theorem d_Fo_isSame_122 : decode b_Fo_isSame 122 = .ok (.iload 4, 2) := by decide +kernel
theorem d_Fo_isSame_124 : decode b_Fo_isSame 124 = .ok (.iaload, 1) := by decide +kernel
theorem d_Fo_isSame_125 : decode b_Fo_isSame 125 = .ok (.if_icmp .ne 7, 3) := by decide +kernel
theorem d_Fo_isSame_128 : decode b_Fo_isSame 128 = .ok (.iconst 1, 1) := by decide +kernel
theorem d_Fo_isSame_129 : decode b_Fo_isSame 129 = .ok (.goto 4, 3) := by decide +kernel
theorem d_Fo_isSame_132 : decode b_Fo_isSame 132 = .ok (.iconst 0, 1) := by decide +kernel
theorem d_Fo_isSame_133 : decode b_Fo_isSame 133 = .ok (.ireturn, 1) := by decide +kernel
theorem d_Fo_hasSameRelocations_0 : decode b_Fo_hasSameRelocations 0 = .ok (.aload_n 0, 1) := by decide +kernel
theorem d_Fo_hasSameRelocations_1 : decode b_Fo_hasSameRelocations 1 = .ok (.getfield 22, 3) := by decide +kernel
theorem d_Fo_hasSameRelocations_4 : decode b_Fo_hasSameRelocations 4 = .ok (.iload_n 1, 1) := by decide +kernel
theorem d_Fo_hasSameRelocations_5 : decode b_Fo_hasSameRelocations 5 = .ok (.invokevirtual 87, 3) := by decide +kernel
theorem d_Fo_hasSameRelocations_8 : decode b_Fo_hasSameRelocations 8 = .ok (.aload_n 0, 1) := by decide +kernel
theorem d_Fo_hasSameRelocations_9 : decode b_Fo_hasSameRelocations 9 = .ok (.getfield 22, 3) := by decide +kernel
theorem d_Fo_hasSameRelocations_12 : decode b_Fo_hasSameRelocations 12 = .ok (.iload_n 2, 1) := by decide +kernel
theorem d_Fo_hasSameRelocations_13 : decode b_Fo_hasSameRelocations 13 = .ok (.invokevirtual 87, 3) := by decide +kernel
theorem d_Fo_hasSameRelocations_16 : decode b_Fo_hasSameRelocations 16 = .ok (.if_icmp .eq 5, 3) := by decide +kernel
theorem d_Fo_hasSameRelocations_19 : decode b_Fo_hasSameRelocations 19 = .ok (.iconst 0, 1) := by decide +kernel
theorem d_Fo_hasSameRelocations_20 : decode b_Fo_hasSameRelocations 20 = .ok (.ireturn, 1) := by decide +kernel
theorem d_Fo_hasSameRelocations_21 : decode b_Fo_hasSameRelocations 21 = .ok (.iconst 0, 1) := by decide +kernel
theorem d_Fo_hasSameRelocations_22 : decode b_Fo_hasSameRelocations 22 = .ok (.istore_n 3, 1) := by decide +kernel
theorem d_Fo_hasSameRelocations_23 : decode b_Fo_hasSameRelocations 23 = .ok (.iload_n 3, 1) := by decide +kernel
theorem d_Fo_hasSameRelocations_24 : decode b_Fo_hasSameRelocations 24 = .ok (.aload_n 0, 1) := by decide +kernel
theorem d_Fo_hasSameRelocations_25 : decode b_Fo_hasSameRelocations 25 = .ok (.getfield 22, 3) := by decide +kernel
theorem d_Fo_hasSameRelocations_28 : decode b_Fo_hasSameRelocations 28 = .ok (.iload_n 1, 1) := by decide +kernel
theorem d_Fo_hasSameRelocations_29 : decode b_Fo_hasSameRelocations 29 = .ok (.invokevirtual 87, 3) := by decide +kernel
theorem d_Fo_hasSameRelocations_32 : decode b_Fo_hasSameRelocations 32 = .ok (.if_icmp .ge 36, 3) := by decide +kernel
theorem d_Fo_hasSameRelocations_35 : decode b_Fo_hasSameRelocations 35 = .ok (.aload_n 0, 1) := by decide +kernel
theorem d_Fo_hasSameRelocations_36 : decode b_Fo_hasSameRelocations 36 = .ok (.aload_n 0, 1) := by decide +kernel
theorem d_Fo_hasSameRelocations_37 : decode b_Fo_hasSameRelocations 37 = .ok (.getfield 22, 3) := by decide +kernel
theorem d_Fo_hasSameRelocations_40 : decode b_Fo_hasSameRelocations 40 = .ok (.iload_n 1, 1) := by decide +kernel
theorem d_Fo_hasSameRelocations_41 : decode b_Fo_hasSameRelocations 41 = .ok (.iload_n 3, 1) := by decide +kernel
theorem d_Fo_hasSameRelocations_42 : decode b_Fo_hasSameRelocations 42 = .ok (.invokevirtual 92, 3) := by decide +kernel
theorem d_Fo_hasSameRelocations_45 : decode b_Fo_hasSameRelocations 45 = .ok (.aload_n 0, 1) := by decide +kernel
theorem d_Fo_hasSameRelocations_46 : decode b_Fo_hasSameRelocations 46 = .ok (.getfield 22, 3) := by decide +kernel
theorem d_Fo_hasSameRelocations_49 : decode b_Fo_hasSameRelocations 49 = .ok (.iload_n 2, 1) := by decide +kernel
theorem d_Fo_hasSameRelocations_50 : decode b_Fo_hasSameRelocations 50 = .ok (.iload_n 3, 1) := by decide +kernel
theorem d_Fo_hasSameRelocations_51 : decode b_Fo_hasSameRelocations 51 = .ok (.invokevirtual 92, 3) := by decide +kernel
theorem d_Fo_hasSameRelocations_54 : decode b_Fo_hasSameRelocations 54 = .ok (.invokevirtual 95, 3) := by decide +kernel
theorem d_Fo_hasSameRelocations_57 : decode b_Fo_hasSameRelocations 57 = .ok (.ifCond .ne 5, 3) := by decide +kernel
theorem d_Fo_hasSameRelocations_60 : decode b_Fo_hasSameRelocations 60 = .ok (.iconst 0, 1) := by decide +kernel
theorem d_Fo_hasSameRelocations_61 : decode b_Fo_hasSameRelocations 61 = .ok (.ireturn, 1) := by decide +kernel
theorem d_Fo_hasSameRelocations_62 : decode b_Fo_hasSameRelocations 62 = .ok (.iinc 3 1, 3) := by decide +kernel
theorem d_Fo_hasSameRelocations_65 : decode b_Fo_hasSameRelocations 65 = .ok (.goto (-42), 3) := by decide +kernel
theorem d_Fo_hasSameRelocations_68 : decode b_Fo_hasSameRelocations 68 = .ok (.iconst 1, 1) := by decide +kernel
theorem d_Fo_hasSameRelocations_69 : decode b_Fo_hasSameRelocations 69 = .ok (.ireturn, 1) := by decide +kernel
theorem d_Se_read_0 : decode b_Se_read 0 = .ok (.aload_n 0, 1) := by decide +kernel
theorem d_Se_read_1 : decode b_Se_read 1 = .ok (.getfield 9, 3) := by decide +kernel
theorem d_Se_read_4 : decode b_Se_read 4 = .ok (.aload_n 0, 1) := by decide +kernel
theorem d_Se_read_5 : decode b_Se_read 5 = .ok (.getfield 27, 3) := by decide +kernel
theorem d_Se_read_8 : decode b_Se_read 8 = .ok (.iload_n 1, 1) := by decide +kernel
theorem d_Se_read_9 : decode b_Se_read 9 = .ok (.iaload, 1) := by decide +kernel
theorem d_Se_read_10 : decode b_Se_read 10 = .ok (.iload_n 2, 1) := by decide +kernel
theorem d_Se_read_11 : decode b_Se_read 11 = .ok (.iconst 4, 1) := by decide +kernel
theorem d_Se_read_12 : decode b_Se_read 12 = .ok (.idiv, 1) := by decide +kernel
theorem d_Se_read_13 : decode b_Se_read 13 = .ok (.iadd, 1) := by decide +kernel
theorem d_Se_read_14 : decode b_Se_read 14 = .ok (.iaload, 1) := by decide +kernel
theorem d_Se_read_15 : decode b_Se_read 15 = .ok (.ireturn, 1) := by decide +kernel
theorem d_Fo_hasSameWords_0 : decode b_Fo_hasSameWords 0 = .ok (.iconst 0, 1) := by decide +kernel
theorem d_Fo_hasSameWords_1 : decode b_Fo_hasSameWords 1 = .ok (.istore_n 3, 1) := by decide +kernel
theorem d_Fo_hasSameWords_2 : decode b_Fo_hasSameWords 2 = .ok (.iload_n 3, 1) := by decide +kernel
theorem d_Fo_hasSameWords_3 : decode b_Fo_hasSameWords 3 = .ok (.aload_n 0, 1) := by decide +kernel
theorem d_Fo_hasSameWords_4 : decode b_Fo_hasSameWords 4 = .ok (.getfield 18, 3) := by decide +kernel
theorem d_Fo_hasSameWords_7 : decode b_Fo_hasSameWords 7 = .ok (.getfield 71, 3) := by decide +kernel
theorem d_Fo_hasSameWords_10 : decode b_Fo_hasSameWords 10 = .ok (.iload_n 1, 1) := by decide +kernel
theorem d_Fo_hasSameWords_11 : decode b_Fo_hasSameWords 11 = .ok (.iaload, 1) := by decide +kernel
theorem d_Fo_hasSameWords_12 : decode b_Fo_hasSameWords 12 = .ok (.if_icmp .ge 32, 3) := by decide +kernel
theorem d_Fo_hasSameWords_15 : decode b_Fo_hasSameWords 15 = .ok (.aload_n 0, 1) := by decide +kernel
theorem d_Fo_hasSameWords_16 : decode b_Fo_hasSameWords 16 = .ok (.getfield 18, 3) := by decide +kernel
theorem d_Fo_hasSameWords_19 : decode b_Fo_hasSameWords 19 = .ok (.iload_n 1, 1) := by decide +kernel
theorem d_Fo_hasSameWords_20 : decode b_Fo_hasSameWords 20 = .ok (.iload_n 3, 1) := by decide +kernel
theorem d_Fo_hasSameWords_21 : decode b_Fo_hasSameWords 21 = .ok (.invokevirtual 83, 3) := by decide +kernel
theorem d_Fo_hasSameWords_24 : decode b_Fo_hasSameWords 24 = .ok (.aload_n 0, 1) := by decide +kernel
theorem d_Fo_hasSameWords_25 : decode b_Fo_hasSameWords 25 = .ok (.getfield 18, 3) := by decide +kernel
theorem d_Fo_hasSameWords_28 : decode b_Fo_hasSameWords 28 = .ok (.iload_n 2, 1) := by decide +kernel
theorem d_Fo_hasSameWords_29 : decode b_Fo_hasSameWords 29 = .ok (.iload_n 3, 1) := by decide +kernel
theorem d_Fo_hasSameWords_30 : decode b_Fo_hasSameWords 30 = .ok (.invokevirtual 83, 3) := by decide +kernel
theorem d_Fo_hasSameWords_33 : decode b_Fo_hasSameWords 33 = .ok (.if_icmp .eq 5, 3) := by decide +kernel
theorem d_Fo_hasSameWords_36 : decode b_Fo_hasSameWords 36 = .ok (.iconst 0, 1) := by decide +kernel
theorem d_Fo_hasSameWords_37 : decode b_Fo_hasSameWords 37 = .ok (.ireturn, 1) := by decide +kernel
theorem d_Fo_hasSameWords_38 : decode b_Fo_hasSameWords 38 = .ok (.iinc 3 4, 3) := by decide +kernel
theorem d_Fo_hasSameWords_41 : decode b_Fo_hasSameWords 41 = .ok (.goto (-39), 3) := by decide +kernel
theorem d_Fo_hasSameWords_44 : decode b_Fo_hasSameWords 44 = .ok (.iconst 1, 1) := by decide +kernel
theorem d_Fo_hasSameWords_45 : decode b_Fo_hasSameWords 45 = .ok (.ireturn, 1) := by decide +kernel
theorem d_Fo_looksSame_0 : decode b_Fo_looksSame 0 = .ok (.aload_n 0, 1) := by decide +kernel
theorem d_Fo_looksSame_1 : decode b_Fo_looksSame 1 = .ok (.getfield 18, 3) := by decide +kernel
theorem d_Fo_looksSame_4 : decode b_Fo_looksSame 4 = .ok (.getfield 71, 3) := by decide +kernel
theorem d_Fo_looksSame_7 : decode b_Fo_looksSame 7 = .ok (.iload_n 1, 1) := by decide +kernel
theorem d_Fo_looksSame_8 : decode b_Fo_looksSame 8 = .ok (.iaload, 1) := by decide +kernel
theorem d_Fo_looksSame_9 : decode b_Fo_looksSame 9 = .ok (.aload_n 0, 1) := by decide +kernel
theorem d_Fo_looksSame_10 : decode b_Fo_looksSame 10 = .ok (.getfield 18, 3) := by decide +kernel
theorem d_Fo_looksSame_13 : decode b_Fo_looksSame 13 = .ok (.getfield 71, 3) := by decide +kernel
theorem d_Fo_looksSame_16 : decode b_Fo_looksSame 16 = .ok (.iload_n 2, 1) := by decide +kernel
theorem d_Fo_looksSame_17 : decode b_Fo_looksSame 17 = .ok (.iaload, 1) := by decide +kernel
theorem d_Fo_looksSame_18 : decode b_Fo_looksSame 18 = .ok (.if_icmp .ne 46, 3) := by decide +kernel
theorem d_Fo_looksSame_21 : decode b_Fo_looksSame 21 = .ok (.aload_n 0, 1) := by decide +kernel
theorem d_Fo_looksSame_22 : decode b_Fo_looksSame 22 = .ok (.getfield 18, 3) := by decide +kernel
theorem d_Fo_looksSame_25 : decode b_Fo_looksSame 25 = .ok (.getfield 74, 3) := by decide +kernel
theorem d_Fo_looksSame_28 : decode b_Fo_looksSame 28 = .ok (.iload_n 1, 1) := by decide +kernel
theorem d_Fo_looksSame_29 : decode b_Fo_looksSame 29 = .ok (.iaload, 1) := by decide +kernel
theorem d_Fo_looksSame_30 : decode b_Fo_looksSame 30 = .ok (.aload_n 0, 1) := by decide +kernel
theorem d_Fo_looksSame_31 : decode b_Fo_looksSame 31 = .ok (.getfield 18, 3) := by decide +kernel
theorem d_Fo_looksSame_34 : decode b_Fo_looksSame 34 = .ok (.getfield 74, 3) := by decide +kernel
theorem d_Fo_looksSame_37 : decode b_Fo_looksSame 37 = .ok (.iload_n 2, 1) := by decide +kernel
theorem d_Fo_looksSame_38 : decode b_Fo_looksSame 38 = .ok (.iaload, 1) := by decide +kernel
theorem d_Fo_looksSame_39 : decode b_Fo_looksSame 39 = .ok (.if_icmp .ne 25, 3) := by decide +kernel
theorem d_Fo_looksSame_42 : decode b_Fo_looksSame 42 = .ok (.aload_n 0, 1) := by decide +kernel
theorem d_Fo_looksSame_43 : decode b_Fo_looksSame 43 = .ok (.iload_n 1, 1) := by decide +kernel
theorem d_Fo_looksSame_44 : decode b_Fo_looksSame 44 = .ok (.iload_n 2, 1) := by decide +kernel
theorem d_Fo_looksSame_45 : decode b_Fo_looksSame 45 = .ok (.invokevirtual 77, 3) := by decide +kernel
theorem d_Fo_looksSame_48 : decode b_Fo_looksSame 48 = .ok (.ifCond .eq 16, 3) := by decide +kernel
theorem d_Fo_looksSame_51 : decode b_Fo_looksSame 51 = .ok (.aload_n 0, 1) := by decide +kernel
theorem d_Fo_looksSame_52 : decode b_Fo_looksSame 52 = .ok (.iload_n 1, 1) := by decide +kernel
theorem d_Fo_looksSame_53 : decode b_Fo_looksSame 53 = .ok (.iload_n 2, 1) := by decide +kernel
theorem d_Fo_looksSame_54 : decode b_Fo_looksSame 54 = .ok (.invokevirtual 80, 3) := by decide +kernel
theorem d_Fo_looksSame_57 : decode b_Fo_looksSame 57 = .ok (.ifCond .eq 7, 3) := by decide +kernel
theorem d_Fo_looksSame_60 : decode b_Fo_looksSame 60 = .ok (.iconst 1, 1) := by decide +kernel
theorem d_Fo_looksSame_61 : decode b_Fo_looksSame 61 = .ok (.goto 4, 3) := by decide +kernel
theorem d_Fo_looksSame_64 : decode b_Fo_looksSame 64 = .ok (.iconst 0, 1) := by decide +kernel
theorem d_Fo_looksSame_65 : decode b_Fo_looksSame 65 = .ok (.ireturn, 1) := by decide +kernel
