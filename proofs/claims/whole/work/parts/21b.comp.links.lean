theorem fl_Na_73 : FL R_Na 73 3 2 := ⟨R_Sy, F_Sy, N_Sy, rfl, by decide, i_Sy, (mw 219 (by decide +kernel))⟩
theorem fl_Na_30 : FL R_Na 30 6 0 := ⟨R_Na, F_Na, N_Na, rfl, by decide, i_Na, (mw 327 (by decide +kernel))⟩
theorem fl_Na_53 : FL R_Na 53 1 2 := ⟨R_Un, F_Un, N_Un, rfl, by decide, i_Un, (mw 136 (by decide +kernel))⟩
theorem fl_Na_59 : FL R_Na 59 3 1 := ⟨R_Sy, F_Sy, N_Sy, rfl, by decide, i_Sy, (mw 215 (by decide +kernel))⟩
theorem fl_Na_76 : FL R_Na 76 3 3 := ⟨R_Sy, F_Sy, N_Sy, rfl, by decide, i_Sy, (mw 223 (by decide +kernel))⟩
theorem ml_Na_107 : MLb R_Na 107 y_Na_copyMeaning b_Na_copyMeaning 3 (none) 2 := ⟨(mw 1209 (by decide +kernel)), (mw 1206 (by decide +kernel)), (mw 89 (by decide +kernel)), by decide +kernel⟩
theorem mv_Na_copyMeaning : MLv y_Na_copyMeaning := ⟨(mw 1208 (by decide +kernel)), (mw 15 (by decide +kernel))⟩
theorem ki_3 : Int32.ofInt 3 = 3 := by decide
theorem fl_Na_44 : FL R_Na 44 6 5 := ⟨R_Na, F_Na, N_Na, rfl, by decide, i_Na, (mw 333 (by decide +kernel))⟩
theorem ft_Na_5 : FT 6 5 .int := ⟨R_Na, F_Na, N_Na, rfl, rfl, by decide +kernel⟩
theorem ml_Na_79 : MLb R_Na 79 y_Na_takeGlobal b_Na_takeGlobal 3 (none) 2 := ⟨(mw 1192 (by decide +kernel)), (mw 1189 (by decide +kernel)), (mw 89 (by decide +kernel)), by decide +kernel⟩
theorem mv_Na_takeGlobal : MLv y_Na_takeGlobal := ⟨(mw 1191 (by decide +kernel)), (mw 11 (by decide +kernel))⟩
theorem mm_Na_84 : Cond.methodLink R_Na 84 Lib.Math.max.name ∈ ALLW := (mw 1193 (by decide +kernel))
theorem ml_Na_90 : MLb R_Na 90 y_Na_takeWeak b_Na_takeWeak 3 (none) 2 := ⟨(mw 1197 (by decide +kernel)), (mw 1194 (by decide +kernel)), (mw 89 (by decide +kernel)), by decide +kernel⟩
theorem mv_Na_takeWeak : MLv y_Na_takeWeak := ⟨(mw 1196 (by decide +kernel)), (mw 12 (by decide +kernel))⟩
theorem fl_Na_48 : FL R_Na 48 3 0 := ⟨R_Sy, F_Sy, N_Sy, rfl, by decide, i_Sy, (mw 211 (by decide +kernel))⟩
theorem ml_Na_62 : MLb R_Na 62 y_Sy_givesName b_Sy_givesName 2 (some .boolean) 1 := ⟨(mw 1166 (by decide +kernel)), (mw 1184 (by decide +kernel)), (mw 86 (by decide +kernel)), by decide +kernel⟩
theorem ml_Na_66 : MLb R_Na 66 y_Na_take b_Na_take 3 (none) 1 := ⟨(mw 1188 (by decide +kernel)), (mw 1185 (by decide +kernel)), (mw 89 (by decide +kernel)), by decide +kernel⟩
theorem mv_Na_take : MLv y_Na_take := ⟨(mw 1187 (by decide +kernel)), (mw 10 (by decide +kernel))⟩
theorem ml_Na_70 : MLb R_Na 70 y_Na_giveMeaning b_Na_giveMeaning 3 (none) 1 := ⟨(mw 1201 (by decide +kernel)), (mw 1198 (by decide +kernel)), (mw 89 (by decide +kernel)), by decide +kernel⟩
theorem mv_Na_giveMeaning : MLv y_Na_giveMeaning := ⟨(mw 1200 (by decide +kernel)), (mw 13 (by decide +kernel))⟩
theorem ml_Na_38 : MLb R_Na 38 y_fill37 b_fill37 4 (none) 2 := ⟨(mw 1142 (by decide +kernel)), (mw 1183 (by decide +kernel)), (mw 103 (by decide +kernel)), by decide +kernel⟩
theorem ms_fill37 : Cond.static y_fill37 ∈ ALLW := (mw 1141 (by decide +kernel))
theorem ms_fill38 : Cond.static y_fill38 ∈ ALLW := (mw 1141 (by decide +kernel))
theorem ms_fill39 : Cond.static y_fill39 ∈ ALLW := (mw 1141 (by decide +kernel))
theorem fl_Rc_30 : FL R_Rc 30 7 2 := ⟨R_Rc, F_Rc, N_Rc, rfl, by decide, i_Rc, (mw 377 (by decide +kernel))⟩
theorem fl_Rc_89 : FL R_Rc 89 4 0 := ⟨R_Re, F_Re, N_Re, rfl, by decide, i_Re, (mw 255 (by decide +kernel))⟩
theorem fl_Rc_90 : FL R_Rc 90 4 6 := ⟨R_Re, F_Re, N_Re, rfl, by decide, i_Re, (mw 280 (by decide +kernel))⟩
theorem fl_Rc_9 : FL R_Rc 9 7 4 := ⟨R_Rc, F_Rc, N_Rc, rfl, by decide, i_Rc, (mw 379 (by decide +kernel))⟩
theorem fl_Rc_93 : FL R_Rc 93 4 1 := ⟨R_Re, F_Re, N_Re, rfl, by decide, i_Re, (mw 260 (by decide +kernel))⟩
theorem fl_Rc_34 : FL R_Rc 34 7 3 := ⟨R_Rc, F_Rc, N_Rc, rfl, by decide, i_Rc, (mw 378 (by decide +kernel))⟩
theorem fl_Rc_81 : FL R_Rc 81 6 6 := ⟨R_Na, F_Na, N_Na, rfl, by decide, i_Na, (mw 336 (by decide +kernel))⟩
theorem fl_Rc_74 : FL R_Rc 74 4 4 := ⟨R_Re, F_Re, N_Re, rfl, by decide, i_Re, (mw 270 (by decide +kernel))⟩
theorem fl_Rc_18 : FL R_Rc 18 7 7 := ⟨R_Rc, F_Rc, N_Rc, rfl, by decide, i_Rc, (mw 387 (by decide +kernel))⟩
theorem fl_Rc_62 : FL R_Rc 62 7 6 := ⟨R_Rc, F_Rc, N_Rc, rfl, by decide, i_Rc, (mw 385 (by decide +kernel))⟩
theorem ft_Rc_6 : FT 7 6 .int := ⟨R_Rc, F_Rc, N_Rc, rfl, rfl, by decide +kernel⟩
theorem kb_96 : (Int8.ofInt 96).toInt32 = 96 := by decide
theorem fl_Rc_15 : FL R_Rc 15 7 5 := ⟨R_Rc, F_Rc, N_Rc, rfl, by decide, i_Rc, (mw 383 (by decide +kernel))⟩
theorem fl_Re_30 : FL R_Re 30 4 7 := ⟨R_Re, F_Re, N_Re, rfl, by decide, i_Re, (mw 281 (by decide +kernel))⟩
theorem fl_Re_27 : FL R_Re 27 4 6 := ⟨R_Re, F_Re, N_Re, rfl, by decide, i_Re, (mw 277 (by decide +kernel))⟩
theorem ml_Rc_68 : MLb R_Rc 68 y_Re_countOf b_Re_countOf 2 (some .int) 1 := ⟨(mw 1249 (by decide +kernel)), (mw 1246 (by decide +kernel)), (mw 87 (by decide +kernel)), by decide +kernel⟩
theorem mv_Re_countOf : MLv y_Re_countOf := ⟨(mw 1247 (by decide +kernel)), (mw 1248 (by decide +kernel))⟩
theorem ml_Rc_77 : MLb R_Rc 77 y_Re_pick b_Re_pick 3 (some .int) 2 := ⟨(mw 1253 (by decide +kernel)), (mw 1250 (by decide +kernel)), (mw 87 (by decide +kernel)), by decide +kernel⟩
theorem mv_Re_pick : MLv y_Re_pick := ⟨(mw 1251 (by decide +kernel)), (mw 1252 (by decide +kernel))⟩
theorem fl_Rc_86 : FL R_Rc 86 6 7 := ⟨R_Na, F_Na, N_Na, rfl, by decide, i_Na, (mw 342 (by decide +kernel))⟩
theorem ml_Rc_41 : MLb R_Rc 41 y_Rc_find b_Rc_find 2 (none) 1 := ⟨(mw 1241 (by decide +kernel)), (mw 1238 (by decide +kernel)), (mw 90 (by decide +kernel)), by decide +kernel⟩
theorem mv_Rc_find : MLv y_Rc_find := ⟨(mw 1240 (by decide +kernel)), (mw 20 (by decide +kernel))⟩
theorem d_Na_giveMeaning_0 : decode b_Na_giveMeaning 0 = .ok (.aload_n 0, 1) := by decide +kernel
theorem d_Na_giveMeaning_1 : decode b_Na_giveMeaning 1 = .ok (.getfield 34, 3) := by decide +kernel
theorem d_Na_giveMeaning_4 : decode b_Na_giveMeaning 4 = .ok (.getfield 73, 3) := by decide +kernel
theorem d_Na_giveMeaning_7 : decode b_Na_giveMeaning 7 = .ok (.iload_n 1, 1) := by decide +kernel
theorem d_Na_giveMeaning_8 : decode b_Na_giveMeaning 8 = .ok (.iaload, 1) := by decide +kernel
theorem d_Na_giveMeaning_9 : decode b_Na_giveMeaning 9 = .ok (.istore_n 2, 1) := by decide +kernel
theorem d_Na_giveMeaning_10 : decode b_Na_giveMeaning 10 = .ok (.aload_n 0, 1) := by decide +kernel
theorem d_Na_giveMeaning_11 : decode b_Na_giveMeaning 11 = .ok (.getfield 30, 3) := by decide +kernel
theorem d_Na_giveMeaning_14 : decode b_Na_giveMeaning 14 = .ok (.getfield 53, 3) := by decide +kernel
theorem d_Na_giveMeaning_17 : decode b_Na_giveMeaning 17 = .ok (.aload_n 0, 1) := by decide +kernel
theorem d_Na_giveMeaning_18 : decode b_Na_giveMeaning 18 = .ok (.getfield 34, 3) := by decide +kernel
theorem d_Na_giveMeaning_21 : decode b_Na_giveMeaning 21 = .ok (.getfield 59, 3) := by decide +kernel
theorem d_Na_giveMeaning_24 : decode b_Na_giveMeaning 24 = .ok (.iload_n 1, 1) := by decide +kernel
theorem d_Na_giveMeaning_25 : decode b_Na_giveMeaning 25 = .ok (.iaload, 1) := by decide +kernel
theorem d_Na_giveMeaning_26 : decode b_Na_giveMeaning 26 = .ok (.baload, 1) := by decide +kernel
theorem d_Na_giveMeaning_27 : decode b_Na_giveMeaning 27 = .ok (.ifCond .ne 14, 3) := by decide +kernel
theorem d_Na_giveMeaning_30 : decode b_Na_giveMeaning 30 = .ok (.aload_n 0, 1) := by decide +kernel
theorem d_Na_giveMeaning_31 : decode b_Na_giveMeaning 31 = .ok (.iload_n 1, 1) := by decide +kernel
theorem d_Na_giveMeaning_32 : decode b_Na_giveMeaning 32 = .ok (.iconst (-1), 1) := by decide +kernel
theorem d_Na_giveMeaning_33 : decode b_Na_giveMeaning 33 = .ok (.iconst (-1), 1) := by decide +kernel
theorem d_Na_giveMeaning_34 : decode b_Na_giveMeaning 34 = .ok (.iconst 0, 1) := by decide +kernel
theorem d_Na_giveMeaning_35 : decode b_Na_giveMeaning 35 = .ok (.invokevirtual 103, 3) := by decide +kernel
theorem d_Na_giveMeaning_38 : decode b_Na_giveMeaning 38 = .ok (.goto 97, 3) := by decide +kernel
theorem d_Na_giveMeaning_41 : decode b_Na_giveMeaning 41 = .ok (.aload_n 0, 1) := by decide +kernel
theorem d_Na_giveMeaning_42 : decode b_Na_giveMeaning 42 = .ok (.getfield 34, 3) := by decide +kernel
theorem d_Na_giveMeaning_45 : decode b_Na_giveMeaning 45 = .ok (.getfield 76, 3) := by decide +kernel
theorem d_Na_giveMeaning_48 : decode b_Na_giveMeaning 48 = .ok (.iload_n 1, 1) := by decide +kernel
theorem d_Na_giveMeaning_49 : decode b_Na_giveMeaning 49 = .ok (.iaload, 1) := by decide +kernel
theorem d_Na_giveMeaning_50 : decode b_Na_giveMeaning 50 = .ok (.ifCond .ne 12, 3) := by decide +kernel
theorem d_Na_giveMeaning_53 : decode b_Na_giveMeaning 53 = .ok (.aload_n 0, 1) := by decide +kernel
theorem d_Na_giveMeaning_54 : decode b_Na_giveMeaning 54 = .ok (.iload_n 1, 1) := by decide +kernel
theorem d_Na_giveMeaning_55 : decode b_Na_giveMeaning 55 = .ok (.iload_n 1, 1) := by decide +kernel
theorem d_Na_giveMeaning_56 : decode b_Na_giveMeaning 56 = .ok (.invokevirtual 107, 3) := by decide +kernel
theorem d_Na_giveMeaning_59 : decode b_Na_giveMeaning 59 = .ok (.goto 76, 3) := by decide +kernel
theorem d_Na_giveMeaning_62 : decode b_Na_giveMeaning 62 = .ok (.aload_n 0, 1) := by decide +kernel
theorem d_Na_giveMeaning_63 : decode b_Na_giveMeaning 63 = .ok (.iload_n 2, 1) := by decide +kernel
theorem d_Na_giveMeaning_64 : decode b_Na_giveMeaning 64 = .ok (.invokevirtual 93, 3) := by decide +kernel
theorem d_Na_giveMeaning_67 : decode b_Na_giveMeaning 67 = .ok (.ifCond .eq 14, 3) := by decide +kernel
theorem d_Na_giveMeaning_70 : decode b_Na_giveMeaning 70 = .ok (.aload_n 0, 1) := by decide +kernel
theorem d_Na_giveMeaning_71 : decode b_Na_giveMeaning 71 = .ok (.iload_n 1, 1) := by decide +kernel
theorem d_Na_giveMeaning_72 : decode b_Na_giveMeaning 72 = .ok (.iconst 3, 1) := by decide +kernel
theorem d_Na_giveMeaning_73 : decode b_Na_giveMeaning 73 = .ok (.iload_n 2, 1) := by decide +kernel
theorem d_Na_giveMeaning_74 : decode b_Na_giveMeaning 74 = .ok (.iconst 0, 1) := by decide +kernel
theorem d_Na_giveMeaning_75 : decode b_Na_giveMeaning 75 = .ok (.invokevirtual 103, 3) := by decide +kernel
theorem d_Na_giveMeaning_78 : decode b_Na_giveMeaning 78 = .ok (.goto 57, 3) := by decide +kernel
theorem d_Na_giveMeaning_81 : decode b_Na_giveMeaning 81 = .ok (.aload_n 0, 1) := by decide +kernel
theorem d_Na_giveMeaning_82 : decode b_Na_giveMeaning 82 = .ok (.iload_n 2, 1) := by decide +kernel
theorem d_Na_giveMeaning_83 : decode b_Na_giveMeaning 83 = .ok (.invokevirtual 96, 3) := by decide +kernel
theorem d_Na_giveMeaning_86 : decode b_Na_giveMeaning 86 = .ok (.iconst (-1), 1) := by decide +kernel
theorem d_Na_giveMeaning_87 : decode b_Na_giveMeaning 87 = .ok (.if_icmp .eq 16, 3) := by decide +kernel
theorem d_Na_giveMeaning_90 : decode b_Na_giveMeaning 90 = .ok (.aload_n 0, 1) := by decide +kernel
theorem d_Na_giveMeaning_91 : decode b_Na_giveMeaning 91 = .ok (.iload_n 1, 1) := by decide +kernel
theorem d_Na_giveMeaning_92 : decode b_Na_giveMeaning 92 = .ok (.aload_n 0, 1) := by decide +kernel
theorem d_Na_giveMeaning_93 : decode b_Na_giveMeaning 93 = .ok (.iload_n 2, 1) := by decide +kernel
theorem d_Na_giveMeaning_94 : decode b_Na_giveMeaning 94 = .ok (.invokevirtual 96, 3) := by decide +kernel
theorem d_Na_giveMeaning_97 : decode b_Na_giveMeaning 97 = .ok (.invokevirtual 107, 3) := by decide +kernel
theorem d_Na_giveMeaning_100 : decode b_Na_giveMeaning 100 = .ok (.goto 35, 3) := by decide +kernel
theorem d_Na_giveMeaning_103 : decode b_Na_giveMeaning 103 = .ok (.aload_n 0, 1) := by decide +kernel
theorem d_Na_giveMeaning_104 : decode b_Na_giveMeaning 104 = .ok (.getfield 34, 3) := by decide +kernel
theorem d_Na_giveMeaning_107 : decode b_Na_giveMeaning 107 = .ok (.getfield 76, 3) := by decide +kernel
theorem d_Na_giveMeaning_110 : decode b_Na_giveMeaning 110 = .ok (.iload_n 1, 1) := by decide +kernel
theorem d_Na_giveMeaning_111 : decode b_Na_giveMeaning 111 = .ok (.iaload, 1) := by decide +kernel
theorem d_Na_giveMeaning_112 : decode b_Na_giveMeaning 112 = .ok (.iconst 2, 1) := by decide +kernel
theorem d_Na_giveMeaning_113 : decode b_Na_giveMeaning 113 = .ok (.if_icmp .ne 14, 3) := by decide +kernel
theorem d_Na_giveMeaning_116 : decode b_Na_giveMeaning 116 = .ok (.aload_n 0, 1) := by decide +kernel
theorem d_Na_giveMeaning_117 : decode b_Na_giveMeaning 117 = .ok (.iload_n 1, 1) := by decide +kernel
theorem d_Na_giveMeaning_118 : decode b_Na_giveMeaning 118 = .ok (.iconst 2, 1) := by decide +kernel
theorem d_Na_giveMeaning_119 : decode b_Na_giveMeaning 119 = .ok (.iconst (-1), 1) := by decide +kernel
theorem d_Na_giveMeaning_120 : decode b_Na_giveMeaning 120 = .ok (.iconst 0, 1) := by decide +kernel
theorem d_Na_giveMeaning_121 : decode b_Na_giveMeaning 121 = .ok (.invokevirtual 103, 3) := by decide +kernel
theorem d_Na_giveMeaning_124 : decode b_Na_giveMeaning 124 = .ok (.goto 11, 3) := by decide +kernel
theorem d_Na_giveMeaning_127 : decode b_Na_giveMeaning 127 = .ok (.aload_n 0, 1) := by decide +kernel
theorem d_Na_giveMeaning_128 : decode b_Na_giveMeaning 128 = .ok (.iload_n 1, 1) := by decide +kernel
theorem d_Na_giveMeaning_129 : decode b_Na_giveMeaning 129 = .ok (.iconst 0, 1) := by decide +kernel
theorem d_Na_giveMeaning_130 : decode b_Na_giveMeaning 130 = .ok (.iconst (-1), 1) := by decide +kernel
theorem d_Na_giveMeaning_131 : decode b_Na_giveMeaning 131 = .ok (.iconst 0, 1) := by decide +kernel
theorem d_Na_giveMeaning_132 : decode b_Na_giveMeaning 132 = .ok (.invokevirtual 103, 3) := by decide +kernel
theorem d_Na_giveMeaning_135 : decode b_Na_giveMeaning 135 = .ok (.return_, 1) := by decide +kernel
theorem d_Na_takeGlobal_0 : decode b_Na_takeGlobal 0 = .ok (.aload_n 0, 1) := by decide +kernel
theorem d_Na_takeGlobal_1 : decode b_Na_takeGlobal 1 = .ok (.getfield 9, 3) := by decide +kernel
theorem d_Na_takeGlobal_4 : decode b_Na_takeGlobal 4 = .ok (.iload_n 1, 1) := by decide +kernel
theorem d_Na_takeGlobal_5 : decode b_Na_takeGlobal 5 = .ok (.iaload, 1) := by decide +kernel
theorem d_Na_takeGlobal_6 : decode b_Na_takeGlobal 6 = .ok (.iconst (-1), 1) := by decide +kernel
theorem d_Na_takeGlobal_7 : decode b_Na_takeGlobal 7 = .ok (.if_icmp .ne 13, 3) := by decide +kernel
theorem d_Na_takeGlobal_10 : decode b_Na_takeGlobal 10 = .ok (.aload_n 0, 1) := by decide +kernel
theorem d_Na_takeGlobal_11 : decode b_Na_takeGlobal 11 = .ok (.getfield 9, 3) := by decide +kernel
theorem d_Na_takeGlobal_14 : decode b_Na_takeGlobal 14 = .ok (.iload_n 1, 1) := by decide +kernel
theorem d_Na_takeGlobal_15 : decode b_Na_takeGlobal 15 = .ok (.iload_n 2, 1) := by decide +kernel
theorem d_Na_takeGlobal_16 : decode b_Na_takeGlobal 16 = .ok (.iastore, 1) := by decide +kernel
theorem d_Na_takeGlobal_17 : decode b_Na_takeGlobal 17 = .ok (.goto 24, 3) := by decide +kernel
theorem d_Na_takeGlobal_20 : decode b_Na_takeGlobal 20 = .ok (.aload_n 0, 1) := by decide +kernel
theorem d_Na_takeGlobal_21 : decode b_Na_takeGlobal 21 = .ok (.getfield 44, 3) := by decide +kernel
theorem d_Na_takeGlobal_24 : decode b_Na_takeGlobal 24 = .ok (.iconst (-1), 1) := by decide +kernel
theorem d_Na_takeGlobal_25 : decode b_Na_takeGlobal 25 = .ok (.if_icmp .eq 11, 3) := by decide +kernel
theorem d_Na_takeGlobal_28 : decode b_Na_takeGlobal 28 = .ok (.iload_n 1, 1) := by decide +kernel
theorem d_Na_takeGlobal_29 : decode b_Na_takeGlobal 29 = .ok (.aload_n 0, 1) := by decide +kernel
theorem d_Na_takeGlobal_30 : decode b_Na_takeGlobal 30 = .ok (.getfield 44, 3) := by decide +kernel
theorem d_Na_takeGlobal_33 : decode b_Na_takeGlobal 33 = .ok (.if_icmp .ge 8, 3) := by decide +kernel
theorem d_Na_takeGlobal_36 : decode b_Na_takeGlobal 36 = .ok (.aload_n 0, 1) := by decide +kernel
theorem d_Na_takeGlobal_37 : decode b_Na_takeGlobal 37 = .ok (.iload_n 1, 1) := by decide +kernel
theorem d_Na_takeGlobal_38 : decode b_Na_takeGlobal 38 = .ok (.putfield 44, 3) := by decide +kernel
theorem d_Na_takeGlobal_41 : decode b_Na_takeGlobal 41 = .ok (.return_, 1) := by decide +kernel
theorem d_Na_takeWeak_0 : decode b_Na_takeWeak 0 = .ok (.aload_n 0, 1) := by decide +kernel
theorem d_Na_takeWeak_1 : decode b_Na_takeWeak 1 = .ok (.getfield 15, 3) := by decide +kernel
theorem d_Na_takeWeak_4 : decode b_Na_takeWeak 4 = .ok (.iload_n 1, 1) := by decide +kernel
theorem d_Na_takeWeak_5 : decode b_Na_takeWeak 5 = .ok (.iaload, 1) := by decide +kernel
theorem d_Na_takeWeak_6 : decode b_Na_takeWeak 6 = .ok (.iconst (-1), 1) := by decide +kernel
theorem d_Na_takeWeak_7 : decode b_Na_takeWeak 7 = .ok (.if_icmp .eq 29, 3) := by decide +kernel
theorem d_Na_takeWeak_10 : decode b_Na_takeWeak 10 = .ok (.aload_n 0, 1) := by decide +kernel
theorem d_Na_takeWeak_11 : decode b_Na_takeWeak 11 = .ok (.getfield 34, 3) := by decide +kernel
theorem d_Na_takeWeak_14 : decode b_Na_takeWeak 14 = .ok (.getfield 59, 3) := by decide +kernel
theorem d_Na_takeWeak_17 : decode b_Na_takeWeak 17 = .ok (.iload_n 2, 1) := by decide +kernel
theorem d_Na_takeWeak_18 : decode b_Na_takeWeak 18 = .ok (.iaload, 1) := by decide +kernel
theorem d_Na_takeWeak_19 : decode b_Na_takeWeak 19 = .ok (.aload_n 0, 1) := by decide +kernel
theorem d_Na_takeWeak_20 : decode b_Na_takeWeak 20 = .ok (.getfield 34, 3) := by decide +kernel
theorem d_Na_takeWeak_23 : decode b_Na_takeWeak 23 = .ok (.getfield 59, 3) := by decide +kernel
theorem d_Na_takeWeak_26 : decode b_Na_takeWeak 26 = .ok (.aload_n 0, 1) := by decide +kernel
theorem d_Na_takeWeak_27 : decode b_Na_takeWeak 27 = .ok (.getfield 15, 3) := by decide +kernel
theorem d_Na_takeWeak_30 : decode b_Na_takeWeak 30 = .ok (.iload_n 1, 1) := by decide +kernel
theorem d_Na_takeWeak_31 : decode b_Na_takeWeak 31 = .ok (.iaload, 1) := by decide +kernel
theorem d_Na_takeWeak_32 : decode b_Na_takeWeak 32 = .ok (.iaload, 1) := by decide +kernel
theorem d_Na_takeWeak_33 : decode b_Na_takeWeak 33 = .ok (.if_icmp .ge 10, 3) := by decide +kernel
theorem d_Na_takeWeak_36 : decode b_Na_takeWeak 36 = .ok (.aload_n 0, 1) := by decide +kernel
theorem d_Na_takeWeak_37 : decode b_Na_takeWeak 37 = .ok (.getfield 15, 3) := by decide +kernel
theorem d_Na_takeWeak_40 : decode b_Na_takeWeak 40 = .ok (.iload_n 1, 1) := by decide +kernel
theorem d_Na_takeWeak_41 : decode b_Na_takeWeak 41 = .ok (.iload_n 2, 1) := by decide +kernel
theorem d_Na_takeWeak_42 : decode b_Na_takeWeak 42 = .ok (.iastore, 1) := by decide +kernel
theorem d_Na_takeWeak_43 : decode b_Na_takeWeak 43 = .ok (.return_, 1) := by decide +kernel
theorem d_Na_take_0 : decode b_Na_take 0 = .ok (.aload_n 0, 1) := by decide +kernel
theorem d_Na_take_1 : decode b_Na_take 1 = .ok (.getfield 34, 3) := by decide +kernel
theorem d_Na_take_4 : decode b_Na_take 4 = .ok (.getfield 73, 3) := by decide +kernel
theorem d_Na_take_7 : decode b_Na_take 7 = .ok (.iload_n 1, 1) := by decide +kernel
theorem d_Na_take_8 : decode b_Na_take 8 = .ok (.iaload, 1) := by decide +kernel
theorem d_Na_take_9 : decode b_Na_take 9 = .ok (.istore_n 2, 1) := by decide +kernel
theorem d_Na_take_10 : decode b_Na_take 10 = .ok (.aload_n 0, 1) := by decide +kernel
theorem d_Na_take_11 : decode b_Na_take 11 = .ok (.getfield 34, 3) := by decide +kernel
theorem d_Na_take_14 : decode b_Na_take 14 = .ok (.getfield 76, 3) := by decide +kernel
theorem d_Na_take_17 : decode b_Na_take 17 = .ok (.iload_n 1, 1) := by decide +kernel
theorem d_Na_take_18 : decode b_Na_take 18 = .ok (.iaload, 1) := by decide +kernel
theorem d_Na_take_19 : decode b_Na_take 19 = .ok (.lookupswitch 61 #[(1, 25), (3, 34)], 25) := by decide +kernel
theorem d_Na_take_44 : decode b_Na_take 44 = .ok (.aload_n 0, 1) := by decide +kernel
theorem d_Na_take_45 : decode b_Na_take 45 = .ok (.iload_n 2, 1) := by decide +kernel
theorem d_Na_take_46 : decode b_Na_take 46 = .ok (.iload_n 1, 1) := by decide +kernel
theorem d_Na_take_47 : decode b_Na_take 47 = .ok (.invokevirtual 79, 3) := by decide +kernel
theorem d_Na_take_50 : decode b_Na_take 50 = .ok (.goto 36, 3) := by decide +kernel
theorem d_Na_take_53 : decode b_Na_take 53 = .ok (.aload_n 0, 1) := by decide +kernel
theorem d_Na_take_54 : decode b_Na_take 54 = .ok (.getfield 18, 3) := by decide +kernel
theorem d_Na_take_57 : decode b_Na_take 57 = .ok (.iload_n 2, 1) := by decide +kernel
theorem d_Na_take_58 : decode b_Na_take 58 = .ok (.aload_n 0, 1) := by decide +kernel
theorem d_Na_take_59 : decode b_Na_take 59 = .ok (.getfield 18, 3) := by decide +kernel
theorem d_Na_take_62 : decode b_Na_take 62 = .ok (.iload_n 2, 1) := by decide +kernel
theorem d_Na_take_63 : decode b_Na_take 63 = .ok (.iaload, 1) := by decide +kernel
theorem d_Na_take_64 : decode b_Na_take 64 = .ok (.aload_n 0, 1) := by decide +kernel
theorem d_Na_take_65 : decode b_Na_take 65 = .ok (.getfield 34, 3) := by decide +kernel
theorem d_Na_take_68 : decode b_Na_take 68 = .ok (.getfield 83, 3) := by decide +kernel
theorem d_Na_take_71 : decode b_Na_take 71 = .ok (.iload_n 1, 1) := by decide +kernel
theorem d_Na_take_72 : decode b_Na_take 72 = .ok (.iaload, 1) := by decide +kernel
theorem d_Na_take_73 : decode b_Na_take 73 = .ok (.invokestatic 84, 3) := by decide +kernel
theorem d_Na_take_76 : decode b_Na_take 76 = .ok (.iastore, 1) := by decide +kernel
theorem d_Na_take_77 : decode b_Na_take 77 = .ok (.goto 9, 3) := by decide +kernel
theorem d_Na_take_80 : decode b_Na_take 80 = .ok (.aload_n 0, 1) := by decide +kernel
theorem d_Na_take_81 : decode b_Na_take 81 = .ok (.iload_n 2, 1) := by decide +kernel
theorem d_Na_take_82 : decode b_Na_take 82 = .ok (.iload_n 1, 1) := by decide +kernel
theorem d_Na_take_83 : decode b_Na_take 83 = .ok (.invokevirtual 90, 3) := by decide +kernel
theorem d_Na_take_86 : decode b_Na_take 86 = .ok (.return_, 1) := by decide +kernel
theorem d_fill37_0 : decode b_fill37 0 = .ok (.iconst 0, 1) := by decide +kernel
theorem d_fill37_1 : decode b_fill37 1 = .ok (.istore_n 2, 1) := by decide +kernel
theorem d_fill37_2 : decode b_fill37 2 = .ok (.aload_n 0, 1) := by decide +kernel
theorem d_fill37_3 : decode b_fill37 3 = .ok (.arraylength, 1) := by decide +kernel
theorem d_fill37_4 : decode b_fill37 4 = .ok (.istore_n 3, 1) := by decide +kernel
theorem d_fill37_5 : decode b_fill37 5 = .ok (.iload_n 2, 1) := by decide +kernel
theorem d_fill37_6 : decode b_fill37 6 = .ok (.iload_n 3, 1) := by decide +kernel
theorem d_fill37_7 : decode b_fill37 7 = .ok (.if_icmp .ge 13, 3) := by decide +kernel
theorem d_fill37_10 : decode b_fill37 10 = .ok (.aload_n 0, 1) := by decide +kernel
theorem d_fill37_11 : decode b_fill37 11 = .ok (.iload_n 2, 1) := by decide +kernel
theorem d_fill37_12 : decode b_fill37 12 = .ok (.iload_n 1, 1) := by decide +kernel
theorem d_fill37_13 : decode b_fill37 13 = .ok (.iastore, 1) := by decide +kernel
theorem d_fill37_14 : decode b_fill37 14 = .ok (.iinc 2 1, 3) := by decide +kernel
theorem d_fill37_17 : decode b_fill37 17 = .ok (.goto (-12), 3) := by decide +kernel
theorem d_fill37_20 : decode b_fill37 20 = .ok (.return_, 1) := by decide +kernel
theorem d_fill38_0 : decode b_fill38 0 = .ok (.iconst 0, 1) := by decide +kernel
theorem d_fill38_1 : decode b_fill38 1 = .ok (.istore_n 2, 1) := by decide +kernel
theorem d_fill38_2 : decode b_fill38 2 = .ok (.aload_n 0, 1) := by decide +kernel
theorem d_fill38_3 : decode b_fill38 3 = .ok (.arraylength, 1) := by decide +kernel
theorem d_fill38_4 : decode b_fill38 4 = .ok (.istore_n 3, 1) := by decide +kernel
theorem d_fill38_5 : decode b_fill38 5 = .ok (.iload_n 2, 1) := by decide +kernel
theorem d_fill38_6 : decode b_fill38 6 = .ok (.iload_n 3, 1) := by decide +kernel
theorem d_fill38_7 : decode b_fill38 7 = .ok (.if_icmp .ge 13, 3) := by decide +kernel
theorem d_fill38_10 : decode b_fill38 10 = .ok (.aload_n 0, 1) := by decide +kernel
theorem d_fill38_11 : decode b_fill38 11 = .ok (.iload_n 2, 1) := by decide +kernel
theorem d_fill38_12 : decode b_fill38 12 = .ok (.iload_n 1, 1) := by decide +kernel
theorem d_fill38_13 : decode b_fill38 13 = .ok (.iastore, 1) := by decide +kernel
theorem d_fill38_14 : decode b_fill38 14 = .ok (.iinc 2 1, 3) := by decide +kernel
theorem d_fill38_17 : decode b_fill38 17 = .ok (.goto (-12), 3) := by decide +kernel
theorem d_fill38_20 : decode b_fill38 20 = .ok (.return_, 1) := by decide +kernel
theorem d_fill39_0 : decode b_fill39 0 = .ok (.iconst 0, 1) := by decide +kernel
theorem d_fill39_1 : decode b_fill39 1 = .ok (.istore_n 2, 1) := by decide +kernel
theorem d_fill39_2 : decode b_fill39 2 = .ok (.aload_n 0, 1) := by decide +kernel
theorem d_fill39_3 : decode b_fill39 3 = .ok (.arraylength, 1) := by decide +kernel
theorem d_fill39_4 : decode b_fill39 4 = .ok (.istore_n 3, 1) := by decide +kernel
theorem d_fill39_5 : decode b_fill39 5 = .ok (.iload_n 2, 1) := by decide +kernel
theorem d_fill39_6 : decode b_fill39 6 = .ok (.iload_n 3, 1) := by decide +kernel
theorem d_fill39_7 : decode b_fill39 7 = .ok (.if_icmp .ge 13, 3) := by decide +kernel
theorem d_fill39_10 : decode b_fill39 10 = .ok (.aload_n 0, 1) := by decide +kernel
theorem d_fill39_11 : decode b_fill39 11 = .ok (.iload_n 2, 1) := by decide +kernel
theorem d_fill39_12 : decode b_fill39 12 = .ok (.iload_n 1, 1) := by decide +kernel
theorem d_fill39_13 : decode b_fill39 13 = .ok (.iastore, 1) := by decide +kernel
theorem d_fill39_14 : decode b_fill39 14 = .ok (.iinc 2 1, 3) := by decide +kernel
theorem d_fill39_17 : decode b_fill39 17 = .ok (.goto (-12), 3) := by decide +kernel
theorem d_fill39_20 : decode b_fill39 20 = .ok (.return_, 1) := by decide +kernel
theorem d_Na_settle_0 : decode b_Na_settle 0 = .ok (.aload_n 0, 1) := by decide +kernel
theorem d_Na_settle_1 : decode b_Na_settle 1 = .ok (.getfield 9, 3) := by decide +kernel
theorem d_Na_settle_4 : decode b_Na_settle 4 = .ok (.iconst (-1), 1) := by decide +kernel
theorem d_Na_settle_5 : decode b_Na_settle 5 = .ok (.invokestatic 38, 3) := by decide +kernel
theorem d_Na_settle_8 : decode b_Na_settle 8 = .ok (.aload_n 0, 1) := by decide +kernel
theorem d_Na_settle_9 : decode b_Na_settle 9 = .ok (.getfield 15, 3) := by decide +kernel
theorem d_Na_settle_12 : decode b_Na_settle 12 = .ok (.iconst (-1), 1) := by decide +kernel
theorem d_Na_settle_13 : decode b_Na_settle 13 = .ok (.invokestatic 38, 3) := by decide +kernel
theorem d_Na_settle_16 : decode b_Na_settle 16 = .ok (.aload_n 0, 1) := by decide +kernel
theorem d_Na_settle_17 : decode b_Na_settle 17 = .ok (.getfield 18, 3) := by decide +kernel
theorem d_Na_settle_20 : decode b_Na_settle 20 = .ok (.iconst 0, 1) := by decide +kernel
theorem d_Na_settle_21 : decode b_Na_settle 21 = .ok (.invokestatic 38, 3) := by decide +kernel
theorem d_Na_settle_24 : decode b_Na_settle 24 = .ok (.aload_n 0, 1) := by decide +kernel
theorem d_Na_settle_25 : decode b_Na_settle 25 = .ok (.iconst (-1), 1) := by decide +kernel
theorem d_Na_settle_26 : decode b_Na_settle 26 = .ok (.putfield 44, 3) := by decide +kernel
theorem d_Na_settle_29 : decode b_Na_settle 29 = .ok (.iconst 0, 1) := by decide +kernel
theorem d_Na_settle_30 : decode b_Na_settle 30 = .ok (.istore_n 1, 1) := by decide +kernel
theorem d_Na_settle_31 : decode b_Na_settle 31 = .ok (.iload_n 1, 1) := by decide +kernel
theorem d_Na_settle_32 : decode b_Na_settle 32 = .ok (.aload_n 0, 1) := by decide +kernel
theorem d_Na_settle_33 : decode b_Na_settle 33 = .ok (.getfield 34, 3) := by decide +kernel
theorem d_Na_settle_36 : decode b_Na_settle 36 = .ok (.getfield 48, 3) := by decide +kernel
theorem d_Na_settle_39 : decode b_Na_settle 39 = .ok (.if_icmp .ge 45, 3) := by decide +kernel
theorem d_Na_settle_42 : decode b_Na_settle 42 = .ok (.aload_n 0, 1) := by decide +kernel
theorem d_Na_settle_43 : decode b_Na_settle 43 = .ok (.getfield 30, 3) := by decide +kernel
theorem d_Na_settle_46 : decode b_Na_settle 46 = .ok (.getfield 53, 3) := by decide +kernel
theorem d_Na_settle_49 : decode b_Na_settle 49 = .ok (.aload_n 0, 1) := by decide +kernel
theorem d_Na_settle_50 : decode b_Na_settle 50 = .ok (.getfield 34, 3) := by decide +kernel
theorem d_Na_settle_53 : decode b_Na_settle 53 = .ok (.getfield 59, 3) := by decide +kernel
theorem d_Na_settle_56 : decode b_Na_settle 56 = .ok (.iload_n 1, 1) := by decide +kernel
theorem d_Na_settle_57 : decode b_Na_settle 57 = .ok (.iaload, 1) := by decide +kernel
theorem d_Na_settle_58 : decode b_Na_settle 58 = .ok (.baload, 1) := by decide +kernel
theorem d_Na_settle_59 : decode b_Na_settle 59 = .ok (.ifCond .eq 19, 3) := by decide +kernel
theorem d_Na_settle_62 : decode b_Na_settle 62 = .ok (.aload_n 0, 1) := by decide +kernel
theorem d_Na_settle_63 : decode b_Na_settle 63 = .ok (.getfield 34, 3) := by decide +kernel
theorem d_Na_settle_66 : decode b_Na_settle 66 = .ok (.iload_n 1, 1) := by decide +kernel
theorem d_Na_settle_67 : decode b_Na_settle 67 = .ok (.invokevirtual 62, 3) := by decide +kernel
theorem d_Na_settle_70 : decode b_Na_settle 70 = .ok (.ifCond .eq 8, 3) := by decide +kernel
theorem d_Na_settle_73 : decode b_Na_settle 73 = .ok (.aload_n 0, 1) := by decide +kernel
theorem d_Na_settle_74 : decode b_Na_settle 74 = .ok (.iload_n 1, 1) := by decide +kernel
theorem d_Na_settle_75 : decode b_Na_settle 75 = .ok (.invokevirtual 66, 3) := by decide +kernel
theorem d_Na_settle_78 : decode b_Na_settle 78 = .ok (.iinc 1 1, 3) := by decide +kernel
theorem d_Na_settle_81 : decode b_Na_settle 81 = .ok (.goto (-50), 3) := by decide +kernel
theorem d_Na_settle_84 : decode b_Na_settle 84 = .ok (.iconst 0, 1) := by decide +kernel
theorem d_Na_settle_85 : decode b_Na_settle 85 = .ok (.istore_n 1, 1) := by decide +kernel
theorem d_Na_settle_86 : decode b_Na_settle 86 = .ok (.iload_n 1, 1) := by decide +kernel
theorem d_Na_settle_87 : decode b_Na_settle 87 = .ok (.aload_n 0, 1) := by decide +kernel
theorem d_Na_settle_88 : decode b_Na_settle 88 = .ok (.getfield 34, 3) := by decide +kernel
theorem d_Na_settle_91 : decode b_Na_settle 91 = .ok (.getfield 48, 3) := by decide +kernel
theorem d_Na_settle_94 : decode b_Na_settle 94 = .ok (.if_icmp .ge 14, 3) := by decide +kernel
theorem d_Na_settle_97 : decode b_Na_settle 97 = .ok (.aload_n 0, 1) := by decide +kernel
theorem d_Na_settle_98 : decode b_Na_settle 98 = .ok (.iload_n 1, 1) := by decide +kernel
theorem d_Na_settle_99 : decode b_Na_settle 99 = .ok (.invokevirtual 70, 3) := by decide +kernel
theorem d_Na_settle_102 : decode b_Na_settle 102 = .ok (.iinc 1 1, 3) := by decide +kernel
theorem d_Na_settle_105 : decode b_Na_settle 105 = .ok (.goto (-19), 3) := by decide +kernel
theorem d_Na_settle_108 : decode b_Na_settle 108 = .ok (.return_, 1) := by decide +kernel
theorem d_Rc_firstMissing_0 : decode b_Rc_firstMissing 0 = .ok (.iconst 0, 1) := by decide +kernel
theorem d_Rc_firstMissing_1 : decode b_Rc_firstMissing 1 = .ok (.istore_n 1, 1) := by decide +kernel
theorem d_Rc_firstMissing_2 : decode b_Rc_firstMissing 2 = .ok (.iload_n 1, 1) := by decide +kernel
theorem d_Rc_firstMissing_3 : decode b_Rc_firstMissing 3 = .ok (.aload_n 0, 1) := by decide +kernel
theorem d_Rc_firstMissing_4 : decode b_Rc_firstMissing 4 = .ok (.getfield 30, 3) := by decide +kernel
theorem d_Rc_firstMissing_7 : decode b_Rc_firstMissing 7 = .ok (.getfield 89, 3) := by decide +kernel
theorem d_Rc_firstMissing_10 : decode b_Rc_firstMissing 10 = .ok (.if_icmp .ge 58, 3) := by decide +kernel
theorem d_Rc_firstMissing_13 : decode b_Rc_firstMissing 13 = .ok (.aload_n 0, 1) := by decide +kernel
theorem d_Rc_firstMissing_14 : decode b_Rc_firstMissing 14 = .ok (.getfield 30, 3) := by decide +kernel
theorem d_Rc_firstMissing_17 : decode b_Rc_firstMissing 17 = .ok (.getfield 90, 3) := by decide +kernel
theorem d_Rc_firstMissing_20 : decode b_Rc_firstMissing 20 = .ok (.iload_n 1, 1) := by decide +kernel
theorem d_Rc_firstMissing_21 : decode b_Rc_firstMissing 21 = .ok (.iaload, 1) := by decide +kernel
theorem d_Rc_firstMissing_22 : decode b_Rc_firstMissing 22 = .ok (.istore_n 2, 1) := by decide +kernel
theorem d_Rc_firstMissing_23 : decode b_Rc_firstMissing 23 = .ok (.aload_n 0, 1) := by decide +kernel
theorem d_Rc_firstMissing_24 : decode b_Rc_firstMissing 24 = .ok (.getfield 9, 3) := by decide +kernel
theorem d_Rc_firstMissing_27 : decode b_Rc_firstMissing 27 = .ok (.aload_n 0, 1) := by decide +kernel
theorem d_Rc_firstMissing_28 : decode b_Rc_firstMissing 28 = .ok (.getfield 30, 3) := by decide +kernel
theorem d_Rc_firstMissing_31 : decode b_Rc_firstMissing 31 = .ok (.getfield 93, 3) := by decide +kernel
theorem d_Rc_firstMissing_34 : decode b_Rc_firstMissing 34 = .ok (.iload_n 2, 1) := by decide +kernel
theorem d_Rc_firstMissing_35 : decode b_Rc_firstMissing 35 = .ok (.iaload, 1) := by decide +kernel
theorem d_Rc_firstMissing_36 : decode b_Rc_firstMissing 36 = .ok (.baload, 1) := by decide +kernel
theorem d_Rc_firstMissing_37 : decode b_Rc_firstMissing 37 = .ok (.ifCond .eq 25, 3) := by decide +kernel
theorem d_Rc_firstMissing_40 : decode b_Rc_firstMissing 40 = .ok (.aload_n 0, 1) := by decide +kernel
theorem d_Rc_firstMissing_41 : decode b_Rc_firstMissing 41 = .ok (.getfield 34, 3) := by decide +kernel
theorem d_Rc_firstMissing_44 : decode b_Rc_firstMissing 44 = .ok (.getfield 81, 3) := by decide +kernel
theorem d_Rc_firstMissing_47 : decode b_Rc_firstMissing 47 = .ok (.aload_n 0, 1) := by decide +kernel
theorem d_Rc_firstMissing_48 : decode b_Rc_firstMissing 48 = .ok (.getfield 30, 3) := by decide +kernel
theorem d_Rc_firstMissing_51 : decode b_Rc_firstMissing 51 = .ok (.getfield 74, 3) := by decide +kernel
theorem d_Rc_firstMissing_54 : decode b_Rc_firstMissing 54 = .ok (.iload_n 2, 1) := by decide +kernel
theorem d_Rc_firstMissing_55 : decode b_Rc_firstMissing 55 = .ok (.iaload, 1) := by decide +kernel
theorem d_Rc_firstMissing_56 : decode b_Rc_firstMissing 56 = .ok (.iaload, 1) := by decide +kernel
theorem d_Rc_firstMissing_57 : decode b_Rc_firstMissing 57 = .ok (.ifCond .ne 5, 3) := by decide +kernel
theorem d_Rc_firstMissing_60 : decode b_Rc_firstMissing 60 = .ok (.iload_n 2, 1) := by decide +kernel
theorem d_Rc_firstMissing_61 : decode b_Rc_firstMissing 61 = .ok (.ireturn, 1) := by decide +kernel
theorem d_Rc_firstMissing_62 : decode b_Rc_firstMissing 62 = .ok (.iinc 1 1, 3) := by decide +kernel
theorem d_Rc_firstMissing_65 : decode b_Rc_firstMissing 65 = .ok (.goto (-63), 3) := by decide +kernel
theorem d_Rc_firstMissing_68 : decode b_Rc_firstMissing 68 = .ok (.iconst (-1), 1) := by decide +kernel
theorem d_Rc_firstMissing_69 : decode b_Rc_firstMissing 69 = .ok (.ireturn, 1) := by decide +kernel
theorem d_Rc_find_0 : decode b_Rc_find 0 = .ok (.aload_n 0, 1) := by decide +kernel
theorem d_Rc_find_1 : decode b_Rc_find 1 = .ok (.getfield 9, 3) := by decide +kernel
theorem d_Rc_find_4 : decode b_Rc_find 4 = .ok (.iload_n 1, 1) := by decide +kernel
theorem d_Rc_find_5 : decode b_Rc_find 5 = .ok (.baload, 1) := by decide +kernel
theorem d_Rc_find_6 : decode b_Rc_find 6 = .ok (.ifCond .ne 30, 3) := by decide +kernel
theorem d_Rc_find_9 : decode b_Rc_find 9 = .ok (.aload_n 0, 1) := by decide +kernel
theorem d_Rc_find_10 : decode b_Rc_find 10 = .ok (.getfield 9, 3) := by decide +kernel
theorem d_Rc_find_13 : decode b_Rc_find 13 = .ok (.iload_n 1, 1) := by decide +kernel
theorem d_Rc_find_14 : decode b_Rc_find 14 = .ok (.iconst 1, 1) := by decide +kernel
theorem d_Rc_find_15 : decode b_Rc_find 15 = .ok (.bastore, 1) := by decide +kernel
theorem d_Rc_find_16 : decode b_Rc_find 16 = .ok (.aload_n 0, 1) := by decide +kernel
theorem d_Rc_find_17 : decode b_Rc_find 17 = .ok (.getfield 18, 3) := by decide +kernel
theorem d_Rc_find_20 : decode b_Rc_find 20 = .ok (.aload_n 0, 1) := by decide +kernel
theorem d_Rc_find_21 : decode b_Rc_find 21 = .ok (.getfield 62, 3) := by decide +kernel
theorem d_Rc_find_24 : decode b_Rc_find 24 = .ok (.iload_n 1, 1) := by decide +kernel
theorem d_Rc_find_25 : decode b_Rc_find 25 = .ok (.iastore, 1) := by decide +kernel
theorem d_Rc_find_26 : decode b_Rc_find 26 = .ok (.aload_n 0, 1) := by decide +kernel
theorem d_Rc_find_27 : decode b_Rc_find 27 = .ok (.dup, 1) := by decide +kernel
theorem d_Rc_find_28 : decode b_Rc_find 28 = .ok (.getfield 62, 3) := by decide +kernel
theorem d_Rc_find_31 : decode b_Rc_find 31 = .ok (.iconst 1, 1) := by decide +kernel
theorem d_Rc_find_32 : decode b_Rc_find 32 = .ok (.iadd, 1) := by decide +kernel
theorem d_Rc_find_33 : decode b_Rc_find 33 = .ok (.putfield 62, 3) := by decide +kernel
theorem d_Rc_find_36 : decode b_Rc_find 36 = .ok (.return_, 1) := by decide +kernel
theorem d_Rc_forget_0 : decode b_Rc_forget 0 = .ok (.iconst 0, 1) := by decide +kernel
theorem d_Rc_forget_1 : decode b_Rc_forget 1 = .ok (.istore_n 1, 1) := by decide +kernel
theorem d_Rc_forget_2 : decode b_Rc_forget 2 = .ok (.iload_n 1, 1) := by decide +kernel
theorem d_Rc_forget_3 : decode b_Rc_forget 3 = .ok (.bipush 96, 2) := by decide +kernel
theorem d_Rc_forget_5 : decode b_Rc_forget 5 = .ok (.if_icmp .ge 16, 3) := by decide +kernel
theorem d_Rc_forget_8 : decode b_Rc_forget 8 = .ok (.aload_n 0, 1) := by decide +kernel
theorem d_Rc_forget_9 : decode b_Rc_forget 9 = .ok (.getfield 9, 3) := by decide +kernel
theorem d_Rc_forget_12 : decode b_Rc_forget 12 = .ok (.iload_n 1, 1) := by decide +kernel
theorem d_Rc_forget_13 : decode b_Rc_forget 13 = .ok (.iconst 0, 1) := by decide +kernel
theorem d_Rc_forget_14 : decode b_Rc_forget 14 = .ok (.bastore, 1) := by decide +kernel
theorem d_Rc_forget_15 : decode b_Rc_forget 15 = .ok (.iinc 1 1, 3) := by decide +kernel
theorem d_Rc_forget_18 : decode b_Rc_forget 18 = .ok (.goto (-16), 3) := by decide +kernel
theorem d_Rc_forget_21 : decode b_Rc_forget 21 = .ok (.iconst 0, 1) := by decide +kernel
theorem d_Rc_forget_22 : decode b_Rc_forget 22 = .ok (.istore_n 1, 1) := by decide +kernel
theorem d_Rc_forget_23 : decode b_Rc_forget 23 = .ok (.iload_n 1, 1) := by decide +kernel
theorem d_Rc_forget_24 : decode b_Rc_forget 24 = .ok (.sipush 200, 3) := by decide +kernel
theorem d_Rc_forget_27 : decode b_Rc_forget 27 = .ok (.if_icmp .ge 16, 3) := by decide +kernel
theorem d_Rc_forget_30 : decode b_Rc_forget 30 = .ok (.aload_n 0, 1) := by decide +kernel
theorem d_Rc_forget_31 : decode b_Rc_forget 31 = .ok (.getfield 15, 3) := by decide +kernel
theorem d_Rc_forget_34 : decode b_Rc_forget 34 = .ok (.iload_n 1, 1) := by decide +kernel
theorem d_Rc_forget_35 : decode b_Rc_forget 35 = .ok (.iconst 0, 1) := by decide +kernel
theorem d_Rc_forget_36 : decode b_Rc_forget 36 = .ok (.bastore, 1) := by decide +kernel
theorem d_Rc_forget_37 : decode b_Rc_forget 37 = .ok (.iinc 1 1, 3) := by decide +kernel
theorem d_Rc_forget_40 : decode b_Rc_forget 40 = .ok (.goto (-17), 3) := by decide +kernel
theorem d_Rc_forget_43 : decode b_Rc_forget 43 = .ok (.aload_n 0, 1) := by decide +kernel
theorem d_Rc_forget_44 : decode b_Rc_forget 44 = .ok (.iconst 0, 1) := by decide +kernel
theorem d_Rc_forget_45 : decode b_Rc_forget 45 = .ok (.putfield 62, 3) := by decide +kernel
theorem d_Rc_forget_48 : decode b_Rc_forget 48 = .ok (.return_, 1) := by decide +kernel
theorem d_Re_countOf_0 : decode b_Re_countOf 0 = .ok (.aload_n 0, 1) := by decide +kernel
theorem d_Re_countOf_1 : decode b_Re_countOf 1 = .ok (.getfield 30, 3) := by decide +kernel
theorem d_Re_countOf_4 : decode b_Re_countOf 4 = .ok (.iload_n 1, 1) := by decide +kernel
theorem d_Re_countOf_5 : decode b_Re_countOf 5 = .ok (.iconst 1, 1) := by decide +kernel
theorem d_Re_countOf_6 : decode b_Re_countOf 6 = .ok (.iadd, 1) := by decide +kernel
theorem d_Re_countOf_7 : decode b_Re_countOf 7 = .ok (.iaload, 1) := by decide +kernel
theorem d_Re_countOf_8 : decode b_Re_countOf 8 = .ok (.aload_n 0, 1) := by decide +kernel
theorem d_Re_countOf_9 : decode b_Re_countOf 9 = .ok (.getfield 30, 3) := by decide +kernel
theorem d_Re_countOf_12 : decode b_Re_countOf 12 = .ok (.iload_n 1, 1) := by decide +kernel
theorem d_Re_countOf_13 : decode b_Re_countOf 13 = .ok (.iaload, 1) := by decide +kernel
theorem d_Re_countOf_14 : decode b_Re_countOf 14 = .ok (.isub, 1) := by decide +kernel
theorem d_Re_countOf_15 : decode b_Re_countOf 15 = .ok (.ireturn, 1) := by decide +kernel
theorem d_Re_pick_0 : decode b_Re_pick 0 = .ok (.aload_n 0, 1) := by decide +kernel
theorem d_Re_pick_1 : decode b_Re_pick 1 = .ok (.getfield 27, 3) := by decide +kernel
theorem d_Re_pick_4 : decode b_Re_pick 4 = .ok (.aload_n 0, 1) := by decide +kernel
theorem d_Re_pick_5 : decode b_Re_pick 5 = .ok (.getfield 30, 3) := by decide +kernel
theorem d_Re_pick_8 : decode b_Re_pick 8 = .ok (.iload_n 1, 1) := by decide +kernel
theorem d_Re_pick_9 : decode b_Re_pick 9 = .ok (.iaload, 1) := by decide +kernel
theorem d_Re_pick_10 : decode b_Re_pick 10 = .ok (.iload_n 2, 1) := by decide +kernel
theorem d_Re_pick_11 : decode b_Re_pick 11 = .ok (.iadd, 1) := by decide +kernel
theorem d_Re_pick_12 : decode b_Re_pick 12 = .ok (.iaload, 1) := by decide +kernel
theorem d_Re_pick_13 : decode b_Re_pick 13 = .ok (.ireturn, 1) := by decide +kernel
theorem d_Rc_spreadFrom_0 : decode b_Rc_spreadFrom 0 = .ok (.iconst 0, 1) := by decide +kernel
theorem d_Rc_spreadFrom_1 : decode b_Rc_spreadFrom 1 = .ok (.istore_n 2, 1) := by decide +kernel
theorem d_Rc_spreadFrom_2 : decode b_Rc_spreadFrom 2 = .ok (.iload_n 2, 1) := by decide +kernel
theorem d_Rc_spreadFrom_3 : decode b_Rc_spreadFrom 3 = .ok (.aload_n 0, 1) := by decide +kernel
theorem d_Rc_spreadFrom_4 : decode b_Rc_spreadFrom 4 = .ok (.getfield 30, 3) := by decide +kernel
theorem d_Rc_spreadFrom_7 : decode b_Rc_spreadFrom 7 = .ok (.iload_n 1, 1) := by decide +kernel
theorem d_Rc_spreadFrom_8 : decode b_Rc_spreadFrom 8 = .ok (.invokevirtual 68, 3) := by decide +kernel
theorem d_Rc_spreadFrom_11 : decode b_Rc_spreadFrom 11 = .ok (.if_icmp .ge 84, 3) := by decide +kernel
theorem d_Rc_spreadFrom_14 : decode b_Rc_spreadFrom 14 = .ok (.aload_n 0, 1) := by decide +kernel
theorem d_Rc_spreadFrom_15 : decode b_Rc_spreadFrom 15 = .ok (.getfield 30, 3) := by decide +kernel
theorem d_Rc_spreadFrom_18 : decode b_Rc_spreadFrom 18 = .ok (.getfield 74, 3) := by decide +kernel
theorem d_Rc_spreadFrom_21 : decode b_Rc_spreadFrom 21 = .ok (.aload_n 0, 1) := by decide +kernel
theorem d_Rc_spreadFrom_22 : decode b_Rc_spreadFrom 22 = .ok (.getfield 30, 3) := by decide +kernel
theorem d_Rc_spreadFrom_25 : decode b_Rc_spreadFrom 25 = .ok (.iload_n 1, 1) := by decide +kernel
theorem d_Rc_spreadFrom_26 : decode b_Rc_spreadFrom 26 = .ok (.iload_n 2, 1) := by decide +kernel
theorem d_Rc_spreadFrom_27 : decode b_Rc_spreadFrom 27 = .ok (.invokevirtual 77, 3) := by decide +kernel
theorem d_Rc_spreadFrom_30 : decode b_Rc_spreadFrom 30 = .ok (.iaload, 1) := by decide +kernel
theorem d_Rc_spreadFrom_31 : decode b_Rc_spreadFrom 31 = .ok (.istore_n 3, 1) := by decide +kernel
theorem d_Rc_spreadFrom_32 : decode b_Rc_spreadFrom 32 = .ok (.aload_n 0, 1) := by decide +kernel
theorem d_Rc_spreadFrom_33 : decode b_Rc_spreadFrom 33 = .ok (.getfield 34, 3) := by decide +kernel
theorem d_Rc_spreadFrom_36 : decode b_Rc_spreadFrom 36 = .ok (.getfield 81, 3) := by decide +kernel
theorem d_Rc_spreadFrom_39 : decode b_Rc_spreadFrom 39 = .ok (.iload_n 3, 1) := by decide +kernel
theorem d_Rc_spreadFrom_40 : decode b_Rc_spreadFrom 40 = .ok (.iaload, 1) := by decide +kernel
theorem d_Rc_spreadFrom_41 : decode b_Rc_spreadFrom 41 = .ok (.iconst 1, 1) := by decide +kernel
theorem d_Rc_spreadFrom_42 : decode b_Rc_spreadFrom 42 = .ok (.if_icmp .ne 19, 3) := by decide +kernel
theorem d_Rc_spreadFrom_45 : decode b_Rc_spreadFrom 45 = .ok (.aload_n 0, 1) := by decide +kernel
theorem d_Rc_spreadFrom_46 : decode b_Rc_spreadFrom 46 = .ok (.aload_n 0, 1) := by decide +kernel
theorem d_Rc_spreadFrom_47 : decode b_Rc_spreadFrom 47 = .ok (.getfield 34, 3) := by decide +kernel
theorem d_Rc_spreadFrom_50 : decode b_Rc_spreadFrom 50 = .ok (.getfield 86, 3) := by decide +kernel
theorem d_Rc_spreadFrom_53 : decode b_Rc_spreadFrom 53 = .ok (.iload_n 3, 1) := by decide +kernel
theorem d_Rc_spreadFrom_54 : decode b_Rc_spreadFrom 54 = .ok (.iaload, 1) := by decide +kernel
theorem d_Rc_spreadFrom_55 : decode b_Rc_spreadFrom 55 = .ok (.invokevirtual 41, 3) := by decide +kernel
theorem d_Rc_spreadFrom_58 : decode b_Rc_spreadFrom 58 = .ok (.goto 31, 3) := by decide +kernel
theorem d_Rc_spreadFrom_61 : decode b_Rc_spreadFrom 61 = .ok (.aload_n 0, 1) := by decide +kernel
theorem d_Rc_spreadFrom_62 : decode b_Rc_spreadFrom 62 = .ok (.getfield 34, 3) := by decide +kernel
theorem d_Rc_spreadFrom_65 : decode b_Rc_spreadFrom 65 = .ok (.getfield 81, 3) := by decide +kernel
theorem d_Rc_spreadFrom_68 : decode b_Rc_spreadFrom 68 = .ok (.iload_n 3, 1) := by decide +kernel
theorem d_Rc_spreadFrom_69 : decode b_Rc_spreadFrom 69 = .ok (.iaload, 1) := by decide +kernel
theorem d_Rc_spreadFrom_70 : decode b_Rc_spreadFrom 70 = .ok (.iconst 3, 1) := by decide +kernel
theorem d_Rc_spreadFrom_71 : decode b_Rc_spreadFrom 71 = .ok (.if_icmp .ne 18, 3) := by decide +kernel
theorem d_Rc_spreadFrom_74 : decode b_Rc_spreadFrom 74 = .ok (.aload_n 0, 1) := by decide +kernel
theorem d_Rc_spreadFrom_75 : decode b_Rc_spreadFrom 75 = .ok (.getfield 15, 3) := by decide +kernel
theorem d_Rc_spreadFrom_78 : decode b_Rc_spreadFrom 78 = .ok (.aload_n 0, 1) := by decide +kernel
theorem d_Rc_spreadFrom_79 : decode b_Rc_spreadFrom 79 = .ok (.getfield 34, 3) := by decide +kernel
theorem d_Rc_spreadFrom_82 : decode b_Rc_spreadFrom 82 = .ok (.getfield 86, 3) := by decide +kernel
theorem d_Rc_spreadFrom_85 : decode b_Rc_spreadFrom 85 = .ok (.iload_n 3, 1) := by decide +kernel
theorem d_Rc_spreadFrom_86 : decode b_Rc_spreadFrom 86 = .ok (.iaload, 1) := by decide +kernel
theorem d_Rc_spreadFrom_87 : decode b_Rc_spreadFrom 87 = .ok (.iconst 1, 1) := by decide +kernel
theorem d_Rc_spreadFrom_88 : decode b_Rc_spreadFrom 88 = .ok (.bastore, 1) := by decide +kernel
theorem d_Rc_spreadFrom_89 : decode b_Rc_spreadFrom 89 = .ok (.iinc 2 1, 3) := by decide +kernel
theorem d_Rc_spreadFrom_92 : decode b_Rc_spreadFrom 92 = .ok (.goto (-90), 3) := by decide +kernel
theorem d_Rc_spreadFrom_95 : decode b_Rc_spreadFrom 95 = .ok (.return_, 1) := by decide +kernel
