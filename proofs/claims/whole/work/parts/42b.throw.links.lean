theorem fl_Ly_269 : FL R_Ly 269 7 4 := ⟨R_Rc, F_Rc, N_Rc, rfl, by decide, i_Rc, (mw 382 (by decide +kernel))⟩
theorem fl_Ly_272 : FL R_Ly 272 8 4 := ⟨R_Fo, F_Fo, N_Fo, rfl, by decide, i_Fo, (mw 417 (by decide +kernel))⟩
theorem fl_Ly_277 : FL R_Ly 277 6 6 := ⟨R_Na, F_Na, N_Na, rfl, by decide, i_Na, (mw 340 (by decide +kernel))⟩
theorem fl_Ly_280 : FL R_Ly 280 6 7 := ⟨R_Na, F_Na, N_Na, rfl, by decide, i_Na, (mw 345 (by decide +kernel))⟩
theorem ml_Ly_283 : MLb R_Ly 283 y_La_isLaid b_La_isLaid 2 (some .boolean) 1 := ⟨(mw 1472 (by decide +kernel)), (mw 1469 (by decide +kernel)), (mw 92 (by decide +kernel)), by decide +kernel⟩
theorem mv_La_isLaid : MLv y_La_isLaid := ⟨(mw 1470 (by decide +kernel)), (mw 1471 (by decide +kernel))⟩
theorem ml_Ly_286 : MLb R_Ly 286 y_La_addressOf b_La_addressOf 2 (some .int) 1 := ⟨(mw 1358 (by decide +kernel)), (mw 1473 (by decide +kernel)), (mw 92 (by decide +kernel)), by decide +kernel⟩
theorem fl_Ly_289 : FL R_Ly 289 9 9 := ⟨R_La, F_La, N_La, rfl, by decide, i_La, (mw 456 (by decide +kernel))⟩
theorem fl_Ly_292 : FL R_Ly 292 9 4 := ⟨R_La, F_La, N_La, rfl, by decide, i_La, (mw 443 (by decide +kernel))⟩
theorem ml_Ly_300 : MLb R_Ly 300 y_Me_read b_Me_read 3 (some .int) 1 := ⟨(mw 1505 (by decide +kernel)), (mw 1502 (by decide +kernel)), (mw 94 (by decide +kernel)), by decide +kernel⟩
theorem mv_Me_read : MLv y_Me_read := ⟨(mw 1503 (by decide +kernel)), (mw 1504 (by decide +kernel))⟩
theorem tok_Ly_299_295 : TOk R_Ly "java/lang/IndexOutOfBoundsException" 295 299 ["java/lang/RuntimeException", "java/lang/Exception"] := ⟨(mw 1489 (by decide +kernel)), (mw 1490 (by decide +kernel)), (mw 112 (by decide +kernel)), by decide +kernel, by decide +kernel, by decide +kernel⟩
theorem ml_Ly_303 : MLb R_Ly 303 y_Un_countIn b_Un_countIn 3 (some .int) 0 := ⟨(mw 1553 (by decide +kernel)), (mw 1550 (by decide +kernel)), (mw 84 (by decide +kernel)), by decide +kernel⟩
theorem mv_Un_countIn : MLv y_Un_countIn := ⟨(mw 1551 (by decide +kernel)), (mw 1552 (by decide +kernel))⟩
theorem fl_Ly_307 : FL R_Ly 307 7 6 := ⟨R_Rc, F_Rc, N_Rc, rfl, by decide, i_Rc, (mw 386 (by decide +kernel))⟩
theorem ml_Ly_310 : MLb R_Ly 310 y_Fo_countFolded b_Fo_countFolded 3 (some .int) 0 := ⟨(mw 1557 (by decide +kernel)), (mw 1554 (by decide +kernel)), (mw 91 (by decide +kernel)), by decide +kernel⟩
theorem mv_Fo_countFolded : MLv y_Fo_countFolded := ⟨(mw 1555 (by decide +kernel)), (mw 1556 (by decide +kernel))⟩
theorem fl_Ly_313 : FL R_Ly 313 10 5 := ⟨R_Is, F_Is, N_Is, rfl, by decide, i_Is, (mw 490 (by decide +kernel))⟩
theorem fl_Ly_314 : FL R_Ly 314 9 7 := ⟨R_La, F_La, N_La, rfl, by decide, i_La, (mw 450 (by decide +kernel))⟩
theorem fl_Ly_317 : FL R_Ly 317 10 6 := ⟨R_Is, F_Is, N_Is, rfl, by decide, i_Is, (mw 492 (by decide +kernel))⟩
theorem fl_Ly_320 : FL R_Ly 320 9 6 := ⟨R_La, F_La, N_La, rfl, by decide, i_La, (mw 447 (by decide +kernel))⟩
theorem d_Ly_like_0 : decode b_Ly_like 0 = .ok (.aload_n 0, 1) := by decide +kernel
theorem d_Ly_like_1 : decode b_Ly_like 1 = .ok (.invokevirtual 254, 3) := by decide +kernel
theorem d_Ly_like_4 : decode b_Ly_like 4 = .ok (.aload_n 0, 1) := by decide +kernel
theorem d_Ly_like_5 : decode b_Ly_like 5 = .ok (.iload_n 1, 1) := by decide +kernel
theorem d_Ly_like_6 : decode b_Ly_like 6 = .ok (.invokevirtual 262, 3) := by decide +kernel
theorem d_Ly_like_9 : decode b_Ly_like 9 = .ok (.aload_n 0, 1) := by decide +kernel
theorem d_Ly_like_10 : decode b_Ly_like 10 = .ok (.getfield 58, 3) := by decide +kernel
theorem d_Ly_like_13 : decode b_Ly_like 13 = .ok (.getfield 269, 3) := by decide +kernel
theorem d_Ly_like_16 : decode b_Ly_like 16 = .ok (.iload_n 1, 1) := by decide +kernel
theorem d_Ly_like_17 : decode b_Ly_like 17 = .ok (.baload, 1) := by decide +kernel
theorem d_Ly_like_18 : decode b_Ly_like 18 = .ok (.ifCond .eq 15, 3) := by decide +kernel
theorem d_Ly_like_21 : decode b_Ly_like 21 = .ok (.aload_n 0, 1) := by decide +kernel
theorem d_Ly_like_22 : decode b_Ly_like 22 = .ok (.getfield 67, 3) := by decide +kernel
theorem d_Ly_like_25 : decode b_Ly_like 25 = .ok (.getfield 272, 3) := by decide +kernel
theorem d_Ly_like_28 : decode b_Ly_like 28 = .ok (.iload_n 1, 1) := by decide +kernel
theorem d_Ly_like_29 : decode b_Ly_like 29 = .ok (.iaload, 1) := by decide +kernel
theorem d_Ly_like_30 : decode b_Ly_like 30 = .ok (.goto 4, 3) := by decide +kernel
theorem d_Ly_like_33 : decode b_Ly_like 33 = .ok (.iconst (-1), 1) := by decide +kernel
theorem d_Ly_like_34 : decode b_Ly_like 34 = .ok (.ireturn, 1) := by decide +kernel
theorem d_Ly_means_0 : decode b_Ly_means 0 = .ok (.aload_n 0, 1) := by decide +kernel
theorem d_Ly_means_1 : decode b_Ly_means 1 = .ok (.invokevirtual 254, 3) := by decide +kernel
theorem d_Ly_means_4 : decode b_Ly_means 4 = .ok (.aload_n 0, 1) := by decide +kernel
theorem d_Ly_means_5 : decode b_Ly_means 5 = .ok (.getfield 26, 3) := by decide +kernel
theorem d_Ly_means_8 : decode b_Ly_means 8 = .ok (.iload_n 1, 1) := by decide +kernel
theorem d_Ly_means_9 : decode b_Ly_means 9 = .ok (.invokevirtual 205, 3) := by decide +kernel
theorem d_Ly_means_12 : decode b_Ly_means 12 = .ok (.ifCond .ne 14, 3) := by decide +kernel
theorem d_Ly_means_15 : decode b_Ly_means 15 = .ok (.new 108, 3) := by decide +kernel
theorem d_Ly_means_18 : decode b_Ly_means 18 = .ok (.dup, 1) := by decide +kernel
theorem d_Ly_means_19 : decode b_Ly_means 19 = .ok (.ldc_w 275, 3) := by decide +kernel
theorem d_Ly_means_22 : decode b_Ly_means 22 = .ok (.invokespecial 112, 3) := by decide +kernel
theorem d_Ly_means_25 : decode b_Ly_means 25 = .ok (.athrow, 1) := by decide +kernel
theorem d_Ly_means_26 : decode b_Ly_means 26 = .ok (.iload_n 2, 1) := by decide +kernel
theorem d_Ly_means_27 : decode b_Ly_means 27 = .ok (.tableswitch 86 0 2 #[25, 35, 62], 25) := by decide +kernel
theorem d_Ly_means_52 : decode b_Ly_means 52 = .ok (.aload_n 0, 1) := by decide +kernel
theorem d_Ly_means_53 : decode b_Ly_means 53 = .ok (.getfield 49, 3) := by decide +kernel
theorem d_Ly_means_56 : decode b_Ly_means 56 = .ok (.getfield 277, 3) := by decide +kernel
theorem d_Ly_means_59 : decode b_Ly_means 59 = .ok (.iload_n 1, 1) := by decide +kernel
theorem d_Ly_means_60 : decode b_Ly_means 60 = .ok (.iaload, 1) := by decide +kernel
theorem d_Ly_means_61 : decode b_Ly_means 61 = .ok (.ireturn, 1) := by decide +kernel
theorem d_Ly_means_62 : decode b_Ly_means 62 = .ok (.aload_n 0, 1) := by decide +kernel
theorem d_Ly_means_63 : decode b_Ly_means 63 = .ok (.getfield 49, 3) := by decide +kernel
theorem d_Ly_means_66 : decode b_Ly_means 66 = .ok (.getfield 277, 3) := by decide +kernel
theorem d_Ly_means_69 : decode b_Ly_means 69 = .ok (.iload_n 1, 1) := by decide +kernel
theorem d_Ly_means_70 : decode b_Ly_means 70 = .ok (.iaload, 1) := by decide +kernel
theorem d_Ly_means_71 : decode b_Ly_means 71 = .ok (.iconst 1, 1) := by decide +kernel
theorem d_Ly_means_72 : decode b_Ly_means 72 = .ok (.if_icmp .ne 15, 3) := by decide +kernel
theorem d_Ly_means_75 : decode b_Ly_means 75 = .ok (.aload_n 0, 1) := by decide +kernel
theorem d_Ly_means_76 : decode b_Ly_means 76 = .ok (.getfield 49, 3) := by decide +kernel
theorem d_Ly_means_79 : decode b_Ly_means 79 = .ok (.getfield 280, 3) := by decide +kernel
theorem d_Ly_means_82 : decode b_Ly_means 82 = .ok (.iload_n 1, 1) := by decide +kernel
theorem d_Ly_means_83 : decode b_Ly_means 83 = .ok (.iaload, 1) := by decide +kernel
theorem d_Ly_means_84 : decode b_Ly_means 84 = .ok (.goto 4, 3) := by decide +kernel
theorem d_Ly_means_87 : decode b_Ly_means 87 = .ok (.iconst (-1), 1) := by decide +kernel
theorem d_Ly_means_88 : decode b_Ly_means 88 = .ok (.ireturn, 1) := by decide +kernel
theorem d_Ly_means_89 : decode b_Ly_means 89 = .ok (.aload_n 0, 1) := by decide +kernel
theorem d_Ly_means_90 : decode b_Ly_means 90 = .ok (.getfield 76, 3) := by decide +kernel
theorem d_Ly_means_93 : decode b_Ly_means 93 = .ok (.iload_n 1, 1) := by decide +kernel
theorem d_Ly_means_94 : decode b_Ly_means 94 = .ok (.invokevirtual 283, 3) := by decide +kernel
theorem d_Ly_means_97 : decode b_Ly_means 97 = .ok (.ifCond .eq 14, 3) := by decide +kernel
theorem d_Ly_means_100 : decode b_Ly_means 100 = .ok (.aload_n 0, 1) := by decide +kernel
theorem d_Ly_means_101 : decode b_Ly_means 101 = .ok (.getfield 76, 3) := by decide +kernel
theorem d_Ly_means_104 : decode b_Ly_means 104 = .ok (.iload_n 1, 1) := by decide +kernel
theorem d_Ly_means_105 : decode b_Ly_means 105 = .ok (.invokevirtual 286, 3) := by decide +kernel
theorem d_Ly_means_108 : decode b_Ly_means 108 = .ok (.goto 4, 3) := by decide +kernel
theorem d_Ly_means_111 : decode b_Ly_means 111 = .ok (.iconst 0, 1) := by decide +kernel
theorem d_Ly_means_112 : decode b_Ly_means 112 = .ok (.ireturn, 1) := by decide +kernel
theorem d_Ly_means_113 : decode b_Ly_means 113 = .ok (.new 108, 3) := by decide +kernel
theorem d_Ly_means_116 : decode b_Ly_means 116 = .ok (.dup, 1) := by decide +kernel
theorem d_Ly_means_117 : decode b_Ly_means 117 = .ok (.ldc 252, 2) := by decide +kernel
theorem d_Ly_means_119 : decode b_Ly_means 119 = .ok (.invokespecial 112, 3) := by decide +kernel
theorem d_Ly_means_122 : decode b_Ly_means 122 = .ok (.athrow, 1) := by decide +kernel
theorem d_Ly_common_0 : decode b_Ly_common 0 = .ok (.aload_n 0, 1) := by decide +kernel
theorem d_Ly_common_1 : decode b_Ly_common 1 = .ok (.invokevirtual 254, 3) := by decide +kernel
theorem d_Ly_common_4 : decode b_Ly_common 4 = .ok (.iload_n 1, 1) := by decide +kernel
theorem d_Ly_common_5 : decode b_Ly_common 5 = .ok (.invokestatic 171, 3) := by decide +kernel
theorem d_Ly_common_8 : decode b_Ly_common 8 = .ok (.ifCond .ne 13, 3) := by decide +kernel
theorem d_Ly_common_11 : decode b_Ly_common 11 = .ok (.new 108, 3) := by decide +kernel
theorem d_Ly_common_14 : decode b_Ly_common 14 = .ok (.dup, 1) := by decide +kernel
theorem d_Ly_common_15 : decode b_Ly_common 15 = .ok (.ldc 215, 2) := by decide +kernel
theorem d_Ly_common_17 : decode b_Ly_common 17 = .ok (.invokespecial 112, 3) := by decide +kernel
theorem d_Ly_common_20 : decode b_Ly_common 20 = .ok (.athrow, 1) := by decide +kernel
theorem d_Ly_common_21 : decode b_Ly_common 21 = .ok (.aload_n 0, 1) := by decide +kernel
theorem d_Ly_common_22 : decode b_Ly_common 22 = .ok (.getfield 76, 3) := by decide +kernel
theorem d_Ly_common_25 : decode b_Ly_common 25 = .ok (.getfield 289, 3) := by decide +kernel
theorem d_Ly_common_28 : decode b_Ly_common 28 = .ok (.iload_n 1, 1) := by decide +kernel
theorem d_Ly_common_29 : decode b_Ly_common 29 = .ok (.iaload, 1) := by decide +kernel
theorem d_Ly_common_30 : decode b_Ly_common 30 = .ok (.ireturn, 1) := by decide +kernel
theorem d_Ly_at_0 : decode b_Ly_at 0 = .ok (.aload_n 0, 1) := by decide +kernel
theorem d_Ly_at_1 : decode b_Ly_at 1 = .ok (.invokevirtual 254, 3) := by decide +kernel
theorem d_Ly_at_4 : decode b_Ly_at 4 = .ok (.iload_n 1, 1) := by decide +kernel
theorem d_Ly_at_5 : decode b_Ly_at 5 = .ok (.iconst 4, 1) := by decide +kernel
theorem d_Ly_at_6 : decode b_Ly_at 6 = .ok (.irem, 1) := by decide +kernel
theorem d_Ly_at_7 : decode b_Ly_at 7 = .ok (.ifCond .ne 25, 3) := by decide +kernel
theorem d_Ly_at_10 : decode b_Ly_at 10 = .ok (.iload_n 1, 1) := by decide +kernel
theorem d_Ly_at_11 : decode b_Ly_at 11 = .ok (.aload_n 0, 1) := by decide +kernel
theorem d_Ly_at_12 : decode b_Ly_at 12 = .ok (.getfield 76, 3) := by decide +kernel
theorem d_Ly_at_15 : decode b_Ly_at 15 = .ok (.getfield 292, 3) := by decide +kernel
theorem d_Ly_at_18 : decode b_Ly_at 18 = .ok (.if_icmp .lt 14, 3) := by decide +kernel
theorem d_Ly_at_21 : decode b_Ly_at 21 = .ok (.iload_n 1, 1) := by decide +kernel
theorem d_Ly_at_22 : decode b_Ly_at 22 = .ok (.aload_n 0, 1) := by decide +kernel
theorem d_Ly_at_23 : decode b_Ly_at 23 = .ok (.getfield 76, 3) := by decide +kernel
theorem d_Ly_at_26 : decode b_Ly_at 26 = .ok (.getfield 246, 3) := by decide +kernel
theorem d_Ly_at_29 : decode b_Ly_at 29 = .ok (.if_icmp .lt 14, 3) := by decide +kernel
theorem d_Ly_at_32 : decode b_Ly_at 32 = .ok (.new 295, 3) := by decide +kernel
theorem d_Ly_at_35 : decode b_Ly_at 35 = .ok (.dup, 1) := by decide +kernel
theorem d_Ly_at_36 : decode b_Ly_at 36 = .ok (.ldc_w 297, 3) := by decide +kernel
theorem d_Ly_at_39 : decode b_Ly_at 39 = .ok (.invokespecial 299, 3) := by decide +kernel
theorem d_Ly_at_42 : decode b_Ly_at 42 = .ok (.athrow, 1) := by decide +kernel
theorem d_Ly_at_43 : decode b_Ly_at 43 = .ok (.aload_n 0, 1) := by decide +kernel
theorem d_Ly_at_44 : decode b_Ly_at 44 = .ok (.getfield 94, 3) := by decide +kernel
theorem d_Ly_at_47 : decode b_Ly_at 47 = .ok (.iload_n 1, 1) := by decide +kernel
theorem d_Ly_at_48 : decode b_Ly_at 48 = .ok (.invokevirtual 300, 3) := by decide +kernel
theorem d_Ly_at_51 : decode b_Ly_at 51 = .ok (.ireturn, 1) := by decide +kernel
theorem d_Ly_about_0 : decode b_Ly_about 0 = .ok (.aload_n 0, 1) := by decide +kernel
theorem d_Ly_about_1 : decode b_Ly_about 1 = .ok (.invokevirtual 254, 3) := by decide +kernel
theorem d_Ly_about_4 : decode b_Ly_about 4 = .ok (.iload_n 1, 1) := by decide +kernel
theorem d_Ly_about_5 : decode b_Ly_about 5 = .ok (.tableswitch 125 0 7 #[47, 55, 63, 71, 79, 101, 109, 117], 47) := by decide +kernel
theorem d_Ly_about_52 : decode b_Ly_about 52 = .ok (.aload_n 0, 1) := by decide +kernel
theorem d_Ly_about_53 : decode b_Ly_about 53 = .ok (.getfield 10, 3) := by decide +kernel
theorem d_Ly_about_56 : decode b_Ly_about 56 = .ok (.invokevirtual 303, 3) := by decide +kernel
theorem d_Ly_about_59 : decode b_Ly_about 59 = .ok (.ireturn, 1) := by decide +kernel
theorem d_Ly_about_60 : decode b_Ly_about 60 = .ok (.aload_n 0, 1) := by decide +kernel
theorem d_Ly_about_61 : decode b_Ly_about 61 = .ok (.getfield 58, 3) := by decide +kernel
theorem d_Ly_about_64 : decode b_Ly_about 64 = .ok (.getfield 307, 3) := by decide +kernel
theorem d_Ly_about_67 : decode b_Ly_about 67 = .ok (.ireturn, 1) := by decide +kernel
theorem d_Ly_about_68 : decode b_Ly_about 68 = .ok (.aload_n 0, 1) := by decide +kernel
theorem d_Ly_about_69 : decode b_Ly_about 69 = .ok (.getfield 67, 3) := by decide +kernel
theorem d_Ly_about_72 : decode b_Ly_about 72 = .ok (.invokevirtual 310, 3) := by decide +kernel
theorem d_Ly_about_75 : decode b_Ly_about 75 = .ok (.ireturn, 1) := by decide +kernel
theorem d_Ly_about_76 : decode b_Ly_about 76 = .ok (.aload_n 0, 1) := by decide +kernel
theorem d_Ly_about_77 : decode b_Ly_about 77 = .ok (.getfield 85, 3) := by decide +kernel
theorem d_Ly_about_80 : decode b_Ly_about 80 = .ok (.getfield 313, 3) := by decide +kernel
theorem d_Ly_about_83 : decode b_Ly_about 83 = .ok (.ireturn, 1) := by decide +kernel
theorem d_Ly_about_84 : decode b_Ly_about 84 = .ok (.aload_n 0, 1) := by decide +kernel
theorem d_Ly_about_85 : decode b_Ly_about 85 = .ok (.getfield 85, 3) := by decide +kernel
theorem d_Ly_about_88 : decode b_Ly_about 88 = .ok (.getfield 313, 3) := by decide +kernel
theorem d_Ly_about_91 : decode b_Ly_about 91 = .ok (.ifCond .le 13, 3) := by decide +kernel
theorem d_Ly_about_94 : decode b_Ly_about 94 = .ok (.aload_n 0, 1) := by decide +kernel
theorem d_Ly_about_95 : decode b_Ly_about 95 = .ok (.getfield 76, 3) := by decide +kernel
theorem d_Ly_about_98 : decode b_Ly_about 98 = .ok (.getfield 314, 3) := by decide +kernel
theorem d_Ly_about_101 : decode b_Ly_about 101 = .ok (.goto 4, 3) := by decide +kernel
theorem d_Ly_about_104 : decode b_Ly_about 104 = .ok (.iconst (-1), 1) := by decide +kernel
theorem d_Ly_about_105 : decode b_Ly_about 105 = .ok (.ireturn, 1) := by decide +kernel
theorem d_Ly_about_106 : decode b_Ly_about 106 = .ok (.aload_n 0, 1) := by decide +kernel
theorem d_Ly_about_107 : decode b_Ly_about 107 = .ok (.getfield 85, 3) := by decide +kernel
theorem d_Ly_about_110 : decode b_Ly_about 110 = .ok (.getfield 317, 3) := by decide +kernel
theorem d_Ly_about_113 : decode b_Ly_about 113 = .ok (.ireturn, 1) := by decide +kernel
theorem d_Ly_about_114 : decode b_Ly_about 114 = .ok (.aload_n 0, 1) := by decide +kernel
theorem d_Ly_about_115 : decode b_Ly_about 115 = .ok (.getfield 76, 3) := by decide +kernel
theorem d_Ly_about_118 : decode b_Ly_about 118 = .ok (.getfield 246, 3) := by decide +kernel
theorem d_Ly_about_121 : decode b_Ly_about 121 = .ok (.ireturn, 1) := by decide +kernel
theorem d_Ly_about_122 : decode b_Ly_about 122 = .ok (.aload_n 0, 1) := by decide +kernel
theorem d_Ly_about_123 : decode b_Ly_about 123 = .ok (.getfield 76, 3) := by decide +kernel
theorem d_Ly_about_126 : decode b_Ly_about 126 = .ok (.getfield 320, 3) := by decide +kernel
theorem d_Ly_about_129 : decode b_Ly_about 129 = .ok (.ireturn, 1) := by decide +kernel
theorem d_Ly_about_130 : decode b_Ly_about 130 = .ok (.new 108, 3) := by decide +kernel
theorem d_Ly_about_133 : decode b_Ly_about 133 = .ok (.dup, 1) := by decide +kernel
theorem d_Ly_about_134 : decode b_Ly_about 134 = .ok (.ldc 252, 2) := by decide +kernel
theorem d_Ly_about_136 : decode b_Ly_about 136 = .ok (.invokespecial 112, 3) := by decide +kernel
theorem d_Ly_about_139 : decode b_Ly_about 139 = .ok (.athrow, 1) := by decide +kernel
