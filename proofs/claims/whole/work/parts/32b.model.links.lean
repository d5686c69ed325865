theorem ml_Mo_176 : MLb R_Mo 176 y_Mo_isGiven b_Mo_isGiven 4 (some .boolean) 1 := ⟨(mw 1812 (by decide +kernel)), (mw 1809 (by decide +kernel)), (mw 95 (by decide +kernel)), by decide +kernel⟩
theorem mv_Mo_isGiven : MLv y_Mo_isGiven := ⟨(mw 1811 (by decide +kernel)), (mw 53 (by decide +kernel))⟩
theorem ml_Mo_179 : MLb R_Mo 179 y_Mo_isNeeded b_Mo_isNeeded 4 (some .boolean) 1 := ⟨(mw 1808 (by decide +kernel)), (mw 1805 (by decide +kernel)), (mw 95 (by decide +kernel)), by decide +kernel⟩
theorem mv_Mo_isNeeded : MLv y_Mo_isNeeded := ⟨(mw 1807 (by decide +kernel)), (mw 52 (by decide +kernel))⟩
theorem ml_Mo_182 : MLb R_Mo 182 y_Mo_helps b_Mo_helps 5 (some .boolean) 1 := ⟨(mw 1804 (by decide +kernel)), (mw 1801 (by decide +kernel)), (mw 95 (by decide +kernel)), by decide +kernel⟩
theorem mv_Mo_helps : MLv y_Mo_helps := ⟨(mw 1803 (by decide +kernel)), (mw 51 (by decide +kernel))⟩
theorem ml_Mo_185 : MLb R_Mo 185 y_Mo_bring b_Mo_bring 6 (some .boolean) 1 := ⟨(mw 1800 (by decide +kernel)), (mw 1797 (by decide +kernel)), (mw 95 (by decide +kernel)), by decide +kernel⟩
theorem mv_Mo_bring : MLv y_Mo_bring := ⟨(mw 1799 (by decide +kernel)), (mw 50 (by decide +kernel))⟩
theorem d_Mo_isNeeded_0 : decode b_Mo_isNeeded 0 = .ok (.iload_n 1, 1) := by decide +kernel
theorem d_Mo_isNeeded_1 : decode b_Mo_isNeeded 1 = .ok (.aload_n 0, 1) := by decide +kernel
theorem d_Mo_isNeeded_2 : decode b_Mo_isNeeded 2 = .ok (.getfield 69, 3) := by decide +kernel
theorem d_Mo_isNeeded_5 : decode b_Mo_isNeeded 5 = .ok (.if_icmp .ne 7, 3) := by decide +kernel
theorem d_Mo_isNeeded_8 : decode b_Mo_isNeeded 8 = .ok (.iconst 1, 1) := by decide +kernel
theorem d_Mo_isNeeded_9 : decode b_Mo_isNeeded 9 = .ok (.goto 4, 3) := by decide +kernel
theorem d_Mo_isNeeded_12 : decode b_Mo_isNeeded 12 = .ok (.iconst 0, 1) := by decide +kernel
theorem d_Mo_isNeeded_13 : decode b_Mo_isNeeded 13 = .ok (.istore_n 2, 1) := by decide +kernel
theorem d_Mo_isNeeded_14 : decode b_Mo_isNeeded 14 = .ok (.iconst 0, 1) := by decide +kernel
theorem d_Mo_isNeeded_15 : decode b_Mo_isNeeded 15 = .ok (.istore_n 3, 1) := by decide +kernel
theorem d_Mo_isNeeded_16 : decode b_Mo_isNeeded 16 = .ok (.iload_n 3, 1) := by decide +kernel
theorem d_Mo_isNeeded_17 : decode b_Mo_isNeeded 17 = .ok (.aload_n 0, 1) := by decide +kernel
theorem d_Mo_isNeeded_18 : decode b_Mo_isNeeded 18 = .ok (.getfield 157, 3) := by decide +kernel
theorem d_Mo_isNeeded_21 : decode b_Mo_isNeeded 21 = .ok (.if_icmp .ge 63, 3) := by decide +kernel
theorem d_Mo_isNeeded_24 : decode b_Mo_isNeeded 24 = .ok (.iload_n 2, 1) := by decide +kernel
theorem d_Mo_isNeeded_25 : decode b_Mo_isNeeded 25 = .ok (.ifCond .ne 47, 3) := by decide +kernel
theorem d_Mo_isNeeded_28 : decode b_Mo_isNeeded 28 = .ok (.aload_n 0, 1) := by decide +kernel
theorem d_Mo_isNeeded_29 : decode b_Mo_isNeeded 29 = .ok (.getfield 79, 3) := by decide +kernel
theorem d_Mo_isNeeded_32 : decode b_Mo_isNeeded 32 = .ok (.aload_n 0, 1) := by decide +kernel
theorem d_Mo_isNeeded_33 : decode b_Mo_isNeeded 33 = .ok (.getfield 36, 3) := by decide +kernel
theorem d_Mo_isNeeded_36 : decode b_Mo_isNeeded 36 = .ok (.iload_n 3, 1) := by decide +kernel
theorem d_Mo_isNeeded_37 : decode b_Mo_isNeeded 37 = .ok (.iaload, 1) := by decide +kernel
theorem d_Mo_isNeeded_38 : decode b_Mo_isNeeded 38 = .ok (.baload, 1) := by decide +kernel
theorem d_Mo_isNeeded_39 : decode b_Mo_isNeeded 39 = .ok (.ifCond .eq 37, 3) := by decide +kernel
theorem d_Mo_isNeeded_42 : decode b_Mo_isNeeded 42 = .ok (.aload_n 0, 1) := by decide +kernel
theorem d_Mo_isNeeded_43 : decode b_Mo_isNeeded 43 = .ok (.getfield 48, 3) := by decide +kernel
theorem d_Mo_isNeeded_46 : decode b_Mo_isNeeded 46 = .ok (.iload_n 3, 1) := by decide +kernel
theorem d_Mo_isNeeded_47 : decode b_Mo_isNeeded 47 = .ok (.iaload, 1) := by decide +kernel
theorem d_Mo_isNeeded_48 : decode b_Mo_isNeeded 48 = .ok (.iload_n 1, 1) := by decide +kernel
theorem d_Mo_isNeeded_49 : decode b_Mo_isNeeded 49 = .ok (.if_icmp .ne 27, 3) := by decide +kernel
theorem d_Mo_isNeeded_52 : decode b_Mo_isNeeded 52 = .ok (.aload_n 0, 1) := by decide +kernel
theorem d_Mo_isNeeded_53 : decode b_Mo_isNeeded 53 = .ok (.getfield 39, 3) := by decide +kernel
theorem d_Mo_isNeeded_56 : decode b_Mo_isNeeded 56 = .ok (.iload_n 3, 1) := by decide +kernel
theorem d_Mo_isNeeded_57 : decode b_Mo_isNeeded 57 = .ok (.iaload, 1) := by decide +kernel
theorem d_Mo_isNeeded_58 : decode b_Mo_isNeeded 58 = .ok (.iconst 1, 1) := by decide +kernel
theorem d_Mo_isNeeded_59 : decode b_Mo_isNeeded 59 = .ok (.if_icmp .ne 17, 3) := by decide +kernel
theorem d_Mo_isNeeded_62 : decode b_Mo_isNeeded 62 = .ok (.aload_n 0, 1) := by decide +kernel
theorem d_Mo_isNeeded_63 : decode b_Mo_isNeeded 63 = .ok (.getfield 51, 3) := by decide +kernel
theorem d_Mo_isNeeded_66 : decode b_Mo_isNeeded 66 = .ok (.iload_n 3, 1) := by decide +kernel
theorem d_Mo_isNeeded_67 : decode b_Mo_isNeeded 67 = .ok (.iaload, 1) := by decide +kernel
theorem d_Mo_isNeeded_68 : decode b_Mo_isNeeded 68 = .ok (.iconst 1, 1) := by decide +kernel
theorem d_Mo_isNeeded_69 : decode b_Mo_isNeeded 69 = .ok (.if_icmp .ne 7, 3) := by decide +kernel
theorem d_Mo_isNeeded_72 : decode b_Mo_isNeeded 72 = .ok (.iconst 1, 1) := by decide +kernel
theorem d_Mo_isNeeded_73 : decode b_Mo_isNeeded 73 = .ok (.goto 4, 3) := by decide +kernel
theorem d_Mo_isNeeded_76 : decode b_Mo_isNeeded 76 = .ok (.iconst 0, 1) := by decide +kernel
theorem d_Mo_isNeeded_77 : decode b_Mo_isNeeded 77 = .ok (.istore_n 2, 1) := by decide +kernel
theorem d_Mo_isNeeded_78 : decode b_Mo_isNeeded 78 = .ok (.iinc 3 1, 3) := by decide +kernel
theorem d_Mo_isNeeded_81 : decode b_Mo_isNeeded 81 = .ok (.goto (-65), 3) := by decide +kernel
theorem d_Mo_isNeeded_84 : decode b_Mo_isNeeded 84 = .ok (.iload_n 2, 1) := by decide +kernel
theorem d_Mo_isNeeded_85 : decode b_Mo_isNeeded 85 = .ok (.ifCond .eq 15, 3) := by decide +kernel
theorem d_Mo_isNeeded_88 : decode b_Mo_isNeeded 88 = .ok (.aload_n 0, 1) := by decide +kernel
theorem d_Mo_isNeeded_89 : decode b_Mo_isNeeded 89 = .ok (.iload_n 1, 1) := by decide +kernel
theorem d_Mo_isNeeded_90 : decode b_Mo_isNeeded 90 = .ok (.invokevirtual 176, 3) := by decide +kernel
theorem d_Mo_isNeeded_93 : decode b_Mo_isNeeded 93 = .ok (.ifCond .ne 7, 3) := by decide +kernel
theorem d_Mo_isNeeded_96 : decode b_Mo_isNeeded 96 = .ok (.iconst 1, 1) := by decide +kernel
theorem d_Mo_isNeeded_97 : decode b_Mo_isNeeded 97 = .ok (.goto 4, 3) := by decide +kernel
theorem d_Mo_isNeeded_100 : decode b_Mo_isNeeded 100 = .ok (.iconst 0, 1) := by decide +kernel
theorem d_Mo_isNeeded_101 : decode b_Mo_isNeeded 101 = .ok (.ireturn, 1) := by decide +kernel
theorem d_Mo_helps_0 : decode b_Mo_helps 0 = .ok (.iconst 0, 1) := by decide +kernel
theorem d_Mo_helps_1 : decode b_Mo_helps 1 = .ok (.istore_n 2, 1) := by decide +kernel
theorem d_Mo_helps_2 : decode b_Mo_helps 2 = .ok (.iconst 0, 1) := by decide +kernel
theorem d_Mo_helps_3 : decode b_Mo_helps 3 = .ok (.istore_n 3, 1) := by decide +kernel
theorem d_Mo_helps_4 : decode b_Mo_helps 4 = .ok (.iload_n 3, 1) := by decide +kernel
theorem d_Mo_helps_5 : decode b_Mo_helps 5 = .ok (.aload_n 0, 1) := by decide +kernel
theorem d_Mo_helps_6 : decode b_Mo_helps 6 = .ok (.getfield 157, 3) := by decide +kernel
theorem d_Mo_helps_9 : decode b_Mo_helps 9 = .ok (.if_icmp .ge 84, 3) := by decide +kernel
theorem d_Mo_helps_12 : decode b_Mo_helps 12 = .ok (.iload_n 2, 1) := by decide +kernel
theorem d_Mo_helps_13 : decode b_Mo_helps 13 = .ok (.ifCond .ne 80, 3) := by decide +kernel
theorem d_Mo_helps_16 : decode b_Mo_helps 16 = .ok (.aload_n 0, 1) := by decide +kernel
theorem d_Mo_helps_17 : decode b_Mo_helps 17 = .ok (.getfield 36, 3) := by decide +kernel
theorem d_Mo_helps_20 : decode b_Mo_helps 20 = .ok (.iload_n 3, 1) := by decide +kernel
theorem d_Mo_helps_21 : decode b_Mo_helps 21 = .ok (.iaload, 1) := by decide +kernel
theorem d_Mo_helps_22 : decode b_Mo_helps 22 = .ok (.iload_n 1, 1) := by decide +kernel
theorem d_Mo_helps_23 : decode b_Mo_helps 23 = .ok (.if_icmp .ne 37, 3) := by decide +kernel
theorem d_Mo_helps_26 : decode b_Mo_helps 26 = .ok (.aload_n 0, 1) := by decide +kernel
theorem d_Mo_helps_27 : decode b_Mo_helps 27 = .ok (.getfield 39, 3) := by decide +kernel
theorem d_Mo_helps_30 : decode b_Mo_helps 30 = .ok (.iload_n 3, 1) := by decide +kernel
theorem d_Mo_helps_31 : decode b_Mo_helps 31 = .ok (.iaload, 1) := by decide +kernel
theorem d_Mo_helps_32 : decode b_Mo_helps 32 = .ok (.iconst 1, 1) := by decide +kernel
theorem d_Mo_helps_33 : decode b_Mo_helps 33 = .ok (.if_icmp .eq 27, 3) := by decide +kernel
theorem d_Mo_helps_36 : decode b_Mo_helps 36 = .ok (.aload_n 0, 1) := by decide +kernel
theorem d_Mo_helps_37 : decode b_Mo_helps 37 = .ok (.getfield 51, 3) := by decide +kernel
theorem d_Mo_helps_40 : decode b_Mo_helps 40 = .ok (.iload_n 3, 1) := by decide +kernel
theorem d_Mo_helps_41 : decode b_Mo_helps 41 = .ok (.iaload, 1) := by decide +kernel
theorem d_Mo_helps_42 : decode b_Mo_helps 42 = .ok (.iconst 1, 1) := by decide +kernel
theorem d_Mo_helps_43 : decode b_Mo_helps 43 = .ok (.if_icmp .eq 13, 3) := by decide +kernel
theorem d_Mo_helps_46 : decode b_Mo_helps 46 = .ok (.aload_n 0, 1) := by decide +kernel
theorem d_Mo_helps_47 : decode b_Mo_helps 47 = .ok (.getfield 51, 3) := by decide +kernel
theorem d_Mo_helps_50 : decode b_Mo_helps 50 = .ok (.iload_n 3, 1) := by decide +kernel
theorem d_Mo_helps_51 : decode b_Mo_helps 51 = .ok (.iaload, 1) := by decide +kernel
theorem d_Mo_helps_52 : decode b_Mo_helps 52 = .ok (.iconst 3, 1) := by decide +kernel
theorem d_Mo_helps_53 : decode b_Mo_helps 53 = .ok (.if_icmp .ne 7, 3) := by decide +kernel
theorem d_Mo_helps_56 : decode b_Mo_helps 56 = .ok (.iconst 1, 1) := by decide +kernel
theorem d_Mo_helps_57 : decode b_Mo_helps 57 = .ok (.goto 4, 3) := by decide +kernel
theorem d_Mo_helps_60 : decode b_Mo_helps 60 = .ok (.iconst 0, 1) := by decide +kernel
theorem d_Mo_helps_61 : decode b_Mo_helps 61 = .ok (.istore 4, 2) := by decide +kernel
theorem d_Mo_helps_63 : decode b_Mo_helps 63 = .ok (.iload 4, 2) := by decide +kernel
theorem d_Mo_helps_65 : decode b_Mo_helps 65 = .ok (.ifCond .eq 20, 3) := by decide +kernel
theorem d_Mo_helps_68 : decode b_Mo_helps 68 = .ok (.aload_n 0, 1) := by decide +kernel
theorem d_Mo_helps_69 : decode b_Mo_helps 69 = .ok (.aload_n 0, 1) := by decide +kernel
theorem d_Mo_helps_70 : decode b_Mo_helps 70 = .ok (.getfield 48, 3) := by decide +kernel
theorem d_Mo_helps_73 : decode b_Mo_helps 73 = .ok (.iload_n 3, 1) := by decide +kernel
theorem d_Mo_helps_74 : decode b_Mo_helps 74 = .ok (.iaload, 1) := by decide +kernel
theorem d_Mo_helps_75 : decode b_Mo_helps 75 = .ok (.invokevirtual 179, 3) := by decide +kernel
theorem d_Mo_helps_78 : decode b_Mo_helps 78 = .ok (.ifCond .eq 7, 3) := by decide +kernel
theorem d_Mo_helps_81 : decode b_Mo_helps 81 = .ok (.iconst 1, 1) := by decide +kernel
theorem d_Mo_helps_82 : decode b_Mo_helps 82 = .ok (.goto 4, 3) := by decide +kernel
theorem d_Mo_helps_85 : decode b_Mo_helps 85 = .ok (.iconst 0, 1) := by decide +kernel
theorem d_Mo_helps_86 : decode b_Mo_helps 86 = .ok (.istore_n 2, 1) := by decide +kernel
theorem d_Mo_helps_87 : decode b_Mo_helps 87 = .ok (.iinc 3 1, 3) := by decide +kernel
theorem d_Mo_helps_90 : decode b_Mo_helps 90 = .ok (.goto (-86), 3) := by decide +kernel
theorem d_Mo_helps_93 : decode b_Mo_helps 93 = .ok (.iload_n 2, 1) := by decide +kernel
theorem d_Mo_helps_94 : decode b_Mo_helps 94 = .ok (.ireturn, 1) := by decide +kernel
theorem d_Mo_bring_0 : decode b_Mo_bring 0 = .ok (.iconst 0, 1) := by decide +kernel
theorem d_Mo_bring_1 : decode b_Mo_bring 1 = .ok (.istore_n 2, 1) := by decide +kernel
theorem d_Mo_bring_2 : decode b_Mo_bring 2 = .ok (.iconst 1, 1) := by decide +kernel
theorem d_Mo_bring_3 : decode b_Mo_bring 3 = .ok (.istore_n 3, 1) := by decide +kernel
theorem d_Mo_bring_4 : decode b_Mo_bring 4 = .ok (.iload_n 3, 1) := by decide +kernel
theorem d_Mo_bring_5 : decode b_Mo_bring 5 = .ok (.ifCond .eq 93, 3) := by decide +kernel
theorem d_Mo_bring_8 : decode b_Mo_bring 8 = .ok (.iconst (-1), 1) := by decide +kernel
theorem d_Mo_bring_9 : decode b_Mo_bring 9 = .ok (.istore 4, 2) := by decide +kernel
theorem d_Mo_bring_11 : decode b_Mo_bring 11 = .ok (.aload_n 0, 1) := by decide +kernel
theorem d_Mo_bring_12 : decode b_Mo_bring 12 = .ok (.getfield 129, 3) := by decide +kernel
theorem d_Mo_bring_15 : decode b_Mo_bring 15 = .ok (.iconst 1, 1) := by decide +kernel
theorem d_Mo_bring_16 : decode b_Mo_bring 16 = .ok (.isub, 1) := by decide +kernel
theorem d_Mo_bring_17 : decode b_Mo_bring 17 = .ok (.istore 5, 2) := by decide +kernel
theorem d_Mo_bring_19 : decode b_Mo_bring 19 = .ok (.iload 5, 2) := by decide +kernel
theorem d_Mo_bring_21 : decode b_Mo_bring 21 = .ok (.ifCond .lt 48, 3) := by decide +kernel
theorem d_Mo_bring_24 : decode b_Mo_bring 24 = .ok (.aload_n 0, 1) := by decide +kernel
theorem d_Mo_bring_25 : decode b_Mo_bring 25 = .ok (.getfield 7, 3) := by decide +kernel
theorem d_Mo_bring_28 : decode b_Mo_bring 28 = .ok (.iload 5, 2) := by decide +kernel
theorem d_Mo_bring_30 : decode b_Mo_bring 30 = .ok (.iaload, 1) := by decide +kernel
theorem d_Mo_bring_31 : decode b_Mo_bring 31 = .ok (.iload_n 1, 1) := by decide +kernel
theorem d_Mo_bring_32 : decode b_Mo_bring 32 = .ok (.if_icmp .ne 27, 3) := by decide +kernel
theorem d_Mo_bring_35 : decode b_Mo_bring 35 = .ok (.aload_n 0, 1) := by decide +kernel
theorem d_Mo_bring_36 : decode b_Mo_bring 36 = .ok (.getfield 79, 3) := by decide +kernel
theorem d_Mo_bring_39 : decode b_Mo_bring 39 = .ok (.iload 5, 2) := by decide +kernel
theorem d_Mo_bring_41 : decode b_Mo_bring 41 = .ok (.baload, 1) := by decide +kernel
theorem d_Mo_bring_42 : decode b_Mo_bring 42 = .ok (.ifCond .ne 17, 3) := by decide +kernel
theorem d_Mo_bring_45 : decode b_Mo_bring 45 = .ok (.aload_n 0, 1) := by decide +kernel
theorem d_Mo_bring_46 : decode b_Mo_bring 46 = .ok (.iload 5, 2) := by decide +kernel
theorem d_Mo_bring_48 : decode b_Mo_bring 48 = .ok (.invokevirtual 182, 3) := by decide +kernel
theorem d_Mo_bring_51 : decode b_Mo_bring 51 = .ok (.ifCond .eq 8, 3) := by decide +kernel
theorem d_Mo_bring_54 : decode b_Mo_bring 54 = .ok (.iload 5, 2) := by decide +kernel
theorem d_Mo_bring_56 : decode b_Mo_bring 56 = .ok (.goto 5, 3) := by decide +kernel
theorem d_Mo_bring_59 : decode b_Mo_bring 59 = .ok (.iload 4, 2) := by decide +kernel
theorem d_Mo_bring_61 : decode b_Mo_bring 61 = .ok (.istore 4, 2) := by decide +kernel
theorem d_Mo_bring_63 : decode b_Mo_bring 63 = .ok (.iinc 5 (-1), 3) := by decide +kernel
theorem d_Mo_bring_66 : decode b_Mo_bring 66 = .ok (.goto (-47), 3) := by decide +kernel
theorem d_Mo_bring_69 : decode b_Mo_bring 69 = .ok (.iload 4, 2) := by decide +kernel
theorem d_Mo_bring_71 : decode b_Mo_bring 71 = .ok (.iconst (-1), 1) := by decide +kernel
theorem d_Mo_bring_72 : decode b_Mo_bring 72 = .ok (.if_icmp .eq 7, 3) := by decide +kernel
theorem d_Mo_bring_75 : decode b_Mo_bring 75 = .ok (.iconst 1, 1) := by decide +kernel
theorem d_Mo_bring_76 : decode b_Mo_bring 76 = .ok (.goto 4, 3) := by decide +kernel
theorem d_Mo_bring_79 : decode b_Mo_bring 79 = .ok (.iconst 0, 1) := by decide +kernel
theorem d_Mo_bring_80 : decode b_Mo_bring 80 = .ok (.istore_n 3, 1) := by decide +kernel
theorem d_Mo_bring_81 : decode b_Mo_bring 81 = .ok (.iload_n 3, 1) := by decide +kernel
theorem d_Mo_bring_82 : decode b_Mo_bring 82 = .ok (.ifCond .eq 13, 3) := by decide +kernel
theorem d_Mo_bring_85 : decode b_Mo_bring 85 = .ok (.aload_n 0, 1) := by decide +kernel
theorem d_Mo_bring_86 : decode b_Mo_bring 86 = .ok (.getfield 79, 3) := by decide +kernel
theorem d_Mo_bring_89 : decode b_Mo_bring 89 = .ok (.iload 4, 2) := by decide +kernel
theorem d_Mo_bring_91 : decode b_Mo_bring 91 = .ok (.iconst 1, 1) := by decide +kernel
theorem d_Mo_bring_92 : decode b_Mo_bring 92 = .ok (.bastore, 1) := by decide +kernel
theorem d_Mo_bring_93 : decode b_Mo_bring 93 = .ok (.iconst 1, 1) := by decide +kernel
theorem d_Mo_bring_94 : decode b_Mo_bring 94 = .ok (.istore_n 2, 1) := by decide +kernel
theorem d_Mo_bring_95 : decode b_Mo_bring 95 = .ok (.goto (-91), 3) := by decide +kernel
theorem d_Mo_bring_98 : decode b_Mo_bring 98 = .ok (.iload_n 2, 1) := by decide +kernel
theorem d_Mo_bring_99 : decode b_Mo_bring 99 = .ok (.ireturn, 1) := by decide +kernel
theorem d_Mo_findIn_0 : decode b_Mo_findIn 0 = .ok (.iconst 0, 1) := by decide +kernel
theorem d_Mo_findIn_1 : decode b_Mo_findIn 1 = .ok (.istore_n 1, 1) := by decide +kernel
theorem d_Mo_findIn_2 : decode b_Mo_findIn 2 = .ok (.iload_n 1, 1) := by decide +kernel
theorem d_Mo_findIn_3 : decode b_Mo_findIn 3 = .ok (.aload_n 0, 1) := by decide +kernel
theorem d_Mo_findIn_4 : decode b_Mo_findIn 4 = .ok (.getfield 129, 3) := by decide +kernel
theorem d_Mo_findIn_7 : decode b_Mo_findIn 7 = .ok (.if_icmp .ge 30, 3) := by decide +kernel
theorem d_Mo_findIn_10 : decode b_Mo_findIn 10 = .ok (.aload_n 0, 1) := by decide +kernel
theorem d_Mo_findIn_11 : decode b_Mo_findIn 11 = .ok (.getfield 79, 3) := by decide +kernel
theorem d_Mo_findIn_14 : decode b_Mo_findIn 14 = .ok (.iload_n 1, 1) := by decide +kernel
theorem d_Mo_findIn_15 : decode b_Mo_findIn 15 = .ok (.aload_n 0, 1) := by decide +kernel
theorem d_Mo_findIn_16 : decode b_Mo_findIn 16 = .ok (.getfield 7, 3) := by decide +kernel
theorem d_Mo_findIn_19 : decode b_Mo_findIn 19 = .ok (.iload_n 1, 1) := by decide +kernel
theorem d_Mo_findIn_20 : decode b_Mo_findIn 20 = .ok (.iaload, 1) := by decide +kernel
theorem d_Mo_findIn_21 : decode b_Mo_findIn 21 = .ok (.iconst (-1), 1) := by decide +kernel
theorem d_Mo_findIn_22 : decode b_Mo_findIn 22 = .ok (.if_icmp .ne 7, 3) := by decide +kernel
theorem d_Mo_findIn_25 : decode b_Mo_findIn 25 = .ok (.iconst 1, 1) := by decide +kernel
theorem d_Mo_findIn_26 : decode b_Mo_findIn 26 = .ok (.goto 4, 3) := by decide +kernel
theorem d_Mo_findIn_29 : decode b_Mo_findIn 29 = .ok (.iconst 0, 1) := by decide +kernel
theorem d_Mo_findIn_30 : decode b_Mo_findIn 30 = .ok (.bastore, 1) := by decide +kernel
theorem d_Mo_findIn_31 : decode b_Mo_findIn 31 = .ok (.iinc 1 1, 3) := by decide +kernel
theorem d_Mo_findIn_34 : decode b_Mo_findIn 34 = .ok (.goto (-32), 3) := by decide +kernel
theorem d_Mo_findIn_37 : decode b_Mo_findIn 37 = .ok (.iconst 1, 1) := by decide +kernel
theorem d_Mo_findIn_38 : decode b_Mo_findIn 38 = .ok (.istore_n 1, 1) := by decide +kernel
theorem d_Mo_findIn_39 : decode b_Mo_findIn 39 = .ok (.iload_n 1, 1) := by decide +kernel
theorem d_Mo_findIn_40 : decode b_Mo_findIn 40 = .ok (.ifCond .eq 56, 3) := by decide +kernel
theorem d_Mo_findIn_43 : decode b_Mo_findIn 43 = .ok (.iconst 0, 1) := by decide +kernel
theorem d_Mo_findIn_44 : decode b_Mo_findIn 44 = .ok (.istore_n 1, 1) := by decide +kernel
theorem d_Mo_findIn_45 : decode b_Mo_findIn 45 = .ok (.iconst 0, 1) := by decide +kernel
theorem d_Mo_findIn_46 : decode b_Mo_findIn 46 = .ok (.istore_n 2, 1) := by decide +kernel
theorem d_Mo_findIn_47 : decode b_Mo_findIn 47 = .ok (.iload_n 2, 1) := by decide +kernel
theorem d_Mo_findIn_48 : decode b_Mo_findIn 48 = .ok (.iconst 4, 1) := by decide +kernel
theorem d_Mo_findIn_49 : decode b_Mo_findIn 49 = .ok (.if_icmp .ge 27, 3) := by decide +kernel
theorem d_Mo_findIn_52 : decode b_Mo_findIn 52 = .ok (.aload_n 0, 1) := by decide +kernel
theorem d_Mo_findIn_53 : decode b_Mo_findIn 53 = .ok (.iload_n 2, 1) := by decide +kernel
theorem d_Mo_findIn_54 : decode b_Mo_findIn 54 = .ok (.invokevirtual 185, 3) := by decide +kernel
theorem d_Mo_findIn_57 : decode b_Mo_findIn 57 = .ok (.ifCond .ne 7, 3) := by decide +kernel
theorem d_Mo_findIn_60 : decode b_Mo_findIn 60 = .ok (.iload_n 1, 1) := by decide +kernel
theorem d_Mo_findIn_61 : decode b_Mo_findIn 61 = .ok (.ifCond .eq 7, 3) := by decide +kernel
theorem d_Mo_findIn_64 : decode b_Mo_findIn 64 = .ok (.iconst 1, 1) := by decide +kernel
theorem d_Mo_findIn_65 : decode b_Mo_findIn 65 = .ok (.goto 4, 3) := by decide +kernel
theorem d_Mo_findIn_68 : decode b_Mo_findIn 68 = .ok (.iconst 0, 1) := by decide +kernel
theorem d_Mo_findIn_69 : decode b_Mo_findIn 69 = .ok (.istore_n 1, 1) := by decide +kernel
theorem d_Mo_findIn_70 : decode b_Mo_findIn 70 = .ok (.iinc 2 1, 3) := by decide +kernel
theorem d_Mo_findIn_73 : decode b_Mo_findIn 73 = .ok (.goto (-26), 3) := by decide +kernel
theorem d_Mo_findIn_76 : decode b_Mo_findIn 76 = .ok (.iload_n 1, 1) := by decide +kernel
theorem d_Mo_findIn_77 : decode b_Mo_findIn 77 = .ok (.ifCond .eq 14, 3) := by decide +kernel
theorem d_Mo_findIn_80 : decode b_Mo_findIn 80 = .ok (.aload_n 0, 1) := by decide +kernel
theorem d_Mo_findIn_81 : decode b_Mo_findIn 81 = .ok (.getfield 173, 3) := by decide +kernel
theorem d_Mo_findIn_84 : decode b_Mo_findIn 84 = .ok (.ifCond .eq 7, 3) := by decide +kernel
theorem d_Mo_findIn_87 : decode b_Mo_findIn 87 = .ok (.iconst 1, 1) := by decide +kernel
theorem d_Mo_findIn_88 : decode b_Mo_findIn 88 = .ok (.goto 4, 3) := by decide +kernel
theorem d_Mo_findIn_91 : decode b_Mo_findIn 91 = .ok (.iconst 0, 1) := by decide +kernel
theorem d_Mo_findIn_92 : decode b_Mo_findIn 92 = .ok (.istore_n 1, 1) := by decide +kernel
theorem d_Mo_findIn_93 : decode b_Mo_findIn 93 = .ok (.goto (-54), 3) := by decide +kernel
theorem d_Mo_findIn_96 : decode b_Mo_findIn 96 = .ok (.return_, 1) := by decide +kernel
