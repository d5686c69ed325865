theorem fl_Mo_109 : FL R_Mo 109 12 46 := ⟨R_Mo, F_Mo, N_Mo, rfl, by decide, i_Mo, (mw 1612 (by decide +kernel))⟩
theorem ml_Mo_266 : MLb R_Mo 266 y_Mo_isNearTarget b_Mo_isNearTarget 2 (some .boolean) 1 := ⟨(mw 1899 (by decide +kernel)), (mw 1896 (by decide +kernel)), (mw 95 (by decide +kernel)), by decide +kernel⟩
theorem mv_Mo_isNearTarget : MLv y_Mo_isNearTarget := ⟨(mw 1898 (by decide +kernel)), (mw 74 (by decide +kernel))⟩
theorem fl_Mo_112 : FL R_Mo 112 12 48 := ⟨R_Mo, F_Mo, N_Mo, rfl, by decide, i_Mo, (mw 1614 (by decide +kernel))⟩
theorem ml_Mo_276 : MLb R_Mo 276 y_Mo_sameTarget b_Mo_sameTarget 7 (some .boolean) 2 := ⟨(mw 1917 (by decide +kernel)), (mw 1914 (by decide +kernel)), (mw 95 (by decide +kernel)), by decide +kernel⟩
theorem mv_Mo_sameTarget : MLv y_Mo_sameTarget := ⟨(mw 1916 (by decide +kernel)), (mw 77 (by decide +kernel))⟩
theorem ml_Mo_269 : MLb R_Mo 269 y_Mo_lay b_Mo_lay 3 (none) 0 := ⟨(mw 1880 (by decide +kernel)), (mw 1877 (by decide +kernel)), (mw 95 (by decide +kernel)), by decide +kernel⟩
theorem mv_Mo_lay : MLv y_Mo_lay := ⟨(mw 1879 (by decide +kernel)), (mw 70 (by decide +kernel))⟩
theorem ml_Mo_272 : MLb R_Mo 272 y_Mo_needy b_Mo_needy 4 (some .int) 0 := ⟨(mw 1895 (by decide +kernel)), (mw 1892 (by decide +kernel)), (mw 95 (by decide +kernel)), by decide +kernel⟩
theorem mv_Mo_needy : MLv y_Mo_needy := ⟨(mw 1894 (by decide +kernel)), (mw 73 (by decide +kernel))⟩
theorem ft_Mo_47 : FT 12 47 .int := ⟨R_Mo, F_Mo, N_Mo, rfl, rfl, by decide +kernel⟩
theorem ml_Mo_279 : MLb R_Mo 279 y_Mo_islandAt b_Mo_islandAt 2 (some .int) 1 := ⟨(mw 1925 (by decide +kernel)), (mw 1922 (by decide +kernel)), (mw 95 (by decide +kernel)), by decide +kernel⟩
theorem mv_Mo_islandAt : MLv y_Mo_islandAt := ⟨(mw 1924 (by decide +kernel)), (mw 79 (by decide +kernel))⟩
theorem d_Mo_sameTarget_0 : decode b_Mo_sameTarget 0 = .ok (.aload_n 0, 1) := by decide +kernel
theorem d_Mo_sameTarget_1 : decode b_Mo_sameTarget 1 = .ok (.getfield 63, 3) := by decide +kernel
theorem d_Mo_sameTarget_4 : decode b_Mo_sameTarget 4 = .ok (.iload_n 1, 1) := by decide +kernel
theorem d_Mo_sameTarget_5 : decode b_Mo_sameTarget 5 = .ok (.iaload, 1) := by decide +kernel
theorem d_Mo_sameTarget_6 : decode b_Mo_sameTarget 6 = .ok (.istore_n 3, 1) := by decide +kernel
theorem d_Mo_sameTarget_7 : decode b_Mo_sameTarget 7 = .ok (.aload_n 0, 1) := by decide +kernel
theorem d_Mo_sameTarget_8 : decode b_Mo_sameTarget 8 = .ok (.getfield 63, 3) := by decide +kernel
theorem d_Mo_sameTarget_11 : decode b_Mo_sameTarget 11 = .ok (.iload_n 2, 1) := by decide +kernel
theorem d_Mo_sameTarget_12 : decode b_Mo_sameTarget 12 = .ok (.iaload, 1) := by decide +kernel
theorem d_Mo_sameTarget_13 : decode b_Mo_sameTarget 13 = .ok (.istore 4, 2) := by decide +kernel
theorem d_Mo_sameTarget_15 : decode b_Mo_sameTarget 15 = .ok (.aload_n 0, 1) := by decide +kernel
theorem d_Mo_sameTarget_16 : decode b_Mo_sameTarget 16 = .ok (.iload_n 3, 1) := by decide +kernel
theorem d_Mo_sameTarget_17 : decode b_Mo_sameTarget 17 = .ok (.invokevirtual 198, 3) := by decide +kernel
theorem d_Mo_sameTarget_20 : decode b_Mo_sameTarget 20 = .ok (.istore 5, 2) := by decide +kernel
theorem d_Mo_sameTarget_22 : decode b_Mo_sameTarget 22 = .ok (.iload 5, 2) := by decide +kernel
theorem d_Mo_sameTarget_24 : decode b_Mo_sameTarget 24 = .ok (.aload_n 0, 1) := by decide +kernel
theorem d_Mo_sameTarget_25 : decode b_Mo_sameTarget 25 = .ok (.iload 4, 2) := by decide +kernel
theorem d_Mo_sameTarget_27 : decode b_Mo_sameTarget 27 = .ok (.invokevirtual 198, 3) := by decide +kernel
theorem d_Mo_sameTarget_30 : decode b_Mo_sameTarget 30 = .ok (.if_icmp .eq 5, 3) := by decide +kernel
theorem d_Mo_sameTarget_33 : decode b_Mo_sameTarget 33 = .ok (.iconst 0, 1) := by decide +kernel
theorem d_Mo_sameTarget_34 : decode b_Mo_sameTarget 34 = .ok (.ireturn, 1) := by decide +kernel
theorem d_Mo_sameTarget_35 : decode b_Mo_sameTarget 35 = .ok (.iload 5, 2) := by decide +kernel
theorem d_Mo_sameTarget_37 : decode b_Mo_sameTarget 37 = .ok (.iconst 3, 1) := by decide +kernel
theorem d_Mo_sameTarget_38 : decode b_Mo_sameTarget 38 = .ok (.if_icmp .ne 40, 3) := by decide +kernel
theorem d_Mo_sameTarget_41 : decode b_Mo_sameTarget 41 = .ok (.aload_n 0, 1) := by decide +kernel
theorem d_Mo_sameTarget_42 : decode b_Mo_sameTarget 42 = .ok (.getfield 48, 3) := by decide +kernel
theorem d_Mo_sameTarget_45 : decode b_Mo_sameTarget 45 = .ok (.iload_n 3, 1) := by decide +kernel
theorem d_Mo_sameTarget_46 : decode b_Mo_sameTarget 46 = .ok (.iaload, 1) := by decide +kernel
theorem d_Mo_sameTarget_47 : decode b_Mo_sameTarget 47 = .ok (.aload_n 0, 1) := by decide +kernel
theorem d_Mo_sameTarget_48 : decode b_Mo_sameTarget 48 = .ok (.getfield 48, 3) := by decide +kernel
theorem d_Mo_sameTarget_51 : decode b_Mo_sameTarget 51 = .ok (.iload 4, 2) := by decide +kernel
theorem d_Mo_sameTarget_53 : decode b_Mo_sameTarget 53 = .ok (.iaload, 1) := by decide +kernel
theorem d_Mo_sameTarget_54 : decode b_Mo_sameTarget 54 = .ok (.if_icmp .ne 22, 3) := by decide +kernel
theorem d_Mo_sameTarget_57 : decode b_Mo_sameTarget 57 = .ok (.aload_n 0, 1) := by decide +kernel
theorem d_Mo_sameTarget_58 : decode b_Mo_sameTarget 58 = .ok (.getfield 66, 3) := by decide +kernel
theorem d_Mo_sameTarget_61 : decode b_Mo_sameTarget 61 = .ok (.iload_n 1, 1) := by decide +kernel
theorem d_Mo_sameTarget_62 : decode b_Mo_sameTarget 62 = .ok (.iaload, 1) := by decide +kernel
theorem d_Mo_sameTarget_63 : decode b_Mo_sameTarget 63 = .ok (.aload_n 0, 1) := by decide +kernel
theorem d_Mo_sameTarget_64 : decode b_Mo_sameTarget 64 = .ok (.getfield 66, 3) := by decide +kernel
theorem d_Mo_sameTarget_67 : decode b_Mo_sameTarget 67 = .ok (.iload_n 2, 1) := by decide +kernel
theorem d_Mo_sameTarget_68 : decode b_Mo_sameTarget 68 = .ok (.iaload, 1) := by decide +kernel
theorem d_Mo_sameTarget_69 : decode b_Mo_sameTarget 69 = .ok (.if_icmp .ne 7, 3) := by decide +kernel
theorem d_Mo_sameTarget_72 : decode b_Mo_sameTarget 72 = .ok (.iconst 1, 1) := by decide +kernel
theorem d_Mo_sameTarget_73 : decode b_Mo_sameTarget 73 = .ok (.goto 4, 3) := by decide +kernel
theorem d_Mo_sameTarget_76 : decode b_Mo_sameTarget 76 = .ok (.iconst 0, 1) := by decide +kernel
theorem d_Mo_sameTarget_77 : decode b_Mo_sameTarget 77 = .ok (.ireturn, 1) := by decide +kernel
theorem d_Mo_sameTarget_78 : decode b_Mo_sameTarget 78 = .ok (.aload_n 0, 1) := by decide +kernel
theorem d_Mo_sameTarget_79 : decode b_Mo_sameTarget 79 = .ok (.iload_n 3, 1) := by decide +kernel
theorem d_Mo_sameTarget_80 : decode b_Mo_sameTarget 80 = .ok (.invokevirtual 207, 3) := by decide +kernel
theorem d_Mo_sameTarget_83 : decode b_Mo_sameTarget 83 = .ok (.aload_n 0, 1) := by decide +kernel
theorem d_Mo_sameTarget_84 : decode b_Mo_sameTarget 84 = .ok (.getfield 66, 3) := by decide +kernel
theorem d_Mo_sameTarget_87 : decode b_Mo_sameTarget 87 = .ok (.iload_n 1, 1) := by decide +kernel
theorem d_Mo_sameTarget_88 : decode b_Mo_sameTarget 88 = .ok (.iaload, 1) := by decide +kernel
theorem d_Mo_sameTarget_89 : decode b_Mo_sameTarget 89 = .ok (.iadd, 1) := by decide +kernel
theorem d_Mo_sameTarget_90 : decode b_Mo_sameTarget 90 = .ok (.aload_n 0, 1) := by decide +kernel
theorem d_Mo_sameTarget_91 : decode b_Mo_sameTarget 91 = .ok (.iload 4, 2) := by decide +kernel
theorem d_Mo_sameTarget_93 : decode b_Mo_sameTarget 93 = .ok (.invokevirtual 207, 3) := by decide +kernel
theorem d_Mo_sameTarget_96 : decode b_Mo_sameTarget 96 = .ok (.aload_n 0, 1) := by decide +kernel
theorem d_Mo_sameTarget_97 : decode b_Mo_sameTarget 97 = .ok (.getfield 66, 3) := by decide +kernel
theorem d_Mo_sameTarget_100 : decode b_Mo_sameTarget 100 = .ok (.iload_n 2, 1) := by decide +kernel
theorem d_Mo_sameTarget_101 : decode b_Mo_sameTarget 101 = .ok (.iaload, 1) := by decide +kernel
theorem d_Mo_sameTarget_102 : decode b_Mo_sameTarget 102 = .ok (.iadd, 1) := by decide +kernel
theorem d_Mo_sameTarget_103 : decode b_Mo_sameTarget 103 = .ok (.if_icmp .ne 7, 3) := by decide +kernel
theorem d_Mo_sameTarget_106 : decode b_Mo_sameTarget 106 = .ok (.iconst 1, 1) := by decide +kernel
theorem d_Mo_sameTarget_107 : decode b_Mo_sameTarget 107 = .ok (.goto 4, 3) := by decide +kernel
theorem d_Mo_sameTarget_110 : decode b_Mo_sameTarget 110 = .ok (.iconst 0, 1) := by decide +kernel
theorem d_Mo_sameTarget_111 : decode b_Mo_sameTarget 111 = .ok (.istore 6, 2) := by decide +kernel
theorem d_Mo_sameTarget_113 : decode b_Mo_sameTarget 113 = .ok (.iload 6, 2) := by decide +kernel
theorem d_Mo_sameTarget_115 : decode b_Mo_sameTarget 115 = .ok (.ifCond .eq 37, 3) := by decide +kernel
theorem d_Mo_sameTarget_118 : decode b_Mo_sameTarget 118 = .ok (.iload 5, 2) := by decide +kernel
theorem d_Mo_sameTarget_120 : decode b_Mo_sameTarget 120 = .ok (.iconst 2, 1) := by decide +kernel
theorem d_Mo_sameTarget_121 : decode b_Mo_sameTarget 121 = .ok (.if_icmp .eq 27, 3) := by decide +kernel
theorem d_Mo_sameTarget_124 : decode b_Mo_sameTarget 124 = .ok (.aload_n 0, 1) := by decide +kernel
theorem d_Mo_sameTarget_125 : decode b_Mo_sameTarget 125 = .ok (.getfield 97, 3) := by decide +kernel
theorem d_Mo_sameTarget_128 : decode b_Mo_sameTarget 128 = .ok (.aload_n 0, 1) := by decide +kernel
theorem d_Mo_sameTarget_129 : decode b_Mo_sameTarget 129 = .ok (.iload_n 3, 1) := by decide +kernel
theorem d_Mo_sameTarget_130 : decode b_Mo_sameTarget 130 = .ok (.invokevirtual 204, 3) := by decide +kernel
theorem d_Mo_sameTarget_133 : decode b_Mo_sameTarget 133 = .ok (.iaload, 1) := by decide +kernel
theorem d_Mo_sameTarget_134 : decode b_Mo_sameTarget 134 = .ok (.aload_n 0, 1) := by decide +kernel
theorem d_Mo_sameTarget_135 : decode b_Mo_sameTarget 135 = .ok (.getfield 97, 3) := by decide +kernel
theorem d_Mo_sameTarget_138 : decode b_Mo_sameTarget 138 = .ok (.aload_n 0, 1) := by decide +kernel
theorem d_Mo_sameTarget_139 : decode b_Mo_sameTarget 139 = .ok (.iload 4, 2) := by decide +kernel
theorem d_Mo_sameTarget_141 : decode b_Mo_sameTarget 141 = .ok (.invokevirtual 204, 3) := by decide +kernel
theorem d_Mo_sameTarget_144 : decode b_Mo_sameTarget 144 = .ok (.iaload, 1) := by decide +kernel
theorem d_Mo_sameTarget_145 : decode b_Mo_sameTarget 145 = .ok (.if_icmp .ne 7, 3) := by decide +kernel
theorem d_Mo_sameTarget_148 : decode b_Mo_sameTarget 148 = .ok (.iconst 1, 1) := by decide +kernel
theorem d_Mo_sameTarget_149 : decode b_Mo_sameTarget 149 = .ok (.goto 4, 3) := by decide +kernel
theorem d_Mo_sameTarget_152 : decode b_Mo_sameTarget 152 = .ok (.iconst 0, 1) := by decide +kernel
theorem d_Mo_sameTarget_153 : decode b_Mo_sameTarget 153 = .ok (.ireturn, 1) := by decide +kernel
theorem d_Mo_needy_0 : decode b_Mo_needy 0 = .ok (.iconst 0, 1) := by decide +kernel
theorem d_Mo_needy_1 : decode b_Mo_needy 1 = .ok (.istore_n 1, 1) := by decide +kernel
theorem d_Mo_needy_2 : decode b_Mo_needy 2 = .ok (.iload_n 1, 1) := by decide +kernel
theorem d_Mo_needy_3 : decode b_Mo_needy 3 = .ok (.aload_n 0, 1) := by decide +kernel
theorem d_Mo_needy_4 : decode b_Mo_needy 4 = .ok (.getfield 143, 3) := by decide +kernel
theorem d_Mo_needy_7 : decode b_Mo_needy 7 = .ok (.if_icmp .ge 92, 3) := by decide +kernel
theorem d_Mo_needy_10 : decode b_Mo_needy 10 = .ok (.iconst 0, 1) := by decide +kernel
theorem d_Mo_needy_11 : decode b_Mo_needy 11 = .ok (.istore_n 2, 1) := by decide +kernel
theorem d_Mo_needy_12 : decode b_Mo_needy 12 = .ok (.iload_n 2, 1) := by decide +kernel
theorem d_Mo_needy_13 : decode b_Mo_needy 13 = .ok (.aload_n 0, 1) := by decide +kernel
theorem d_Mo_needy_14 : decode b_Mo_needy 14 = .ok (.getfield 167, 3) := by decide +kernel
theorem d_Mo_needy_17 : decode b_Mo_needy 17 = .ok (.if_icmp .ge 76, 3) := by decide +kernel
theorem d_Mo_needy_20 : decode b_Mo_needy 20 = .ok (.aload_n 0, 1) := by decide +kernel
theorem d_Mo_needy_21 : decode b_Mo_needy 21 = .ok (.getfield 54, 3) := by decide +kernel
theorem d_Mo_needy_24 : decode b_Mo_needy 24 = .ok (.iload_n 2, 1) := by decide +kernel
theorem d_Mo_needy_25 : decode b_Mo_needy 25 = .ok (.iaload, 1) := by decide +kernel
theorem d_Mo_needy_26 : decode b_Mo_needy 26 = .ok (.iload_n 1, 1) := by decide +kernel
theorem d_Mo_needy_27 : decode b_Mo_needy 27 = .ok (.if_icmp .ne 44, 3) := by decide +kernel
theorem d_Mo_needy_30 : decode b_Mo_needy 30 = .ok (.aload_n 0, 1) := by decide +kernel
theorem d_Mo_needy_31 : decode b_Mo_needy 31 = .ok (.getfield 60, 3) := by decide +kernel
theorem d_Mo_needy_34 : decode b_Mo_needy 34 = .ok (.iload_n 2, 1) := by decide +kernel
theorem d_Mo_needy_35 : decode b_Mo_needy 35 = .ok (.iaload, 1) := by decide +kernel
theorem d_Mo_needy_36 : decode b_Mo_needy 36 = .ok (.iconst 4, 1) := by decide +kernel
theorem d_Mo_needy_37 : decode b_Mo_needy 37 = .ok (.if_icmp .ne 34, 3) := by decide +kernel
theorem d_Mo_needy_40 : decode b_Mo_needy 40 = .ok (.aload_n 0, 1) := by decide +kernel
theorem d_Mo_needy_41 : decode b_Mo_needy 41 = .ok (.iload_n 1, 1) := by decide +kernel
theorem d_Mo_needy_42 : decode b_Mo_needy 42 = .ok (.invokevirtual 226, 3) := by decide +kernel
theorem d_Mo_needy_45 : decode b_Mo_needy 45 = .ok (.ifCond .eq 26, 3) := by decide +kernel
theorem d_Mo_needy_48 : decode b_Mo_needy 48 = .ok (.aload_n 0, 1) := by decide +kernel
theorem d_Mo_needy_49 : decode b_Mo_needy 49 = .ok (.getfield 16, 3) := by decide +kernel
theorem d_Mo_needy_52 : decode b_Mo_needy 52 = .ok (.iload_n 1, 1) := by decide +kernel
theorem d_Mo_needy_53 : decode b_Mo_needy 53 = .ok (.iaload, 1) := by decide +kernel
theorem d_Mo_needy_54 : decode b_Mo_needy 54 = .ok (.ifCond .ne 17, 3) := by decide +kernel
theorem d_Mo_needy_57 : decode b_Mo_needy 57 = .ok (.aload_n 0, 1) := by decide +kernel
theorem d_Mo_needy_58 : decode b_Mo_needy 58 = .ok (.getfield 109, 3) := by decide +kernel
theorem d_Mo_needy_61 : decode b_Mo_needy 61 = .ok (.iload_n 2, 1) := by decide +kernel
theorem d_Mo_needy_62 : decode b_Mo_needy 62 = .ok (.iaload, 1) := by decide +kernel
theorem d_Mo_needy_63 : decode b_Mo_needy 63 = .ok (.iconst (-1), 1) := by decide +kernel
theorem d_Mo_needy_64 : decode b_Mo_needy 64 = .ok (.if_icmp .ne 7, 3) := by decide +kernel
theorem d_Mo_needy_67 : decode b_Mo_needy 67 = .ok (.iconst 1, 1) := by decide +kernel
theorem d_Mo_needy_68 : decode b_Mo_needy 68 = .ok (.goto 4, 3) := by decide +kernel
theorem d_Mo_needy_71 : decode b_Mo_needy 71 = .ok (.iconst 0, 1) := by decide +kernel
theorem d_Mo_needy_72 : decode b_Mo_needy 72 = .ok (.istore_n 3, 1) := by decide +kernel
theorem d_Mo_needy_73 : decode b_Mo_needy 73 = .ok (.iload_n 3, 1) := by decide +kernel
theorem d_Mo_needy_74 : decode b_Mo_needy 74 = .ok (.ifCond .eq 13, 3) := by decide +kernel
theorem d_Mo_needy_77 : decode b_Mo_needy 77 = .ok (.aload_n 0, 1) := by decide +kernel
theorem d_Mo_needy_78 : decode b_Mo_needy 78 = .ok (.iload_n 2, 1) := by decide +kernel
theorem d_Mo_needy_79 : decode b_Mo_needy 79 = .ok (.invokevirtual 266, 3) := by decide +kernel
theorem d_Mo_needy_82 : decode b_Mo_needy 82 = .ok (.ifCond .ne 5, 3) := by decide +kernel
theorem d_Mo_needy_85 : decode b_Mo_needy 85 = .ok (.iload_n 2, 1) := by decide +kernel
theorem d_Mo_needy_86 : decode b_Mo_needy 86 = .ok (.ireturn, 1) := by decide +kernel
theorem d_Mo_needy_87 : decode b_Mo_needy 87 = .ok (.iinc 2 1, 3) := by decide +kernel
theorem d_Mo_needy_90 : decode b_Mo_needy 90 = .ok (.goto (-78), 3) := by decide +kernel
theorem d_Mo_needy_93 : decode b_Mo_needy 93 = .ok (.iinc 1 1, 3) := by decide +kernel
theorem d_Mo_needy_96 : decode b_Mo_needy 96 = .ok (.goto (-94), 3) := by decide +kernel
theorem d_Mo_needy_99 : decode b_Mo_needy 99 = .ok (.iconst (-1), 1) := by decide +kernel
theorem d_Mo_needy_100 : decode b_Mo_needy 100 = .ok (.ireturn, 1) := by decide +kernel
theorem d_Mo_findIslands_0 : decode b_Mo_findIslands 0 = .ok (.aload_n 0, 1) := by decide +kernel
theorem d_Mo_findIslands_1 : decode b_Mo_findIslands 1 = .ok (.iconst 0, 1) := by decide +kernel
theorem d_Mo_findIslands_2 : decode b_Mo_findIslands 2 = .ok (.putfield 241, 3) := by decide +kernel
theorem d_Mo_findIslands_5 : decode b_Mo_findIslands 5 = .ok (.aload_n 0, 1) := by decide +kernel
theorem d_Mo_findIslands_6 : decode b_Mo_findIslands 6 = .ok (.iconst 0, 1) := by decide +kernel
theorem d_Mo_findIslands_7 : decode b_Mo_findIslands 7 = .ok (.putfield 232, 3) := by decide +kernel
theorem d_Mo_findIslands_10 : decode b_Mo_findIslands 10 = .ok (.aload_n 0, 1) := by decide +kernel
theorem d_Mo_findIslands_11 : decode b_Mo_findIslands 11 = .ok (.iconst (-1), 1) := by decide +kernel
theorem d_Mo_findIslands_12 : decode b_Mo_findIslands 12 = .ok (.putfield 244, 3) := by decide +kernel
theorem d_Mo_findIslands_15 : decode b_Mo_findIslands 15 = .ok (.iconst 0, 1) := by decide +kernel
theorem d_Mo_findIslands_16 : decode b_Mo_findIslands 16 = .ok (.istore_n 1, 1) := by decide +kernel
theorem d_Mo_findIslands_17 : decode b_Mo_findIslands 17 = .ok (.iload_n 1, 1) := by decide +kernel
theorem d_Mo_findIslands_18 : decode b_Mo_findIslands 18 = .ok (.aload_n 0, 1) := by decide +kernel
theorem d_Mo_findIslands_19 : decode b_Mo_findIslands 19 = .ok (.getfield 167, 3) := by decide +kernel
theorem d_Mo_findIslands_22 : decode b_Mo_findIslands 22 = .ok (.if_icmp .ge 16, 3) := by decide +kernel
theorem d_Mo_findIslands_25 : decode b_Mo_findIslands 25 = .ok (.aload_n 0, 1) := by decide +kernel
theorem d_Mo_findIslands_26 : decode b_Mo_findIslands 26 = .ok (.getfield 109, 3) := by decide +kernel
theorem d_Mo_findIslands_29 : decode b_Mo_findIslands 29 = .ok (.iload_n 1, 1) := by decide +kernel
theorem d_Mo_findIslands_30 : decode b_Mo_findIslands 30 = .ok (.iconst (-1), 1) := by decide +kernel
theorem d_Mo_findIslands_31 : decode b_Mo_findIslands 31 = .ok (.iastore, 1) := by decide +kernel
theorem d_Mo_findIslands_32 : decode b_Mo_findIslands 32 = .ok (.iinc 1 1, 3) := by decide +kernel
theorem d_Mo_findIslands_35 : decode b_Mo_findIslands 35 = .ok (.goto (-18), 3) := by decide +kernel
theorem d_Mo_findIslands_38 : decode b_Mo_findIslands 38 = .ok (.aload_n 0, 1) := by decide +kernel
theorem d_Mo_findIslands_39 : decode b_Mo_findIslands 39 = .ok (.invokevirtual 269, 3) := by decide +kernel
theorem d_Mo_findIslands_42 : decode b_Mo_findIslands 42 = .ok (.aload_n 0, 1) := by decide +kernel
theorem d_Mo_findIslands_43 : decode b_Mo_findIslands 43 = .ok (.invokevirtual 272, 3) := by decide +kernel
theorem d_Mo_findIslands_46 : decode b_Mo_findIslands 46 = .ok (.istore_n 1, 1) := by decide +kernel
theorem d_Mo_findIslands_47 : decode b_Mo_findIslands 47 = .ok (.iload_n 1, 1) := by decide +kernel
theorem d_Mo_findIslands_48 : decode b_Mo_findIslands 48 = .ok (.iconst (-1), 1) := by decide +kernel
theorem d_Mo_findIslands_49 : decode b_Mo_findIslands 49 = .ok (.if_icmp .eq 128, 3) := by decide +kernel
theorem d_Mo_findIslands_52 : decode b_Mo_findIslands 52 = .ok (.iconst 0, 1) := by decide +kernel
theorem d_Mo_findIslands_53 : decode b_Mo_findIslands 53 = .ok (.istore_n 2, 1) := by decide +kernel
theorem d_Mo_findIslands_54 : decode b_Mo_findIslands 54 = .ok (.iload_n 2, 1) := by decide +kernel
theorem d_Mo_findIslands_55 : decode b_Mo_findIslands 55 = .ok (.aload_n 0, 1) := by decide +kernel
theorem d_Mo_findIslands_56 : decode b_Mo_findIslands 56 = .ok (.getfield 241, 3) := by decide +kernel
theorem d_Mo_findIslands_59 : decode b_Mo_findIslands 59 = .ok (.if_icmp .ge 49, 3) := by decide +kernel
theorem d_Mo_findIslands_62 : decode b_Mo_findIslands 62 = .ok (.aload_n 0, 1) := by decide +kernel
theorem d_Mo_findIslands_63 : decode b_Mo_findIslands 63 = .ok (.getfield 109, 3) := by decide +kernel
theorem d_Mo_findIslands_66 : decode b_Mo_findIslands 66 = .ok (.iload_n 1, 1) := by decide +kernel
theorem d_Mo_findIslands_67 : decode b_Mo_findIslands 67 = .ok (.aload_n 0, 1) := by decide +kernel
theorem d_Mo_findIslands_68 : decode b_Mo_findIslands 68 = .ok (.getfield 109, 3) := by decide +kernel
theorem d_Mo_findIslands_71 : decode b_Mo_findIslands 71 = .ok (.iload_n 1, 1) := by decide +kernel
theorem d_Mo_findIslands_72 : decode b_Mo_findIslands 72 = .ok (.iaload, 1) := by decide +kernel
theorem d_Mo_findIslands_73 : decode b_Mo_findIslands 73 = .ok (.iconst (-1), 1) := by decide +kernel
theorem d_Mo_findIslands_74 : decode b_Mo_findIslands 74 = .ok (.if_icmp .ne 21, 3) := by decide +kernel
theorem d_Mo_findIslands_77 : decode b_Mo_findIslands 77 = .ok (.aload_n 0, 1) := by decide +kernel
theorem d_Mo_findIslands_78 : decode b_Mo_findIslands 78 = .ok (.aload_n 0, 1) := by decide +kernel
theorem d_Mo_findIslands_79 : decode b_Mo_findIslands 79 = .ok (.getfield 112, 3) := by decide +kernel
theorem d_Mo_findIslands_82 : decode b_Mo_findIslands 82 = .ok (.iload_n 2, 1) := by decide +kernel
theorem d_Mo_findIslands_83 : decode b_Mo_findIslands 83 = .ok (.iaload, 1) := by decide +kernel
theorem d_Mo_findIslands_84 : decode b_Mo_findIslands 84 = .ok (.iload_n 1, 1) := by decide +kernel
theorem d_Mo_findIslands_85 : decode b_Mo_findIslands 85 = .ok (.invokevirtual 276, 3) := by decide +kernel
theorem d_Mo_findIslands_88 : decode b_Mo_findIslands 88 = .ok (.ifCond .eq 7, 3) := by decide +kernel
theorem d_Mo_findIslands_91 : decode b_Mo_findIslands 91 = .ok (.iload_n 2, 1) := by decide +kernel
theorem d_Mo_findIslands_92 : decode b_Mo_findIslands 92 = .ok (.goto 9, 3) := by decide +kernel
theorem d_Mo_findIslands_95 : decode b_Mo_findIslands 95 = .ok (.aload_n 0, 1) := by decide +kernel
theorem d_Mo_findIslands_96 : decode b_Mo_findIslands 96 = .ok (.getfield 109, 3) := by decide +kernel
theorem d_Mo_findIslands_99 : decode b_Mo_findIslands 99 = .ok (.iload_n 1, 1) := by decide +kernel
theorem d_Mo_findIslands_100 : decode b_Mo_findIslands 100 = .ok (.iaload, 1) := by decide +kernel
theorem d_Mo_findIslands_101 : decode b_Mo_findIslands 101 = .ok (.iastore, 1) := by decide +kernel
theorem d_Mo_findIslands_102 : decode b_Mo_findIslands 102 = .ok (.iinc 2 1, 3) := by decide +kernel
theorem d_Mo_findIslands_105 : decode b_Mo_findIslands 105 = .ok (.goto (-51), 3) := by decide +kernel
theorem d_Mo_findIslands_108 : decode b_Mo_findIslands 108 = .ok (.aload_n 0, 1) := by decide +kernel
theorem d_Mo_findIslands_109 : decode b_Mo_findIslands 109 = .ok (.getfield 109, 3) := by decide +kernel
theorem d_Mo_findIslands_112 : decode b_Mo_findIslands 112 = .ok (.iload_n 1, 1) := by decide +kernel
theorem d_Mo_findIslands_113 : decode b_Mo_findIslands 113 = .ok (.iaload, 1) := by decide +kernel
theorem d_Mo_findIslands_114 : decode b_Mo_findIslands 114 = .ok (.iconst (-1), 1) := by decide +kernel
theorem d_Mo_findIslands_115 : decode b_Mo_findIslands 115 = .ok (.if_icmp .ne 50, 3) := by decide +kernel
theorem d_Mo_findIslands_118 : decode b_Mo_findIslands 118 = .ok (.aload_n 0, 1) := by decide +kernel
theorem d_Mo_findIslands_119 : decode b_Mo_findIslands 119 = .ok (.getfield 241, 3) := by decide +kernel
theorem d_Mo_findIslands_122 : decode b_Mo_findIslands 122 = .ok (.bipush 32, 2) := by decide +kernel
theorem d_Mo_findIslands_124 : decode b_Mo_findIslands 124 = .ok (.if_icmp .ne 11, 3) := by decide +kernel
theorem d_Mo_findIslands_127 : decode b_Mo_findIslands 127 = .ok (.aload_n 0, 1) := by decide +kernel
theorem d_Mo_findIslands_128 : decode b_Mo_findIslands 128 = .ok (.iconst 4, 1) := by decide +kernel
theorem d_Mo_findIslands_129 : decode b_Mo_findIslands 129 = .ok (.iconst (-1), 1) := by decide +kernel
theorem d_Mo_findIslands_130 : decode b_Mo_findIslands 130 = .ok (.iconst (-1), 1) := by decide +kernel
theorem d_Mo_findIslands_131 : decode b_Mo_findIslands 131 = .ok (.invokevirtual 188, 3) := by decide +kernel
theorem d_Mo_findIslands_134 : decode b_Mo_findIslands 134 = .ok (.ireturn, 1) := by decide +kernel
theorem d_Mo_findIslands_135 : decode b_Mo_findIslands 135 = .ok (.aload_n 0, 1) := by decide +kernel
theorem d_Mo_findIslands_136 : decode b_Mo_findIslands 136 = .ok (.getfield 112, 3) := by decide +kernel
theorem d_Mo_findIslands_139 : decode b_Mo_findIslands 139 = .ok (.aload_n 0, 1) := by decide +kernel
theorem d_Mo_findIslands_140 : decode b_Mo_findIslands 140 = .ok (.getfield 241, 3) := by decide +kernel
theorem d_Mo_findIslands_143 : decode b_Mo_findIslands 143 = .ok (.iload_n 1, 1) := by decide +kernel
theorem d_Mo_findIslands_144 : decode b_Mo_findIslands 144 = .ok (.iastore, 1) := by decide +kernel
theorem d_Mo_findIslands_145 : decode b_Mo_findIslands 145 = .ok (.aload_n 0, 1) := by decide +kernel
theorem d_Mo_findIslands_146 : decode b_Mo_findIslands 146 = .ok (.getfield 109, 3) := by decide +kernel
theorem d_Mo_findIslands_149 : decode b_Mo_findIslands 149 = .ok (.iload_n 1, 1) := by decide +kernel
theorem d_Mo_findIslands_150 : decode b_Mo_findIslands 150 = .ok (.aload_n 0, 1) := by decide +kernel
theorem d_Mo_findIslands_151 : decode b_Mo_findIslands 151 = .ok (.getfield 241, 3) := by decide +kernel
theorem d_Mo_findIslands_154 : decode b_Mo_findIslands 154 = .ok (.iastore, 1) := by decide +kernel
theorem d_Mo_findIslands_155 : decode b_Mo_findIslands 155 = .ok (.aload_n 0, 1) := by decide +kernel
theorem d_Mo_findIslands_156 : decode b_Mo_findIslands 156 = .ok (.dup, 1) := by decide +kernel
theorem d_Mo_findIslands_157 : decode b_Mo_findIslands 157 = .ok (.getfield 241, 3) := by decide +kernel
theorem d_Mo_findIslands_160 : decode b_Mo_findIslands 160 = .ok (.iconst 1, 1) := by decide +kernel
theorem d_Mo_findIslands_161 : decode b_Mo_findIslands 161 = .ok (.iadd, 1) := by decide +kernel
theorem d_Mo_findIslands_162 : decode b_Mo_findIslands 162 = .ok (.putfield 241, 3) := by decide +kernel
theorem d_Mo_findIslands_165 : decode b_Mo_findIslands 165 = .ok (.aload_n 0, 1) := by decide +kernel
theorem d_Mo_findIslands_166 : decode b_Mo_findIslands 166 = .ok (.invokevirtual 269, 3) := by decide +kernel
theorem d_Mo_findIslands_169 : decode b_Mo_findIslands 169 = .ok (.aload_n 0, 1) := by decide +kernel
theorem d_Mo_findIslands_170 : decode b_Mo_findIslands 170 = .ok (.invokevirtual 272, 3) := by decide +kernel
theorem d_Mo_findIslands_173 : decode b_Mo_findIslands 173 = .ok (.istore_n 1, 1) := by decide +kernel
theorem d_Mo_findIslands_174 : decode b_Mo_findIslands 174 = .ok (.goto (-127), 3) := by decide +kernel
theorem d_Mo_findIslands_177 : decode b_Mo_findIslands 177 = .ok (.iconst 1, 1) := by decide +kernel
theorem d_Mo_findIslands_178 : decode b_Mo_findIslands 178 = .ok (.ireturn, 1) := by decide +kernel
theorem d_Mo_checkFar_0 : decode b_Mo_checkFar 0 = .ok (.iconst 0, 1) := by decide +kernel
theorem d_Mo_checkFar_1 : decode b_Mo_checkFar 1 = .ok (.istore_n 1, 1) := by decide +kernel
theorem d_Mo_checkFar_2 : decode b_Mo_checkFar 2 = .ok (.iload_n 1, 1) := by decide +kernel
theorem d_Mo_checkFar_3 : decode b_Mo_checkFar 3 = .ok (.aload_n 0, 1) := by decide +kernel
theorem d_Mo_checkFar_4 : decode b_Mo_checkFar 4 = .ok (.getfield 143, 3) := by decide +kernel
theorem d_Mo_checkFar_7 : decode b_Mo_checkFar 7 = .ok (.if_icmp .ge 138, 3) := by decide +kernel
theorem d_Mo_checkFar_10 : decode b_Mo_checkFar 10 = .ok (.iconst 0, 1) := by decide +kernel
theorem d_Mo_checkFar_11 : decode b_Mo_checkFar 11 = .ok (.istore_n 2, 1) := by decide +kernel
theorem d_Mo_checkFar_12 : decode b_Mo_checkFar 12 = .ok (.iload_n 2, 1) := by decide +kernel
theorem d_Mo_checkFar_13 : decode b_Mo_checkFar 13 = .ok (.aload_n 0, 1) := by decide +kernel
theorem d_Mo_checkFar_14 : decode b_Mo_checkFar 14 = .ok (.getfield 167, 3) := by decide +kernel
theorem d_Mo_checkFar_17 : decode b_Mo_checkFar 17 = .ok (.if_icmp .ge 122, 3) := by decide +kernel
theorem d_Mo_checkFar_20 : decode b_Mo_checkFar 20 = .ok (.aload_n 0, 1) := by decide +kernel
theorem d_Mo_checkFar_21 : decode b_Mo_checkFar 21 = .ok (.getfield 54, 3) := by decide +kernel
theorem d_Mo_checkFar_24 : decode b_Mo_checkFar 24 = .ok (.iload_n 2, 1) := by decide +kernel
theorem d_Mo_checkFar_25 : decode b_Mo_checkFar 25 = .ok (.iaload, 1) := by decide +kernel
theorem d_Mo_checkFar_26 : decode b_Mo_checkFar 26 = .ok (.iload_n 1, 1) := by decide +kernel
theorem d_Mo_checkFar_27 : decode b_Mo_checkFar 27 = .ok (.if_icmp .ne 106, 3) := by decide +kernel
theorem d_Mo_checkFar_30 : decode b_Mo_checkFar 30 = .ok (.aload_n 0, 1) := by decide +kernel
theorem d_Mo_checkFar_31 : decode b_Mo_checkFar 31 = .ok (.getfield 60, 3) := by decide +kernel
theorem d_Mo_checkFar_34 : decode b_Mo_checkFar 34 = .ok (.iload_n 2, 1) := by decide +kernel
theorem d_Mo_checkFar_35 : decode b_Mo_checkFar 35 = .ok (.iaload, 1) := by decide +kernel
theorem d_Mo_checkFar_36 : decode b_Mo_checkFar 36 = .ok (.iconst 4, 1) := by decide +kernel
theorem d_Mo_checkFar_37 : decode b_Mo_checkFar 37 = .ok (.if_icmp .ne 96, 3) := by decide +kernel
theorem d_Mo_checkFar_40 : decode b_Mo_checkFar 40 = .ok (.aload_n 0, 1) := by decide +kernel
theorem d_Mo_checkFar_41 : decode b_Mo_checkFar 41 = .ok (.iload_n 1, 1) := by decide +kernel
theorem d_Mo_checkFar_42 : decode b_Mo_checkFar 42 = .ok (.invokevirtual 226, 3) := by decide +kernel
theorem d_Mo_checkFar_45 : decode b_Mo_checkFar 45 = .ok (.ifCond .ne 6, 3) := by decide +kernel
theorem d_Mo_checkFar_48 : decode b_Mo_checkFar 48 = .ok (.goto 85, 3) := by decide +kernel
theorem d_Mo_checkFar_51 : decode b_Mo_checkFar 51 = .ok (.aload_n 0, 1) := by decide +kernel
theorem d_Mo_checkFar_52 : decode b_Mo_checkFar 52 = .ok (.getfield 109, 3) := by decide +kernel
theorem d_Mo_checkFar_55 : decode b_Mo_checkFar 55 = .ok (.iload_n 2, 1) := by decide +kernel
theorem d_Mo_checkFar_56 : decode b_Mo_checkFar 56 = .ok (.iaload, 1) := by decide +kernel
theorem d_Mo_checkFar_57 : decode b_Mo_checkFar 57 = .ok (.iconst (-1), 1) := by decide +kernel
theorem d_Mo_checkFar_58 : decode b_Mo_checkFar 58 = .ok (.if_icmp .eq 39, 3) := by decide +kernel
theorem d_Mo_checkFar_61 : decode b_Mo_checkFar 61 = .ok (.aload_n 0, 1) := by decide +kernel
theorem d_Mo_checkFar_62 : decode b_Mo_checkFar 62 = .ok (.aload_n 0, 1) := by decide +kernel
theorem d_Mo_checkFar_63 : decode b_Mo_checkFar 63 = .ok (.getfield 109, 3) := by decide +kernel
theorem d_Mo_checkFar_66 : decode b_Mo_checkFar 66 = .ok (.iload_n 2, 1) := by decide +kernel
theorem d_Mo_checkFar_67 : decode b_Mo_checkFar 67 = .ok (.iaload, 1) := by decide +kernel
theorem d_Mo_checkFar_68 : decode b_Mo_checkFar 68 = .ok (.invokevirtual 279, 3) := by decide +kernel
theorem d_Mo_checkFar_71 : decode b_Mo_checkFar 71 = .ok (.i2l, 1) := by decide +kernel
theorem d_Mo_checkFar_72 : decode b_Mo_checkFar 72 = .ok (.aload_n 0, 1) := by decide +kernel
theorem d_Mo_checkFar_73 : decode b_Mo_checkFar 73 = .ok (.iload_n 2, 1) := by decide +kernel
theorem d_Mo_checkFar_74 : decode b_Mo_checkFar 74 = .ok (.invokevirtual 259, 3) := by decide +kernel
theorem d_Mo_checkFar_77 : decode b_Mo_checkFar 77 = .ok (.i2l, 1) := by decide +kernel
theorem d_Mo_checkFar_78 : decode b_Mo_checkFar 78 = .ok (.lsub, 1) := by decide +kernel
theorem d_Mo_checkFar_79 : decode b_Mo_checkFar 79 = .ok (.ldc2_w 250, 3) := by decide +kernel
theorem d_Mo_checkFar_82 : decode b_Mo_checkFar 82 = .ok (.lsub, 1) := by decide +kernel
theorem d_Mo_checkFar_83 : decode b_Mo_checkFar 83 = .ok (.invokestatic 262, 3) := by decide +kernel
theorem d_Mo_checkFar_86 : decode b_Mo_checkFar 86 = .ok (.ifCond .ne 7, 3) := by decide +kernel
theorem d_Mo_checkFar_89 : decode b_Mo_checkFar 89 = .ok (.iconst 1, 1) := by decide +kernel
theorem d_Mo_checkFar_90 : decode b_Mo_checkFar 90 = .ok (.goto 30, 3) := by decide +kernel
theorem d_Mo_checkFar_93 : decode b_Mo_checkFar 93 = .ok (.iconst 0, 1) := by decide +kernel
theorem d_Mo_checkFar_94 : decode b_Mo_checkFar 94 = .ok (.goto 26, 3) := by decide +kernel
theorem d_Mo_checkFar_97 : decode b_Mo_checkFar 97 = .ok (.aload_n 0, 1) := by decide +kernel
theorem d_Mo_checkFar_98 : decode b_Mo_checkFar 98 = .ok (.getfield 16, 3) := by decide +kernel
theorem d_Mo_checkFar_101 : decode b_Mo_checkFar 101 = .ok (.iload_n 1, 1) := by decide +kernel
theorem d_Mo_checkFar_102 : decode b_Mo_checkFar 102 = .ok (.iaload, 1) := by decide +kernel
theorem d_Mo_checkFar_103 : decode b_Mo_checkFar 103 = .ok (.iconst 1, 1) := by decide +kernel
theorem d_Mo_checkFar_104 : decode b_Mo_checkFar 104 = .ok (.if_icmp .ne 15, 3) := by decide +kernel
theorem d_Mo_checkFar_107 : decode b_Mo_checkFar 107 = .ok (.aload_n 0, 1) := by decide +kernel
theorem d_Mo_checkFar_108 : decode b_Mo_checkFar 108 = .ok (.iload_n 2, 1) := by decide +kernel
theorem d_Mo_checkFar_109 : decode b_Mo_checkFar 109 = .ok (.invokevirtual 266, 3) := by decide +kernel
theorem d_Mo_checkFar_112 : decode b_Mo_checkFar 112 = .ok (.ifCond .ne 7, 3) := by decide +kernel
theorem d_Mo_checkFar_115 : decode b_Mo_checkFar 115 = .ok (.iconst 1, 1) := by decide +kernel
theorem d_Mo_checkFar_116 : decode b_Mo_checkFar 116 = .ok (.goto 4, 3) := by decide +kernel
theorem d_Mo_checkFar_119 : decode b_Mo_checkFar 119 = .ok (.iconst 0, 1) := by decide +kernel
theorem d_Mo_checkFar_120 : decode b_Mo_checkFar 120 = .ok (.istore_n 3, 1) := by decide +kernel
theorem d_Mo_checkFar_121 : decode b_Mo_checkFar 121 = .ok (.iload_n 3, 1) := by decide +kernel
theorem d_Mo_checkFar_122 : decode b_Mo_checkFar 122 = .ok (.ifCond .eq 11, 3) := by decide +kernel
theorem d_Mo_checkFar_125 : decode b_Mo_checkFar 125 = .ok (.aload_n 0, 1) := by decide +kernel
theorem d_Mo_checkFar_126 : decode b_Mo_checkFar 126 = .ok (.iconst 3, 1) := by decide +kernel
theorem d_Mo_checkFar_127 : decode b_Mo_checkFar 127 = .ok (.iconst (-1), 1) := by decide +kernel
theorem d_Mo_checkFar_128 : decode b_Mo_checkFar 128 = .ok (.iload_n 2, 1) := by decide +kernel
theorem d_Mo_checkFar_129 : decode b_Mo_checkFar 129 = .ok (.invokevirtual 188, 3) := by decide +kernel
theorem d_Mo_checkFar_132 : decode b_Mo_checkFar 132 = .ok (.ireturn, 1) := by decide +kernel
theorem d_Mo_checkFar_133 : decode b_Mo_checkFar 133 = .ok (.iinc 2 1, 3) := by decide +kernel
theorem d_Mo_checkFar_136 : decode b_Mo_checkFar 136 = .ok (.goto (-124), 3) := by decide +kernel
theorem d_Mo_checkFar_139 : decode b_Mo_checkFar 139 = .ok (.iinc 1 1, 3) := by decide +kernel
theorem d_Mo_checkFar_142 : decode b_Mo_checkFar 142 = .ok (.goto (-140), 3) := by decide +kernel
theorem d_Mo_checkFar_145 : decode b_Mo_checkFar 145 = .ok (.iconst 1, 1) := by decide +kernel
theorem d_Mo_checkFar_146 : decode b_Mo_checkFar 146 = .ok (.ireturn, 1) := by decide +kernel
