theorem ml_Mo_163 : MLb R_Mo 163 y_Mo_newSymbol b_Mo_newSymbol 7 (some .int) 6 := ⟨(mw 1763 (by decide +kernel)), (mw 1760 (by decide +kernel)), (mw 95 (by decide +kernel)), by decide +kernel⟩
theorem mv_Mo_newSymbol : MLv y_Mo_newSymbol := ⟨(mw 1762 (by decide +kernel)), (mw 48 (by decide +kernel))⟩
theorem ks_400 : (Int16.ofInt 400).toInt32 = 400 := by decide
theorem ml_Mo_160 : MLb R_Mo 160 y_Mo_hasName b_Mo_hasName 6 (some .boolean) 3 := ⟨(mw 1759 (by decide +kernel)), (mw 1756 (by decide +kernel)), (mw 95 (by decide +kernel)), by decide +kernel⟩
theorem mv_Mo_hasName : MLv y_Mo_hasName := ⟨(mw 1758 (by decide +kernel)), (mw 47 (by decide +kernel))⟩
theorem ks_199 : (Int16.ofInt 199).toInt32 = 199 := by decide
theorem fl_Mo_54 : FL R_Mo 54 12 21 := ⟨R_Mo, F_Mo, N_Mo, rfl, by decide, i_Mo, (mw 1587 (by decide +kernel))⟩
theorem fl_Mo_167 : FL R_Mo 167 12 20 := ⟨R_Mo, F_Mo, N_Mo, rfl, by decide, i_Mo, (mw 1586 (by decide +kernel))⟩
theorem fl_Mo_57 : FL R_Mo 57 12 22 := ⟨R_Mo, F_Mo, N_Mo, rfl, by decide, i_Mo, (mw 1588 (by decide +kernel))⟩
theorem fl_Mo_60 : FL R_Mo 60 12 23 := ⟨R_Mo, F_Mo, N_Mo, rfl, by decide, i_Mo, (mw 1589 (by decide +kernel))⟩
theorem fl_Mo_63 : FL R_Mo 63 12 24 := ⟨R_Mo, F_Mo, N_Mo, rfl, by decide, i_Mo, (mw 1590 (by decide +kernel))⟩
theorem fl_Mo_66 : FL R_Mo 66 12 25 := ⟨R_Mo, F_Mo, N_Mo, rfl, by decide, i_Mo, (mw 1591 (by decide +kernel))⟩
theorem ft_Mo_20 : FT 12 20 .int := ⟨R_Mo, F_Mo, N_Mo, rfl, rfl, by decide +kernel⟩
theorem fl_Mo_69 : FL R_Mo 69 12 26 := ⟨R_Mo, F_Mo, N_Mo, rfl, by decide, i_Mo, (mw 1592 (by decide +kernel))⟩
theorem ft_Mo_26 : FT 12 26 .int := ⟨R_Mo, F_Mo, N_Mo, rfl, rfl, by decide +kernel⟩
theorem fl_Mo_170 : FL R_Mo 170 12 27 := ⟨R_Mo, F_Mo, N_Mo, rfl, by decide, i_Mo, (mw 1593 (by decide +kernel))⟩
theorem ft_Mo_27 : FT 12 27 .boolean := ⟨R_Mo, F_Mo, N_Mo, rfl, rfl, by decide +kernel⟩
theorem fl_Mo_173 : FL R_Mo 173 12 28 := ⟨R_Mo, F_Mo, N_Mo, rfl, by decide, i_Mo, (mw 1594 (by decide +kernel))⟩
theorem ft_Mo_28 : FT 12 28 .boolean := ⟨R_Mo, F_Mo, N_Mo, rfl, rfl, by decide +kernel⟩
theorem fl_Mo_79 : FL R_Mo 79 12 36 := ⟨R_Mo, F_Mo, N_Mo, rfl, by decide, i_Mo, (mw 1602 (by decide +kernel))⟩
theorem d_Mo_symbol_0 : decode b_Mo_symbol 0 = .ok (.iload_n 1, 1) := by decide +kernel
theorem d_Mo_symbol_1 : decode b_Mo_symbol 1 = .ok (.iconst 0, 1) := by decide +kernel
theorem d_Mo_symbol_2 : decode b_Mo_symbol 2 = .ok (.aload_n 0, 1) := by decide +kernel
theorem d_Mo_symbol_3 : decode b_Mo_symbol 3 = .ok (.getfield 143, 3) := by decide +kernel
theorem d_Mo_symbol_6 : decode b_Mo_symbol 6 = .ok (.iconst 1, 1) := by decide +kernel
theorem d_Mo_symbol_7 : decode b_Mo_symbol 7 = .ok (.isub, 1) := by decide +kernel
theorem d_Mo_symbol_8 : decode b_Mo_symbol 8 = .ok (.invokestatic 125, 3) := by decide +kernel
theorem d_Mo_symbol_11 : decode b_Mo_symbol 11 = .ok (.ifCond .eq 58, 3) := by decide +kernel
theorem d_Mo_symbol_14 : decode b_Mo_symbol 14 = .ok (.iload_n 2, 1) := by decide +kernel
theorem d_Mo_symbol_15 : decode b_Mo_symbol 15 = .ok (.iconst 0, 1) := by decide +kernel
theorem d_Mo_symbol_16 : decode b_Mo_symbol 16 = .ok (.iload_n 1, 1) := by decide +kernel
theorem d_Mo_symbol_17 : decode b_Mo_symbol 17 = .ok (.ifCond .lt 20, 3) := by decide +kernel
theorem d_Mo_symbol_20 : decode b_Mo_symbol 20 = .ok (.iload_n 1, 1) := by decide +kernel
theorem d_Mo_symbol_21 : decode b_Mo_symbol 21 = .ok (.aload_n 0, 1) := by decide +kernel
theorem d_Mo_symbol_22 : decode b_Mo_symbol 22 = .ok (.getfield 143, 3) := by decide +kernel
theorem d_Mo_symbol_25 : decode b_Mo_symbol 25 = .ok (.if_icmp .ge 12, 3) := by decide +kernel
theorem d_Mo_symbol_28 : decode b_Mo_symbol 28 = .ok (.aload_n 0, 1) := by decide +kernel
theorem d_Mo_symbol_29 : decode b_Mo_symbol 29 = .ok (.getfield 19, 3) := by decide +kernel
theorem d_Mo_symbol_32 : decode b_Mo_symbol 32 = .ok (.iload_n 1, 1) := by decide +kernel
theorem d_Mo_symbol_33 : decode b_Mo_symbol 33 = .ok (.iaload, 1) := by decide +kernel
theorem d_Mo_symbol_34 : decode b_Mo_symbol 34 = .ok (.goto 4, 3) := by decide +kernel
theorem d_Mo_symbol_37 : decode b_Mo_symbol 37 = .ok (.iconst 0, 1) := by decide +kernel
theorem d_Mo_symbol_38 : decode b_Mo_symbol 38 = .ok (.invokestatic 125, 3) := by decide +kernel
theorem d_Mo_symbol_41 : decode b_Mo_symbol 41 = .ok (.ifCond .eq 28, 3) := by decide +kernel
theorem d_Mo_symbol_44 : decode b_Mo_symbol 44 = .ok (.iload_n 3, 1) := by decide +kernel
theorem d_Mo_symbol_45 : decode b_Mo_symbol 45 = .ok (.iconst 0, 1) := by decide +kernel
theorem d_Mo_symbol_46 : decode b_Mo_symbol 46 = .ok (.sipush 199, 3) := by decide +kernel
theorem d_Mo_symbol_49 : decode b_Mo_symbol 49 = .ok (.invokestatic 125, 3) := by decide +kernel
theorem d_Mo_symbol_52 : decode b_Mo_symbol 52 = .ok (.ifCond .eq 17, 3) := by decide +kernel
theorem d_Mo_symbol_55 : decode b_Mo_symbol 55 = .ok (.iload 4, 2) := by decide +kernel
theorem d_Mo_symbol_57 : decode b_Mo_symbol 57 = .ok (.iconst 0, 1) := by decide +kernel
theorem d_Mo_symbol_58 : decode b_Mo_symbol 58 = .ok (.iconst 2, 1) := by decide +kernel
theorem d_Mo_symbol_59 : decode b_Mo_symbol 59 = .ok (.invokestatic 125, 3) := by decide +kernel
theorem d_Mo_symbol_62 : decode b_Mo_symbol 62 = .ok (.ifCond .eq 7, 3) := by decide +kernel
theorem d_Mo_symbol_65 : decode b_Mo_symbol 65 = .ok (.iconst 1, 1) := by decide +kernel
theorem d_Mo_symbol_66 : decode b_Mo_symbol 66 = .ok (.goto 4, 3) := by decide +kernel
theorem d_Mo_symbol_69 : decode b_Mo_symbol 69 = .ok (.iconst 0, 1) := by decide +kernel
theorem d_Mo_symbol_70 : decode b_Mo_symbol 70 = .ok (.istore 5, 2) := by decide +kernel
theorem d_Mo_symbol_72 : decode b_Mo_symbol 72 = .ok (.iload 5, 2) := by decide +kernel
theorem d_Mo_symbol_74 : decode b_Mo_symbol 74 = .ok (.ifCond .eq 23, 3) := by decide +kernel
theorem d_Mo_symbol_77 : decode b_Mo_symbol 77 = .ok (.aload_n 0, 1) := by decide +kernel
theorem d_Mo_symbol_78 : decode b_Mo_symbol 78 = .ok (.aload_n 0, 1) := by decide +kernel
theorem d_Mo_symbol_79 : decode b_Mo_symbol 79 = .ok (.getfield 13, 3) := by decide +kernel
theorem d_Mo_symbol_82 : decode b_Mo_symbol 82 = .ok (.iload_n 1, 1) := by decide +kernel
theorem d_Mo_symbol_83 : decode b_Mo_symbol 83 = .ok (.iaload, 1) := by decide +kernel
theorem d_Mo_symbol_84 : decode b_Mo_symbol 84 = .ok (.iload_n 3, 1) := by decide +kernel
theorem d_Mo_symbol_85 : decode b_Mo_symbol 85 = .ok (.iload 4, 2) := by decide +kernel
theorem d_Mo_symbol_87 : decode b_Mo_symbol 87 = .ok (.invokevirtual 160, 3) := by decide +kernel
theorem d_Mo_symbol_90 : decode b_Mo_symbol 90 = .ok (.ifCond .ne 7, 3) := by decide +kernel
theorem d_Mo_symbol_93 : decode b_Mo_symbol 93 = .ok (.iconst 1, 1) := by decide +kernel
theorem d_Mo_symbol_94 : decode b_Mo_symbol 94 = .ok (.goto 4, 3) := by decide +kernel
theorem d_Mo_symbol_97 : decode b_Mo_symbol 97 = .ok (.iconst 0, 1) := by decide +kernel
theorem d_Mo_symbol_98 : decode b_Mo_symbol 98 = .ok (.istore 5, 2) := by decide +kernel
theorem d_Mo_symbol_100 : decode b_Mo_symbol 100 = .ok (.aload_n 0, 1) := by decide +kernel
theorem d_Mo_symbol_101 : decode b_Mo_symbol 101 = .ok (.iload 5, 2) := by decide +kernel
theorem d_Mo_symbol_103 : decode b_Mo_symbol 103 = .ok (.ifCond .ne 7, 3) := by decide +kernel
theorem d_Mo_symbol_106 : decode b_Mo_symbol 106 = .ok (.iconst 1, 1) := by decide +kernel
theorem d_Mo_symbol_107 : decode b_Mo_symbol 107 = .ok (.goto 4, 3) := by decide +kernel
theorem d_Mo_symbol_110 : decode b_Mo_symbol 110 = .ok (.iconst 0, 1) := by decide +kernel
theorem d_Mo_symbol_111 : decode b_Mo_symbol 111 = .ok (.iload 5, 2) := by decide +kernel
theorem d_Mo_symbol_113 : decode b_Mo_symbol 113 = .ok (.ifCond .eq 17, 3) := by decide +kernel
theorem d_Mo_symbol_116 : decode b_Mo_symbol 116 = .ok (.aload_n 0, 1) := by decide +kernel
theorem d_Mo_symbol_117 : decode b_Mo_symbol 117 = .ok (.getfield 157, 3) := by decide +kernel
theorem d_Mo_symbol_120 : decode b_Mo_symbol 120 = .ok (.sipush 400, 3) := by decide +kernel
theorem d_Mo_symbol_123 : decode b_Mo_symbol 123 = .ok (.if_icmp .ne 7, 3) := by decide +kernel
theorem d_Mo_symbol_126 : decode b_Mo_symbol 126 = .ok (.iconst 1, 1) := by decide +kernel
theorem d_Mo_symbol_127 : decode b_Mo_symbol 127 = .ok (.goto 4, 3) := by decide +kernel
theorem d_Mo_symbol_130 : decode b_Mo_symbol 130 = .ok (.iconst 0, 1) := by decide +kernel
theorem d_Mo_symbol_131 : decode b_Mo_symbol 131 = .ok (.invokevirtual 132, 3) := by decide +kernel
theorem d_Mo_symbol_134 : decode b_Mo_symbol 134 = .ok (.ifCond .eq 5, 3) := by decide +kernel
theorem d_Mo_symbol_137 : decode b_Mo_symbol 137 = .ok (.iconst 0, 1) := by decide +kernel
theorem d_Mo_symbol_138 : decode b_Mo_symbol 138 = .ok (.ireturn, 1) := by decide +kernel
theorem d_Mo_symbol_139 : decode b_Mo_symbol 139 = .ok (.aload_n 0, 1) := by decide +kernel
theorem d_Mo_symbol_140 : decode b_Mo_symbol 140 = .ok (.aload_n 0, 1) := by decide +kernel
theorem d_Mo_symbol_141 : decode b_Mo_symbol 141 = .ok (.getfield 13, 3) := by decide +kernel
theorem d_Mo_symbol_144 : decode b_Mo_symbol 144 = .ok (.iload_n 1, 1) := by decide +kernel
theorem d_Mo_symbol_145 : decode b_Mo_symbol 145 = .ok (.iaload, 1) := by decide +kernel
theorem d_Mo_symbol_146 : decode b_Mo_symbol 146 = .ok (.iconst 0, 1) := by decide +kernel
theorem d_Mo_symbol_147 : decode b_Mo_symbol 147 = .ok (.iload_n 1, 1) := by decide +kernel
theorem d_Mo_symbol_148 : decode b_Mo_symbol 148 = .ok (.iload_n 2, 1) := by decide +kernel
theorem d_Mo_symbol_149 : decode b_Mo_symbol 149 = .ok (.iload_n 3, 1) := by decide +kernel
theorem d_Mo_symbol_150 : decode b_Mo_symbol 150 = .ok (.iload 4, 2) := by decide +kernel
theorem d_Mo_symbol_152 : decode b_Mo_symbol 152 = .ok (.invokevirtual 163, 3) := by decide +kernel
theorem d_Mo_symbol_155 : decode b_Mo_symbol 155 = .ok (.ireturn, 1) := by decide +kernel
theorem d_Mo_other_0 : decode b_Mo_other 0 = .ok (.iload_n 1, 1) := by decide +kernel
theorem d_Mo_other_1 : decode b_Mo_other 1 = .ok (.iconst 0, 1) := by decide +kernel
theorem d_Mo_other_2 : decode b_Mo_other 2 = .ok (.aload_n 0, 1) := by decide +kernel
theorem d_Mo_other_3 : decode b_Mo_other 3 = .ok (.getfield 129, 3) := by decide +kernel
theorem d_Mo_other_6 : decode b_Mo_other 6 = .ok (.iconst 1, 1) := by decide +kernel
theorem d_Mo_other_7 : decode b_Mo_other 7 = .ok (.isub, 1) := by decide +kernel
theorem d_Mo_other_8 : decode b_Mo_other 8 = .ok (.invokestatic 125, 3) := by decide +kernel
theorem d_Mo_other_11 : decode b_Mo_other 11 = .ok (.ifCond .eq 28, 3) := by decide +kernel
theorem d_Mo_other_14 : decode b_Mo_other 14 = .ok (.iload_n 2, 1) := by decide +kernel
theorem d_Mo_other_15 : decode b_Mo_other 15 = .ok (.iconst 0, 1) := by decide +kernel
theorem d_Mo_other_16 : decode b_Mo_other 16 = .ok (.iconst 2, 1) := by decide +kernel
theorem d_Mo_other_17 : decode b_Mo_other 17 = .ok (.invokestatic 125, 3) := by decide +kernel
theorem d_Mo_other_20 : decode b_Mo_other 20 = .ok (.ifCond .eq 19, 3) := by decide +kernel
theorem d_Mo_other_23 : decode b_Mo_other 23 = .ok (.iload 4, 2) := by decide +kernel
theorem d_Mo_other_25 : decode b_Mo_other 25 = .ok (.iconst 0, 1) := by decide +kernel
theorem d_Mo_other_26 : decode b_Mo_other 26 = .ok (.sipush 199, 3) := by decide +kernel
theorem d_Mo_other_29 : decode b_Mo_other 29 = .ok (.invokestatic 125, 3) := by decide +kernel
theorem d_Mo_other_32 : decode b_Mo_other 32 = .ok (.ifCond .eq 7, 3) := by decide +kernel
theorem d_Mo_other_35 : decode b_Mo_other 35 = .ok (.iconst 1, 1) := by decide +kernel
theorem d_Mo_other_36 : decode b_Mo_other 36 = .ok (.goto 4, 3) := by decide +kernel
theorem d_Mo_other_39 : decode b_Mo_other 39 = .ok (.iconst 0, 1) := by decide +kernel
theorem d_Mo_other_40 : decode b_Mo_other 40 = .ok (.istore 6, 2) := by decide +kernel
theorem d_Mo_other_42 : decode b_Mo_other 42 = .ok (.iload 6, 2) := by decide +kernel
theorem d_Mo_other_44 : decode b_Mo_other 44 = .ok (.ifCond .eq 65, 3) := by decide +kernel
theorem d_Mo_other_47 : decode b_Mo_other 47 = .ok (.iload_n 2, 1) := by decide +kernel
theorem d_Mo_other_48 : decode b_Mo_other 48 = .ok (.ifCond .ne 16, 3) := by decide +kernel
theorem d_Mo_other_51 : decode b_Mo_other 51 = .ok (.iload 5, 2) := by decide +kernel
theorem d_Mo_other_53 : decode b_Mo_other 53 = .ok (.iconst 1, 1) := by decide +kernel
theorem d_Mo_other_54 : decode b_Mo_other 54 = .ok (.iconst 2, 1) := by decide +kernel
theorem d_Mo_other_55 : decode b_Mo_other 55 = .ok (.invokestatic 125, 3) := by decide +kernel
theorem d_Mo_other_58 : decode b_Mo_other 58 = .ok (.ifCond .eq 51, 3) := by decide +kernel
theorem d_Mo_other_61 : decode b_Mo_other 61 = .ok (.goto 44, 3) := by decide +kernel
theorem d_Mo_other_64 : decode b_Mo_other 64 = .ok (.iload_n 2, 1) := by decide +kernel
theorem d_Mo_other_65 : decode b_Mo_other 65 = .ok (.iconst 1, 1) := by decide +kernel
theorem d_Mo_other_66 : decode b_Mo_other 66 = .ok (.if_icmp .ne 16, 3) := by decide +kernel
theorem d_Mo_other_69 : decode b_Mo_other 69 = .ok (.iload 5, 2) := by decide +kernel
theorem d_Mo_other_71 : decode b_Mo_other 71 = .ok (.iconst 0, 1) := by decide +kernel
theorem d_Mo_other_72 : decode b_Mo_other 72 = .ok (.iconst 2, 1) := by decide +kernel
theorem d_Mo_other_73 : decode b_Mo_other 73 = .ok (.invokestatic 125, 3) := by decide +kernel
theorem d_Mo_other_76 : decode b_Mo_other 76 = .ok (.ifCond .eq 33, 3) := by decide +kernel
theorem d_Mo_other_79 : decode b_Mo_other 79 = .ok (.goto 26, 3) := by decide +kernel
theorem d_Mo_other_82 : decode b_Mo_other 82 = .ok (.iload 5, 2) := by decide +kernel
theorem d_Mo_other_84 : decode b_Mo_other 84 = .ok (.iconst 3, 1) := by decide +kernel
theorem d_Mo_other_85 : decode b_Mo_other 85 = .ok (.if_icmp .ne 24, 3) := by decide +kernel
theorem d_Mo_other_88 : decode b_Mo_other 88 = .ok (.iload_n 3, 1) := by decide +kernel
theorem d_Mo_other_89 : decode b_Mo_other 89 = .ok (.iconst 4, 1) := by decide +kernel
theorem d_Mo_other_90 : decode b_Mo_other 90 = .ok (.sipush 8192, 3) := by decide +kernel
theorem d_Mo_other_93 : decode b_Mo_other 93 = .ok (.invokestatic 125, 3) := by decide +kernel
theorem d_Mo_other_96 : decode b_Mo_other 96 = .ok (.ifCond .eq 13, 3) := by decide +kernel
theorem d_Mo_other_99 : decode b_Mo_other 99 = .ok (.iload_n 3, 1) := by decide +kernel
theorem d_Mo_other_100 : decode b_Mo_other 100 = .ok (.iconst 4, 1) := by decide +kernel
theorem d_Mo_other_101 : decode b_Mo_other 101 = .ok (.irem, 1) := by decide +kernel
theorem d_Mo_other_102 : decode b_Mo_other 102 = .ok (.ifCond .ne 7, 3) := by decide +kernel
theorem d_Mo_other_105 : decode b_Mo_other 105 = .ok (.iconst 1, 1) := by decide +kernel
theorem d_Mo_other_106 : decode b_Mo_other 106 = .ok (.goto 4, 3) := by decide +kernel
theorem d_Mo_other_109 : decode b_Mo_other 109 = .ok (.iconst 0, 1) := by decide +kernel
theorem d_Mo_other_110 : decode b_Mo_other 110 = .ok (.istore 6, 2) := by decide +kernel
theorem d_Mo_other_112 : decode b_Mo_other 112 = .ok (.iload 6, 2) := by decide +kernel
theorem d_Mo_other_114 : decode b_Mo_other 114 = .ok (.ifCond .eq 19, 3) := by decide +kernel
theorem d_Mo_other_117 : decode b_Mo_other 117 = .ok (.aload_n 0, 1) := by decide +kernel
theorem d_Mo_other_118 : decode b_Mo_other 118 = .ok (.iload_n 1, 1) := by decide +kernel
theorem d_Mo_other_119 : decode b_Mo_other 119 = .ok (.iload 4, 2) := by decide +kernel
theorem d_Mo_other_121 : decode b_Mo_other 121 = .ok (.iload 5, 2) := by decide +kernel
theorem d_Mo_other_123 : decode b_Mo_other 123 = .ok (.invokevirtual 160, 3) := by decide +kernel
theorem d_Mo_other_126 : decode b_Mo_other 126 = .ok (.ifCond .ne 7, 3) := by decide +kernel
theorem d_Mo_other_129 : decode b_Mo_other 129 = .ok (.iconst 1, 1) := by decide +kernel
theorem d_Mo_other_130 : decode b_Mo_other 130 = .ok (.goto 4, 3) := by decide +kernel
theorem d_Mo_other_133 : decode b_Mo_other 133 = .ok (.iconst 0, 1) := by decide +kernel
theorem d_Mo_other_134 : decode b_Mo_other 134 = .ok (.istore 6, 2) := by decide +kernel
theorem d_Mo_other_136 : decode b_Mo_other 136 = .ok (.aload_n 0, 1) := by decide +kernel
theorem d_Mo_other_137 : decode b_Mo_other 137 = .ok (.iload 6, 2) := by decide +kernel
theorem d_Mo_other_139 : decode b_Mo_other 139 = .ok (.ifCond .ne 7, 3) := by decide +kernel
theorem d_Mo_other_142 : decode b_Mo_other 142 = .ok (.iconst 1, 1) := by decide +kernel
theorem d_Mo_other_143 : decode b_Mo_other 143 = .ok (.goto 4, 3) := by decide +kernel
theorem d_Mo_other_146 : decode b_Mo_other 146 = .ok (.iconst 0, 1) := by decide +kernel
theorem d_Mo_other_147 : decode b_Mo_other 147 = .ok (.iload 6, 2) := by decide +kernel
theorem d_Mo_other_149 : decode b_Mo_other 149 = .ok (.ifCond .eq 17, 3) := by decide +kernel
theorem d_Mo_other_152 : decode b_Mo_other 152 = .ok (.aload_n 0, 1) := by decide +kernel
theorem d_Mo_other_153 : decode b_Mo_other 153 = .ok (.getfield 157, 3) := by decide +kernel
theorem d_Mo_other_156 : decode b_Mo_other 156 = .ok (.sipush 400, 3) := by decide +kernel
theorem d_Mo_other_159 : decode b_Mo_other 159 = .ok (.if_icmp .ne 7, 3) := by decide +kernel
theorem d_Mo_other_162 : decode b_Mo_other 162 = .ok (.iconst 1, 1) := by decide +kernel
theorem d_Mo_other_163 : decode b_Mo_other 163 = .ok (.goto 4, 3) := by decide +kernel
theorem d_Mo_other_166 : decode b_Mo_other 166 = .ok (.iconst 0, 1) := by decide +kernel
theorem d_Mo_other_167 : decode b_Mo_other 167 = .ok (.invokevirtual 132, 3) := by decide +kernel
theorem d_Mo_other_170 : decode b_Mo_other 170 = .ok (.ifCond .eq 5, 3) := by decide +kernel
theorem d_Mo_other_173 : decode b_Mo_other 173 = .ok (.iconst 0, 1) := by decide +kernel
theorem d_Mo_other_174 : decode b_Mo_other 174 = .ok (.ireturn, 1) := by decide +kernel
theorem d_Mo_other_175 : decode b_Mo_other 175 = .ok (.aload_n 0, 1) := by decide +kernel
theorem d_Mo_other_176 : decode b_Mo_other 176 = .ok (.iload_n 1, 1) := by decide +kernel
theorem d_Mo_other_177 : decode b_Mo_other 177 = .ok (.iload_n 2, 1) := by decide +kernel
theorem d_Mo_other_178 : decode b_Mo_other 178 = .ok (.ifCond .ne 7, 3) := by decide +kernel
theorem d_Mo_other_181 : decode b_Mo_other 181 = .ok (.iconst 1, 1) := by decide +kernel
theorem d_Mo_other_182 : decode b_Mo_other 182 = .ok (.goto 13, 3) := by decide +kernel
theorem d_Mo_other_185 : decode b_Mo_other 185 = .ok (.iload_n 2, 1) := by decide +kernel
theorem d_Mo_other_186 : decode b_Mo_other 186 = .ok (.iconst 1, 1) := by decide +kernel
theorem d_Mo_other_187 : decode b_Mo_other 187 = .ok (.if_icmp .ne 7, 3) := by decide +kernel
theorem d_Mo_other_190 : decode b_Mo_other 190 = .ok (.iconst 2, 1) := by decide +kernel
theorem d_Mo_other_191 : decode b_Mo_other 191 = .ok (.goto 4, 3) := by decide +kernel
theorem d_Mo_other_194 : decode b_Mo_other 194 = .ok (.iconst 3, 1) := by decide +kernel
theorem d_Mo_other_195 : decode b_Mo_other 195 = .ok (.iconst (-1), 1) := by decide +kernel
theorem d_Mo_other_196 : decode b_Mo_other 196 = .ok (.iload_n 3, 1) := by decide +kernel
theorem d_Mo_other_197 : decode b_Mo_other 197 = .ok (.iload 4, 2) := by decide +kernel
theorem d_Mo_other_199 : decode b_Mo_other 199 = .ok (.iload 5, 2) := by decide +kernel
theorem d_Mo_other_201 : decode b_Mo_other 201 = .ok (.invokevirtual 163, 3) := by decide +kernel
theorem d_Mo_other_204 : decode b_Mo_other 204 = .ok (.ireturn, 1) := by decide +kernel
theorem d_Mo_relocation_0 : decode b_Mo_relocation 0 = .ok (.aload_n 0, 1) := by decide +kernel
theorem d_Mo_relocation_1 : decode b_Mo_relocation 1 = .ok (.iload_n 1, 1) := by decide +kernel
theorem d_Mo_relocation_2 : decode b_Mo_relocation 2 = .ok (.iload_n 2, 1) := by decide +kernel
theorem d_Mo_relocation_3 : decode b_Mo_relocation 3 = .ok (.invokevirtual 153, 3) := by decide +kernel
theorem d_Mo_relocation_6 : decode b_Mo_relocation 6 = .ok (.ifCond .eq 31, 3) := by decide +kernel
theorem d_Mo_relocation_9 : decode b_Mo_relocation 9 = .ok (.iload_n 3, 1) := by decide +kernel
theorem d_Mo_relocation_10 : decode b_Mo_relocation 10 = .ok (.iconst 0, 1) := by decide +kernel
theorem d_Mo_relocation_11 : decode b_Mo_relocation 11 = .ok (.iconst 5, 1) := by decide +kernel
theorem d_Mo_relocation_12 : decode b_Mo_relocation 12 = .ok (.invokestatic 125, 3) := by decide +kernel
theorem d_Mo_relocation_15 : decode b_Mo_relocation 15 = .ok (.ifCond .eq 22, 3) := by decide +kernel
theorem d_Mo_relocation_18 : decode b_Mo_relocation 18 = .ok (.iload 4, 2) := by decide +kernel
theorem d_Mo_relocation_20 : decode b_Mo_relocation 20 = .ok (.iconst 0, 1) := by decide +kernel
theorem d_Mo_relocation_21 : decode b_Mo_relocation 21 = .ok (.aload_n 0, 1) := by decide +kernel
theorem d_Mo_relocation_22 : decode b_Mo_relocation 22 = .ok (.getfield 157, 3) := by decide +kernel
theorem d_Mo_relocation_25 : decode b_Mo_relocation 25 = .ok (.iconst 1, 1) := by decide +kernel
theorem d_Mo_relocation_26 : decode b_Mo_relocation 26 = .ok (.isub, 1) := by decide +kernel
theorem d_Mo_relocation_27 : decode b_Mo_relocation 27 = .ok (.invokestatic 125, 3) := by decide +kernel
theorem d_Mo_relocation_30 : decode b_Mo_relocation 30 = .ok (.ifCond .eq 7, 3) := by decide +kernel
theorem d_Mo_relocation_33 : decode b_Mo_relocation 33 = .ok (.iconst 1, 1) := by decide +kernel
theorem d_Mo_relocation_34 : decode b_Mo_relocation 34 = .ok (.goto 4, 3) := by decide +kernel
theorem d_Mo_relocation_37 : decode b_Mo_relocation 37 = .ok (.iconst 0, 1) := by decide +kernel
theorem d_Mo_relocation_38 : decode b_Mo_relocation 38 = .ok (.istore 6, 2) := by decide +kernel
theorem d_Mo_relocation_40 : decode b_Mo_relocation 40 = .ok (.iload 6, 2) := by decide +kernel
theorem d_Mo_relocation_42 : decode b_Mo_relocation 42 = .ok (.ifCond .eq 23, 3) := by decide +kernel
theorem d_Mo_relocation_45 : decode b_Mo_relocation 45 = .ok (.aload_n 0, 1) := by decide +kernel
theorem d_Mo_relocation_46 : decode b_Mo_relocation 46 = .ok (.getfield 36, 3) := by decide +kernel
theorem d_Mo_relocation_49 : decode b_Mo_relocation 49 = .ok (.iload 4, 2) := by decide +kernel
theorem d_Mo_relocation_51 : decode b_Mo_relocation 51 = .ok (.iaload, 1) := by decide +kernel
theorem d_Mo_relocation_52 : decode b_Mo_relocation 52 = .ok (.aload_n 0, 1) := by decide +kernel
theorem d_Mo_relocation_53 : decode b_Mo_relocation 53 = .ok (.getfield 13, 3) := by decide +kernel
theorem d_Mo_relocation_56 : decode b_Mo_relocation 56 = .ok (.iload_n 1, 1) := by decide +kernel
theorem d_Mo_relocation_57 : decode b_Mo_relocation 57 = .ok (.iaload, 1) := by decide +kernel
theorem d_Mo_relocation_58 : decode b_Mo_relocation 58 = .ok (.if_icmp .ne 7, 3) := by decide +kernel
theorem d_Mo_relocation_61 : decode b_Mo_relocation 61 = .ok (.iconst 1, 1) := by decide +kernel
theorem d_Mo_relocation_62 : decode b_Mo_relocation 62 = .ok (.goto 4, 3) := by decide +kernel
theorem d_Mo_relocation_65 : decode b_Mo_relocation 65 = .ok (.iconst 0, 1) := by decide +kernel
theorem d_Mo_relocation_66 : decode b_Mo_relocation 66 = .ok (.istore 6, 2) := by decide +kernel
theorem d_Mo_relocation_68 : decode b_Mo_relocation 68 = .ok (.aload_n 0, 1) := by decide +kernel
theorem d_Mo_relocation_69 : decode b_Mo_relocation 69 = .ok (.iload 6, 2) := by decide +kernel
theorem d_Mo_relocation_71 : decode b_Mo_relocation 71 = .ok (.ifCond .ne 7, 3) := by decide +kernel
theorem d_Mo_relocation_74 : decode b_Mo_relocation 74 = .ok (.iconst 1, 1) := by decide +kernel
theorem d_Mo_relocation_75 : decode b_Mo_relocation 75 = .ok (.goto 4, 3) := by decide +kernel
theorem d_Mo_relocation_78 : decode b_Mo_relocation 78 = .ok (.iconst 0, 1) := by decide +kernel
theorem d_Mo_relocation_79 : decode b_Mo_relocation 79 = .ok (.iload 6, 2) := by decide +kernel
theorem d_Mo_relocation_81 : decode b_Mo_relocation 81 = .ok (.ifCond .eq 17, 3) := by decide +kernel
theorem d_Mo_relocation_84 : decode b_Mo_relocation 84 = .ok (.aload_n 0, 1) := by decide +kernel
theorem d_Mo_relocation_85 : decode b_Mo_relocation 85 = .ok (.getfield 167, 3) := by decide +kernel
theorem d_Mo_relocation_88 : decode b_Mo_relocation 88 = .ok (.sipush 600, 3) := by decide +kernel
theorem d_Mo_relocation_91 : decode b_Mo_relocation 91 = .ok (.if_icmp .ne 7, 3) := by decide +kernel
theorem d_Mo_relocation_94 : decode b_Mo_relocation 94 = .ok (.iconst 1, 1) := by decide +kernel
theorem d_Mo_relocation_95 : decode b_Mo_relocation 95 = .ok (.goto 4, 3) := by decide +kernel
theorem d_Mo_relocation_98 : decode b_Mo_relocation 98 = .ok (.iconst 0, 1) := by decide +kernel
theorem d_Mo_relocation_99 : decode b_Mo_relocation 99 = .ok (.invokevirtual 132, 3) := by decide +kernel
theorem d_Mo_relocation_102 : decode b_Mo_relocation 102 = .ok (.ifCond .eq 5, 3) := by decide +kernel
theorem d_Mo_relocation_105 : decode b_Mo_relocation 105 = .ok (.iconst 0, 1) := by decide +kernel
theorem d_Mo_relocation_106 : decode b_Mo_relocation 106 = .ok (.ireturn, 1) := by decide +kernel
theorem d_Mo_relocation_107 : decode b_Mo_relocation 107 = .ok (.aload_n 0, 1) := by decide +kernel
theorem d_Mo_relocation_108 : decode b_Mo_relocation 108 = .ok (.invokevirtual 136, 3) := by decide +kernel
theorem d_Mo_relocation_111 : decode b_Mo_relocation 111 = .ok (.aload_n 0, 1) := by decide +kernel
theorem d_Mo_relocation_112 : decode b_Mo_relocation 112 = .ok (.getfield 54, 3) := by decide +kernel
theorem d_Mo_relocation_115 : decode b_Mo_relocation 115 = .ok (.aload_n 0, 1) := by decide +kernel
theorem d_Mo_relocation_116 : decode b_Mo_relocation 116 = .ok (.getfield 167, 3) := by decide +kernel
theorem d_Mo_relocation_119 : decode b_Mo_relocation 119 = .ok (.iload_n 1, 1) := by decide +kernel
theorem d_Mo_relocation_120 : decode b_Mo_relocation 120 = .ok (.iastore, 1) := by decide +kernel
theorem d_Mo_relocation_121 : decode b_Mo_relocation 121 = .ok (.aload_n 0, 1) := by decide +kernel
theorem d_Mo_relocation_122 : decode b_Mo_relocation 122 = .ok (.getfield 57, 3) := by decide +kernel
theorem d_Mo_relocation_125 : decode b_Mo_relocation 125 = .ok (.aload_n 0, 1) := by decide +kernel
theorem d_Mo_relocation_126 : decode b_Mo_relocation 126 = .ok (.getfield 167, 3) := by decide +kernel
theorem d_Mo_relocation_129 : decode b_Mo_relocation 129 = .ok (.iload_n 2, 1) := by decide +kernel
theorem d_Mo_relocation_130 : decode b_Mo_relocation 130 = .ok (.iastore, 1) := by decide +kernel
theorem d_Mo_relocation_131 : decode b_Mo_relocation 131 = .ok (.aload_n 0, 1) := by decide +kernel
theorem d_Mo_relocation_132 : decode b_Mo_relocation 132 = .ok (.getfield 60, 3) := by decide +kernel
theorem d_Mo_relocation_135 : decode b_Mo_relocation 135 = .ok (.aload_n 0, 1) := by decide +kernel
theorem d_Mo_relocation_136 : decode b_Mo_relocation 136 = .ok (.getfield 167, 3) := by decide +kernel
theorem d_Mo_relocation_139 : decode b_Mo_relocation 139 = .ok (.iload_n 3, 1) := by decide +kernel
theorem d_Mo_relocation_140 : decode b_Mo_relocation 140 = .ok (.iastore, 1) := by decide +kernel
theorem d_Mo_relocation_141 : decode b_Mo_relocation 141 = .ok (.aload_n 0, 1) := by decide +kernel
theorem d_Mo_relocation_142 : decode b_Mo_relocation 142 = .ok (.getfield 63, 3) := by decide +kernel
theorem d_Mo_relocation_145 : decode b_Mo_relocation 145 = .ok (.aload_n 0, 1) := by decide +kernel
theorem d_Mo_relocation_146 : decode b_Mo_relocation 146 = .ok (.getfield 167, 3) := by decide +kernel
theorem d_Mo_relocation_149 : decode b_Mo_relocation 149 = .ok (.iload 4, 2) := by decide +kernel
theorem d_Mo_relocation_151 : decode b_Mo_relocation 151 = .ok (.iastore, 1) := by decide +kernel
theorem d_Mo_relocation_152 : decode b_Mo_relocation 152 = .ok (.aload_n 0, 1) := by decide +kernel
theorem d_Mo_relocation_153 : decode b_Mo_relocation 153 = .ok (.getfield 66, 3) := by decide +kernel
theorem d_Mo_relocation_156 : decode b_Mo_relocation 156 = .ok (.aload_n 0, 1) := by decide +kernel
theorem d_Mo_relocation_157 : decode b_Mo_relocation 157 = .ok (.getfield 167, 3) := by decide +kernel
theorem d_Mo_relocation_160 : decode b_Mo_relocation 160 = .ok (.iload 5, 2) := by decide +kernel
theorem d_Mo_relocation_162 : decode b_Mo_relocation 162 = .ok (.iastore, 1) := by decide +kernel
theorem d_Mo_relocation_163 : decode b_Mo_relocation 163 = .ok (.aload_n 0, 1) := by decide +kernel
theorem d_Mo_relocation_164 : decode b_Mo_relocation 164 = .ok (.dup, 1) := by decide +kernel
theorem d_Mo_relocation_165 : decode b_Mo_relocation 165 = .ok (.getfield 167, 3) := by decide +kernel
theorem d_Mo_relocation_168 : decode b_Mo_relocation 168 = .ok (.iconst 1, 1) := by decide +kernel
theorem d_Mo_relocation_169 : decode b_Mo_relocation 169 = .ok (.iadd, 1) := by decide +kernel
theorem d_Mo_relocation_170 : decode b_Mo_relocation 170 = .ok (.putfield 167, 3) := by decide +kernel
theorem d_Mo_relocation_173 : decode b_Mo_relocation 173 = .ok (.aload_n 0, 1) := by decide +kernel
theorem d_Mo_relocation_174 : decode b_Mo_relocation 174 = .ok (.getfield 167, 3) := by decide +kernel
theorem d_Mo_relocation_177 : decode b_Mo_relocation 177 = .ok (.iconst 1, 1) := by decide +kernel
theorem d_Mo_relocation_178 : decode b_Mo_relocation 178 = .ok (.isub, 1) := by decide +kernel
theorem d_Mo_relocation_179 : decode b_Mo_relocation 179 = .ok (.ireturn, 1) := by decide +kernel
theorem d_Mo_entry_0 : decode b_Mo_entry 0 = .ok (.aload_n 0, 1) := by decide +kernel
theorem d_Mo_entry_1 : decode b_Mo_entry 1 = .ok (.iload_n 1, 1) := by decide +kernel
theorem d_Mo_entry_2 : decode b_Mo_entry 2 = .ok (.iconst (-1), 1) := by decide +kernel
theorem d_Mo_entry_3 : decode b_Mo_entry 3 = .ok (.sipush 199, 3) := by decide +kernel
theorem d_Mo_entry_6 : decode b_Mo_entry 6 = .ok (.invokestatic 125, 3) := by decide +kernel
theorem d_Mo_entry_9 : decode b_Mo_entry 9 = .ok (.ifCond .ne 7, 3) := by decide +kernel
theorem d_Mo_entry_12 : decode b_Mo_entry 12 = .ok (.iconst 1, 1) := by decide +kernel
theorem d_Mo_entry_13 : decode b_Mo_entry 13 = .ok (.goto 4, 3) := by decide +kernel
theorem d_Mo_entry_16 : decode b_Mo_entry 16 = .ok (.iconst 0, 1) := by decide +kernel
theorem d_Mo_entry_17 : decode b_Mo_entry 17 = .ok (.iconst 0, 1) := by decide +kernel
theorem d_Mo_entry_18 : decode b_Mo_entry 18 = .ok (.invokevirtual 132, 3) := by decide +kernel
theorem d_Mo_entry_21 : decode b_Mo_entry 21 = .ok (.ifCond .ne 12, 3) := by decide +kernel
theorem d_Mo_entry_24 : decode b_Mo_entry 24 = .ok (.aload_n 0, 1) := by decide +kernel
theorem d_Mo_entry_25 : decode b_Mo_entry 25 = .ok (.invokevirtual 136, 3) := by decide +kernel
theorem d_Mo_entry_28 : decode b_Mo_entry 28 = .ok (.aload_n 0, 1) := by decide +kernel
theorem d_Mo_entry_29 : decode b_Mo_entry 29 = .ok (.iload_n 1, 1) := by decide +kernel
theorem d_Mo_entry_30 : decode b_Mo_entry 30 = .ok (.putfield 69, 3) := by decide +kernel
theorem d_Mo_entry_33 : decode b_Mo_entry 33 = .ok (.return_, 1) := by decide +kernel
theorem d_Mo_keep_0 : decode b_Mo_keep 0 = .ok (.aload_n 0, 1) := by decide +kernel
theorem d_Mo_keep_1 : decode b_Mo_keep 1 = .ok (.iload_n 1, 1) := by decide +kernel
theorem d_Mo_keep_2 : decode b_Mo_keep 2 = .ok (.iconst 0, 1) := by decide +kernel
theorem d_Mo_keep_3 : decode b_Mo_keep 3 = .ok (.aload_n 0, 1) := by decide +kernel
theorem d_Mo_keep_4 : decode b_Mo_keep 4 = .ok (.getfield 143, 3) := by decide +kernel
theorem d_Mo_keep_7 : decode b_Mo_keep 7 = .ok (.iconst 1, 1) := by decide +kernel
theorem d_Mo_keep_8 : decode b_Mo_keep 8 = .ok (.isub, 1) := by decide +kernel
theorem d_Mo_keep_9 : decode b_Mo_keep 9 = .ok (.invokestatic 125, 3) := by decide +kernel
theorem d_Mo_keep_12 : decode b_Mo_keep 12 = .ok (.ifCond .ne 7, 3) := by decide +kernel
theorem d_Mo_keep_15 : decode b_Mo_keep 15 = .ok (.iconst 1, 1) := by decide +kernel
theorem d_Mo_keep_16 : decode b_Mo_keep 16 = .ok (.goto 4, 3) := by decide +kernel
theorem d_Mo_keep_19 : decode b_Mo_keep 19 = .ok (.iconst 0, 1) := by decide +kernel
theorem d_Mo_keep_20 : decode b_Mo_keep 20 = .ok (.iconst 0, 1) := by decide +kernel
theorem d_Mo_keep_21 : decode b_Mo_keep 21 = .ok (.invokevirtual 132, 3) := by decide +kernel
theorem d_Mo_keep_24 : decode b_Mo_keep 24 = .ok (.ifCond .ne 14, 3) := by decide +kernel
theorem d_Mo_keep_27 : decode b_Mo_keep 27 = .ok (.aload_n 0, 1) := by decide +kernel
theorem d_Mo_keep_28 : decode b_Mo_keep 28 = .ok (.invokevirtual 136, 3) := by decide +kernel
theorem d_Mo_keep_31 : decode b_Mo_keep 31 = .ok (.aload_n 0, 1) := by decide +kernel
theorem d_Mo_keep_32 : decode b_Mo_keep 32 = .ok (.getfield 28, 3) := by decide +kernel
theorem d_Mo_keep_35 : decode b_Mo_keep 35 = .ok (.iload_n 1, 1) := by decide +kernel
theorem d_Mo_keep_36 : decode b_Mo_keep 36 = .ok (.iload_n 2, 1) := by decide +kernel
theorem d_Mo_keep_37 : decode b_Mo_keep 37 = .ok (.bastore, 1) := by decide +kernel
theorem d_Mo_keep_38 : decode b_Mo_keep 38 = .ok (.return_, 1) := by decide +kernel
theorem d_Mo_fold_0 : decode b_Mo_fold 0 = .ok (.aload_n 0, 1) := by decide +kernel
theorem d_Mo_fold_1 : decode b_Mo_fold 1 = .ok (.iconst 0, 1) := by decide +kernel
theorem d_Mo_fold_2 : decode b_Mo_fold 2 = .ok (.putfield 115, 3) := by decide +kernel
theorem d_Mo_fold_5 : decode b_Mo_fold 5 = .ok (.aload_n 0, 1) := by decide +kernel
theorem d_Mo_fold_6 : decode b_Mo_fold 6 = .ok (.invokevirtual 136, 3) := by decide +kernel
theorem d_Mo_fold_9 : decode b_Mo_fold 9 = .ok (.aload_n 0, 1) := by decide +kernel
theorem d_Mo_fold_10 : decode b_Mo_fold 10 = .ok (.iload_n 1, 1) := by decide +kernel
theorem d_Mo_fold_11 : decode b_Mo_fold 11 = .ok (.putfield 170, 3) := by decide +kernel
theorem d_Mo_fold_14 : decode b_Mo_fold 14 = .ok (.aload_n 0, 1) := by decide +kernel
theorem d_Mo_fold_15 : decode b_Mo_fold 15 = .ok (.iload_n 2, 1) := by decide +kernel
theorem d_Mo_fold_16 : decode b_Mo_fold 16 = .ok (.putfield 173, 3) := by decide +kernel
theorem d_Mo_fold_19 : decode b_Mo_fold 19 = .ok (.return_, 1) := by decide +kernel
theorem d_Mo_clear_0 : decode b_Mo_clear 0 = .ok (.aload_n 0, 1) := by decide +kernel
theorem d_Mo_clear_1 : decode b_Mo_clear 1 = .ok (.iconst 0, 1) := by decide +kernel
theorem d_Mo_clear_2 : decode b_Mo_clear 2 = .ok (.putfield 115, 3) := by decide +kernel
theorem d_Mo_clear_5 : decode b_Mo_clear 5 = .ok (.aload_n 0, 1) := by decide +kernel
theorem d_Mo_clear_6 : decode b_Mo_clear 6 = .ok (.invokevirtual 136, 3) := by decide +kernel
theorem d_Mo_clear_9 : decode b_Mo_clear 9 = .ok (.aload_n 0, 1) := by decide +kernel
theorem d_Mo_clear_10 : decode b_Mo_clear 10 = .ok (.iconst 0, 1) := by decide +kernel
theorem d_Mo_clear_11 : decode b_Mo_clear 11 = .ok (.putfield 129, 3) := by decide +kernel
theorem d_Mo_clear_14 : decode b_Mo_clear 14 = .ok (.aload_n 0, 1) := by decide +kernel
theorem d_Mo_clear_15 : decode b_Mo_clear 15 = .ok (.iconst 0, 1) := by decide +kernel
theorem d_Mo_clear_16 : decode b_Mo_clear 16 = .ok (.putfield 143, 3) := by decide +kernel
theorem d_Mo_clear_19 : decode b_Mo_clear 19 = .ok (.aload_n 0, 1) := by decide +kernel
theorem d_Mo_clear_20 : decode b_Mo_clear 20 = .ok (.iconst 0, 1) := by decide +kernel
theorem d_Mo_clear_21 : decode b_Mo_clear 21 = .ok (.putfield 146, 3) := by decide +kernel
theorem d_Mo_clear_24 : decode b_Mo_clear 24 = .ok (.aload_n 0, 1) := by decide +kernel
theorem d_Mo_clear_25 : decode b_Mo_clear 25 = .ok (.iconst 0, 1) := by decide +kernel
theorem d_Mo_clear_26 : decode b_Mo_clear 26 = .ok (.putfield 150, 3) := by decide +kernel
theorem d_Mo_clear_29 : decode b_Mo_clear 29 = .ok (.aload_n 0, 1) := by decide +kernel
theorem d_Mo_clear_30 : decode b_Mo_clear 30 = .ok (.iconst 0, 1) := by decide +kernel
theorem d_Mo_clear_31 : decode b_Mo_clear 31 = .ok (.putfield 157, 3) := by decide +kernel
theorem d_Mo_clear_34 : decode b_Mo_clear 34 = .ok (.aload_n 0, 1) := by decide +kernel
theorem d_Mo_clear_35 : decode b_Mo_clear 35 = .ok (.iconst 0, 1) := by decide +kernel
theorem d_Mo_clear_36 : decode b_Mo_clear 36 = .ok (.putfield 167, 3) := by decide +kernel
theorem d_Mo_clear_39 : decode b_Mo_clear 39 = .ok (.aload_n 0, 1) := by decide +kernel
theorem d_Mo_clear_40 : decode b_Mo_clear 40 = .ok (.iconst (-1), 1) := by decide +kernel
theorem d_Mo_clear_41 : decode b_Mo_clear 41 = .ok (.putfield 69, 3) := by decide +kernel
theorem d_Mo_clear_44 : decode b_Mo_clear 44 = .ok (.aload_n 0, 1) := by decide +kernel
theorem d_Mo_clear_45 : decode b_Mo_clear 45 = .ok (.iconst 0, 1) := by decide +kernel
theorem d_Mo_clear_46 : decode b_Mo_clear 46 = .ok (.putfield 170, 3) := by decide +kernel
theorem d_Mo_clear_49 : decode b_Mo_clear 49 = .ok (.aload_n 0, 1) := by decide +kernel
theorem d_Mo_clear_50 : decode b_Mo_clear 50 = .ok (.iconst 0, 1) := by decide +kernel
theorem d_Mo_clear_51 : decode b_Mo_clear 51 = .ok (.putfield 173, 3) := by decide +kernel
theorem d_Mo_clear_54 : decode b_Mo_clear 54 = .ok (.return_, 1) := by decide +kernel
theorem d_Mo_fail_0 : decode b_Mo_fail 0 = .ok (.aload_n 0, 1) := by decide +kernel
theorem d_Mo_fail_1 : decode b_Mo_fail 1 = .ok (.iload_n 1, 1) := by decide +kernel
theorem d_Mo_fail_2 : decode b_Mo_fail 2 = .ok (.putfield 122, 3) := by decide +kernel
theorem d_Mo_fail_5 : decode b_Mo_fail 5 = .ok (.aload_n 0, 1) := by decide +kernel
theorem d_Mo_fail_6 : decode b_Mo_fail 6 = .ok (.iload_n 2, 1) := by decide +kernel
theorem d_Mo_fail_7 : decode b_Mo_fail 7 = .ok (.putfield 73, 3) := by decide +kernel
theorem d_Mo_fail_10 : decode b_Mo_fail 10 = .ok (.aload_n 0, 1) := by decide +kernel
theorem d_Mo_fail_11 : decode b_Mo_fail 11 = .ok (.iload_n 3, 1) := by decide +kernel
theorem d_Mo_fail_12 : decode b_Mo_fail 12 = .ok (.putfield 76, 3) := by decide +kernel
theorem d_Mo_fail_15 : decode b_Mo_fail 15 = .ok (.iconst 0, 1) := by decide +kernel
theorem d_Mo_fail_16 : decode b_Mo_fail 16 = .ok (.ireturn, 1) := by decide +kernel
theorem d_Mo_isGiven_0 : decode b_Mo_isGiven 0 = .ok (.iconst 0, 1) := by decide +kernel
theorem d_Mo_isGiven_1 : decode b_Mo_isGiven 1 = .ok (.istore_n 2, 1) := by decide +kernel
theorem d_Mo_isGiven_2 : decode b_Mo_isGiven 2 = .ok (.iconst 0, 1) := by decide +kernel
theorem d_Mo_isGiven_3 : decode b_Mo_isGiven 3 = .ok (.istore_n 3, 1) := by decide +kernel
theorem d_Mo_isGiven_4 : decode b_Mo_isGiven 4 = .ok (.iload_n 3, 1) := by decide +kernel
theorem d_Mo_isGiven_5 : decode b_Mo_isGiven 5 = .ok (.aload_n 0, 1) := by decide +kernel
theorem d_Mo_isGiven_6 : decode b_Mo_isGiven 6 = .ok (.getfield 157, 3) := by decide +kernel
theorem d_Mo_isGiven_9 : decode b_Mo_isGiven 9 = .ok (.if_icmp .ge 62, 3) := by decide +kernel
theorem d_Mo_isGiven_12 : decode b_Mo_isGiven 12 = .ok (.iload_n 2, 1) := by decide +kernel
theorem d_Mo_isGiven_13 : decode b_Mo_isGiven 13 = .ok (.ifCond .ne 46, 3) := by decide +kernel
theorem d_Mo_isGiven_16 : decode b_Mo_isGiven 16 = .ok (.aload_n 0, 1) := by decide +kernel
theorem d_Mo_isGiven_17 : decode b_Mo_isGiven 17 = .ok (.getfield 79, 3) := by decide +kernel
theorem d_Mo_isGiven_20 : decode b_Mo_isGiven 20 = .ok (.aload_n 0, 1) := by decide +kernel
theorem d_Mo_isGiven_21 : decode b_Mo_isGiven 21 = .ok (.getfield 36, 3) := by decide +kernel
theorem d_Mo_isGiven_24 : decode b_Mo_isGiven 24 = .ok (.iload_n 3, 1) := by decide +kernel
theorem d_Mo_isGiven_25 : decode b_Mo_isGiven 25 = .ok (.iaload, 1) := by decide +kernel
theorem d_Mo_isGiven_26 : decode b_Mo_isGiven 26 = .ok (.baload, 1) := by decide +kernel
theorem d_Mo_isGiven_27 : decode b_Mo_isGiven 27 = .ok (.ifCond .eq 36, 3) := by decide +kernel
theorem d_Mo_isGiven_30 : decode b_Mo_isGiven 30 = .ok (.aload_n 0, 1) := by decide +kernel
theorem d_Mo_isGiven_31 : decode b_Mo_isGiven 31 = .ok (.getfield 48, 3) := by decide +kernel
theorem d_Mo_isGiven_34 : decode b_Mo_isGiven 34 = .ok (.iload_n 3, 1) := by decide +kernel
theorem d_Mo_isGiven_35 : decode b_Mo_isGiven 35 = .ok (.iaload, 1) := by decide +kernel
theorem d_Mo_isGiven_36 : decode b_Mo_isGiven 36 = .ok (.iload_n 1, 1) := by decide +kernel
theorem d_Mo_isGiven_37 : decode b_Mo_isGiven 37 = .ok (.if_icmp .ne 26, 3) := by decide +kernel
theorem d_Mo_isGiven_40 : decode b_Mo_isGiven 40 = .ok (.aload_n 0, 1) := by decide +kernel
theorem d_Mo_isGiven_41 : decode b_Mo_isGiven 41 = .ok (.getfield 39, 3) := by decide +kernel
theorem d_Mo_isGiven_44 : decode b_Mo_isGiven 44 = .ok (.iload_n 3, 1) := by decide +kernel
theorem d_Mo_isGiven_45 : decode b_Mo_isGiven 45 = .ok (.iaload, 1) := by decide +kernel
theorem d_Mo_isGiven_46 : decode b_Mo_isGiven 46 = .ok (.iconst 1, 1) := by decide +kernel
theorem d_Mo_isGiven_47 : decode b_Mo_isGiven 47 = .ok (.if_icmp .eq 16, 3) := by decide +kernel
theorem d_Mo_isGiven_50 : decode b_Mo_isGiven 50 = .ok (.aload_n 0, 1) := by decide +kernel
theorem d_Mo_isGiven_51 : decode b_Mo_isGiven 51 = .ok (.getfield 51, 3) := by decide +kernel
theorem d_Mo_isGiven_54 : decode b_Mo_isGiven 54 = .ok (.iload_n 3, 1) := by decide +kernel
theorem d_Mo_isGiven_55 : decode b_Mo_isGiven 55 = .ok (.iaload, 1) := by decide +kernel
theorem d_Mo_isGiven_56 : decode b_Mo_isGiven 56 = .ok (.ifCond .eq 7, 3) := by decide +kernel
theorem d_Mo_isGiven_59 : decode b_Mo_isGiven 59 = .ok (.iconst 1, 1) := by decide +kernel
theorem d_Mo_isGiven_60 : decode b_Mo_isGiven 60 = .ok (.goto 4, 3) := by decide +kernel
theorem d_Mo_isGiven_63 : decode b_Mo_isGiven 63 = .ok (.iconst 0, 1) := by decide +kernel
theorem d_Mo_isGiven_64 : decode b_Mo_isGiven 64 = .ok (.istore_n 2, 1) := by decide +kernel
theorem d_Mo_isGiven_65 : decode b_Mo_isGiven 65 = .ok (.iinc 3 1, 3) := by decide +kernel
theorem d_Mo_isGiven_68 : decode b_Mo_isGiven 68 = .ok (.goto (-64), 3) := by decide +kernel
theorem d_Mo_isGiven_71 : decode b_Mo_isGiven 71 = .ok (.iload_n 2, 1) := by decide +kernel
theorem d_Mo_isGiven_72 : decode b_Mo_isGiven 72 = .ok (.ireturn, 1) := by decide +kernel
