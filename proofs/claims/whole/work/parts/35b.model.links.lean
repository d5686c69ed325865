theorem ml_Mo_217 : MLb R_Mo 217 y_Mo_mayFold b_Mo_mayFold 2 (some .boolean) 1 := ⟨(mw 1852 (by decide +kernel)), (mw 1849 (by decide +kernel)), (mw 95 (by decide +kernel)), by decide +kernel⟩
theorem mv_Mo_mayFold : MLv y_Mo_mayFold := ⟨(mw 1851 (by decide +kernel)), (mw 63 (by decide +kernel))⟩
theorem ml_Mo_220 : MLb R_Mo 220 y_Mo_haveLikeWords b_Mo_haveLikeWords 5 (some .boolean) 2 := ⟨(mw 1856 (by decide +kernel)), (mw 1853 (by decide +kernel)), (mw 95 (by decide +kernel)), by decide +kernel⟩
theorem mv_Mo_haveLikeWords : MLv y_Mo_haveLikeWords := ⟨(mw 1855 (by decide +kernel)), (mw 64 (by decide +kernel))⟩
theorem ml_Mo_223 : MLb R_Mo 223 y_Mo_haveLikeRelocations b_Mo_haveLikeRelocations 5 (some .boolean) 2 := ⟨(mw 1860 (by decide +kernel)), (mw 1857 (by decide +kernel)), (mw 95 (by decide +kernel)), by decide +kernel⟩
theorem mv_Mo_haveLikeRelocations : MLv y_Mo_haveLikeRelocations := ⟨(mw 1859 (by decide +kernel)), (mw 65 (by decide +kernel))⟩
theorem ml_Mo_226 : MLb R_Mo 226 y_Mo_stays b_Mo_stays 2 (some .boolean) 1 := ⟨(mw 1888 (by decide +kernel)), (mw 1885 (by decide +kernel)), (mw 95 (by decide +kernel)), by decide +kernel⟩
theorem mv_Mo_stays : MLv y_Mo_stays := ⟨(mw 1887 (by decide +kernel)), (mw 72 (by decide +kernel))⟩
theorem ml_Mo_229 : MLb R_Mo 229 y_Mo_up b_Mo_up 2 (some .int) 2 := ⟨(mw 1891 (by decide +kernel)), (mw 1889 (by decide +kernel)), (mw 95 (by decide +kernel)), by decide +kernel⟩
theorem ms_Mo_up : Cond.static y_Mo_up ∈ ALLW := (mw 1890 (by decide +kernel))
theorem fl_Mo_100 : FL R_Mo 100 12 43 := ⟨R_Mo, F_Mo, N_Mo, rfl, by decide, i_Mo, (mw 1609 (by decide +kernel))⟩
theorem fl_Mo_91 : FL R_Mo 91 12 40 := ⟨R_Mo, F_Mo, N_Mo, rfl, by decide, i_Mo, (mw 1606 (by decide +kernel))⟩
theorem fl_Mo_232 : FL R_Mo 232 12 35 := ⟨R_Mo, F_Mo, N_Mo, rfl, by decide, i_Mo, (mw 1601 (by decide +kernel))⟩
theorem ft_Mo_35 : FT 12 35 .int := ⟨R_Mo, F_Mo, N_Mo, rfl, rfl, by decide +kernel⟩
theorem fl_Mo_235 : FL R_Mo 235 12 33 := ⟨R_Mo, F_Mo, N_Mo, rfl, by decide, i_Mo, (mw 1599 (by decide +kernel))⟩
theorem ml_Mo_238 : MLb R_Mo 238 y_Mo_layKind b_Mo_layKind 5 (some .int) 2 := ⟨(mw 1884 (by decide +kernel)), (mw 1881 (by decide +kernel)), (mw 95 (by decide +kernel)), by decide +kernel⟩
theorem mv_Mo_layKind : MLv y_Mo_layKind := ⟨(mw 1883 (by decide +kernel)), (mw 71 (by decide +kernel))⟩
theorem fl_Mo_241 : FL R_Mo 241 12 47 := ⟨R_Mo, F_Mo, N_Mo, rfl, by decide, i_Mo, (mw 1613 (by decide +kernel))⟩
theorem fl_Mo_247 : FL R_Mo 247 12 34 := ⟨R_Mo, F_Mo, N_Mo, rfl, by decide, i_Mo, (mw 1600 (by decide +kernel))⟩
theorem ft_Mo_34 : FT 12 34 .int := ⟨R_Mo, F_Mo, N_Mo, rfl, rfl, by decide +kernel⟩
theorem fl_Mo_244 : FL R_Mo 244 12 49 := ⟨R_Mo, F_Mo, N_Mo, rfl, by decide, i_Mo, (mw 1615 (by decide +kernel))⟩
theorem ft_Mo_49 : FT 12 49 .int := ⟨R_Mo, F_Mo, N_Mo, rfl, rfl, by decide +kernel⟩
theorem kd_Mo_250 : Cond.constantLong R_Mo 250 4 ∈ ALLW := (mw 1908 (by decide +kernel))
theorem kd_Mo_252 : Cond.constantLong R_Mo 252 (-131072) ∈ ALLW := (mw 1912 (by decide +kernel))
theorem kd_Mo_254 : Cond.constantLong R_Mo 254 131068 ∈ ALLW := (mw 1913 (by decide +kernel))
theorem ml_Mo_256 : MLb R_Mo 256 y_Mo_meaning b_Mo_meaning 3 (some .int) 1 := ⟨(mw 1903 (by decide +kernel)), (mw 1900 (by decide +kernel)), (mw 95 (by decide +kernel)), by decide +kernel⟩
theorem mv_Mo_meaning : MLv y_Mo_meaning := ⟨(mw 1902 (by decide +kernel)), (mw 75 (by decide +kernel))⟩
theorem ml_Mo_259 : MLb R_Mo 259 y_Mo_placeAt b_Mo_placeAt 2 (some .int) 1 := ⟨(mw 1907 (by decide +kernel)), (mw 1904 (by decide +kernel)), (mw 95 (by decide +kernel)), by decide +kernel⟩
theorem mv_Mo_placeAt : MLv y_Mo_placeAt := ⟨(mw 1906 (by decide +kernel)), (mw 76 (by decide +kernel))⟩
theorem ml_Mo_262 : MLb R_Mo 262 y_Mo_isNear b_Mo_isNear 2 (some .boolean) 1 := ⟨(mw 1911 (by decide +kernel)), (mw 1909 (by decide +kernel)), (mw 95 (by decide +kernel)), by decide +kernel⟩
theorem ms_Mo_isNear : Cond.static y_Mo_isNear ∈ ALLW := (mw 1910 (by decide +kernel))
theorem d_Mo_findLike_0 : decode b_Mo_findLike 0 = .ok (.iconst 0, 1) := by decide +kernel
theorem d_Mo_findLike_1 : decode b_Mo_findLike 1 = .ok (.istore_n 1, 1) := by decide +kernel
theorem d_Mo_findLike_2 : decode b_Mo_findLike 2 = .ok (.iload_n 1, 1) := by decide +kernel
theorem d_Mo_findLike_3 : decode b_Mo_findLike 3 = .ok (.aload_n 0, 1) := by decide +kernel
theorem d_Mo_findLike_4 : decode b_Mo_findLike 4 = .ok (.getfield 143, 3) := by decide +kernel
theorem d_Mo_findLike_7 : decode b_Mo_findLike 7 = .ok (.if_icmp .ge 78, 3) := by decide +kernel
theorem d_Mo_findLike_10 : decode b_Mo_findLike 10 = .ok (.iconst 0, 1) := by decide +kernel
theorem d_Mo_findLike_11 : decode b_Mo_findLike 11 = .ok (.istore_n 2, 1) := by decide +kernel
theorem d_Mo_findLike_12 : decode b_Mo_findLike 12 = .ok (.iload_n 2, 1) := by decide +kernel
theorem d_Mo_findLike_13 : decode b_Mo_findLike 13 = .ok (.aload_n 0, 1) := by decide +kernel
theorem d_Mo_findLike_14 : decode b_Mo_findLike 14 = .ok (.getfield 143, 3) := by decide +kernel
theorem d_Mo_findLike_17 : decode b_Mo_findLike 17 = .ok (.if_icmp .ge 62, 3) := by decide +kernel
theorem d_Mo_findLike_20 : decode b_Mo_findLike 20 = .ok (.aload_n 0, 1) := by decide +kernel
theorem d_Mo_findLike_21 : decode b_Mo_findLike 21 = .ok (.getfield 103, 3) := by decide +kernel
theorem d_Mo_findLike_24 : decode b_Mo_findLike 24 = .ok (.bipush 96, 2) := by decide +kernel
theorem d_Mo_findLike_26 : decode b_Mo_findLike 26 = .ok (.iload_n 1, 1) := by decide +kernel
theorem d_Mo_findLike_27 : decode b_Mo_findLike 27 = .ok (.imul, 1) := by decide +kernel
theorem d_Mo_findLike_28 : decode b_Mo_findLike 28 = .ok (.iload_n 2, 1) := by decide +kernel
theorem d_Mo_findLike_29 : decode b_Mo_findLike 29 = .ok (.iadd, 1) := by decide +kernel
theorem d_Mo_findLike_30 : decode b_Mo_findLike 30 = .ok (.aload_n 0, 1) := by decide +kernel
theorem d_Mo_findLike_31 : decode b_Mo_findLike 31 = .ok (.getfield 170, 3) := by decide +kernel
theorem d_Mo_findLike_34 : decode b_Mo_findLike 34 = .ok (.ifCond .eq 37, 3) := by decide +kernel
theorem d_Mo_findLike_37 : decode b_Mo_findLike 37 = .ok (.iload_n 1, 1) := by decide +kernel
theorem d_Mo_findLike_38 : decode b_Mo_findLike 38 = .ok (.iload_n 2, 1) := by decide +kernel
theorem d_Mo_findLike_39 : decode b_Mo_findLike 39 = .ok (.if_icmp .eq 32, 3) := by decide +kernel
theorem d_Mo_findLike_42 : decode b_Mo_findLike 42 = .ok (.aload_n 0, 1) := by decide +kernel
theorem d_Mo_findLike_43 : decode b_Mo_findLike 43 = .ok (.iload_n 1, 1) := by decide +kernel
theorem d_Mo_findLike_44 : decode b_Mo_findLike 44 = .ok (.invokevirtual 217, 3) := by decide +kernel
theorem d_Mo_findLike_47 : decode b_Mo_findLike 47 = .ok (.ifCond .eq 24, 3) := by decide +kernel
theorem d_Mo_findLike_50 : decode b_Mo_findLike 50 = .ok (.aload_n 0, 1) := by decide +kernel
theorem d_Mo_findLike_51 : decode b_Mo_findLike 51 = .ok (.iload_n 2, 1) := by decide +kernel
theorem d_Mo_findLike_52 : decode b_Mo_findLike 52 = .ok (.invokevirtual 217, 3) := by decide +kernel
theorem d_Mo_findLike_55 : decode b_Mo_findLike 55 = .ok (.ifCond .eq 16, 3) := by decide +kernel
theorem d_Mo_findLike_58 : decode b_Mo_findLike 58 = .ok (.aload_n 0, 1) := by decide +kernel
theorem d_Mo_findLike_59 : decode b_Mo_findLike 59 = .ok (.iload_n 1, 1) := by decide +kernel
theorem d_Mo_findLike_60 : decode b_Mo_findLike 60 = .ok (.iload_n 2, 1) := by decide +kernel
theorem d_Mo_findLike_61 : decode b_Mo_findLike 61 = .ok (.invokevirtual 220, 3) := by decide +kernel
theorem d_Mo_findLike_64 : decode b_Mo_findLike 64 = .ok (.ifCond .eq 7, 3) := by decide +kernel
theorem d_Mo_findLike_67 : decode b_Mo_findLike 67 = .ok (.iconst 1, 1) := by decide +kernel
theorem d_Mo_findLike_68 : decode b_Mo_findLike 68 = .ok (.goto 4, 3) := by decide +kernel
theorem d_Mo_findLike_71 : decode b_Mo_findLike 71 = .ok (.iconst 0, 1) := by decide +kernel
theorem d_Mo_findLike_72 : decode b_Mo_findLike 72 = .ok (.bastore, 1) := by decide +kernel
theorem d_Mo_findLike_73 : decode b_Mo_findLike 73 = .ok (.iinc 2 1, 3) := by decide +kernel
theorem d_Mo_findLike_76 : decode b_Mo_findLike 76 = .ok (.goto (-64), 3) := by decide +kernel
theorem d_Mo_findLike_79 : decode b_Mo_findLike 79 = .ok (.iinc 1 1, 3) := by decide +kernel
theorem d_Mo_findLike_82 : decode b_Mo_findLike 82 = .ok (.goto (-80), 3) := by decide +kernel
theorem d_Mo_findLike_85 : decode b_Mo_findLike 85 = .ok (.aload_n 0, 1) := by decide +kernel
theorem d_Mo_findLike_86 : decode b_Mo_findLike 86 = .ok (.getfield 170, 3) := by decide +kernel
theorem d_Mo_findLike_89 : decode b_Mo_findLike 89 = .ok (.istore_n 1, 1) := by decide +kernel
theorem d_Mo_findLike_90 : decode b_Mo_findLike 90 = .ok (.iload_n 1, 1) := by decide +kernel
theorem d_Mo_findLike_91 : decode b_Mo_findLike 91 = .ok (.ifCond .eq 75, 3) := by decide +kernel
theorem d_Mo_findLike_94 : decode b_Mo_findLike 94 = .ok (.iconst 0, 1) := by decide +kernel
theorem d_Mo_findLike_95 : decode b_Mo_findLike 95 = .ok (.istore_n 1, 1) := by decide +kernel
theorem d_Mo_findLike_96 : decode b_Mo_findLike 96 = .ok (.iconst 0, 1) := by decide +kernel
theorem d_Mo_findLike_97 : decode b_Mo_findLike 97 = .ok (.istore_n 2, 1) := by decide +kernel
theorem d_Mo_findLike_98 : decode b_Mo_findLike 98 = .ok (.iload_n 2, 1) := by decide +kernel
theorem d_Mo_findLike_99 : decode b_Mo_findLike 99 = .ok (.bipush 96, 2) := by decide +kernel
theorem d_Mo_findLike_101 : decode b_Mo_findLike 101 = .ok (.aload_n 0, 1) := by decide +kernel
theorem d_Mo_findLike_102 : decode b_Mo_findLike 102 = .ok (.getfield 143, 3) := by decide +kernel
theorem d_Mo_findLike_105 : decode b_Mo_findLike 105 = .ok (.imul, 1) := by decide +kernel
theorem d_Mo_findLike_106 : decode b_Mo_findLike 106 = .ok (.if_icmp .ge 57, 3) := by decide +kernel
theorem d_Mo_findLike_109 : decode b_Mo_findLike 109 = .ok (.iload_n 2, 1) := by decide +kernel
theorem d_Mo_findLike_110 : decode b_Mo_findLike 110 = .ok (.bipush 96, 2) := by decide +kernel
theorem d_Mo_findLike_112 : decode b_Mo_findLike 112 = .ok (.idiv, 1) := by decide +kernel
theorem d_Mo_findLike_113 : decode b_Mo_findLike 113 = .ok (.istore_n 3, 1) := by decide +kernel
theorem d_Mo_findLike_114 : decode b_Mo_findLike 114 = .ok (.iload_n 2, 1) := by decide +kernel
theorem d_Mo_findLike_115 : decode b_Mo_findLike 115 = .ok (.bipush 96, 2) := by decide +kernel
theorem d_Mo_findLike_117 : decode b_Mo_findLike 117 = .ok (.irem, 1) := by decide +kernel
theorem d_Mo_findLike_118 : decode b_Mo_findLike 118 = .ok (.istore 4, 2) := by decide +kernel
theorem d_Mo_findLike_120 : decode b_Mo_findLike 120 = .ok (.iload 4, 2) := by decide +kernel
theorem d_Mo_findLike_122 : decode b_Mo_findLike 122 = .ok (.aload_n 0, 1) := by decide +kernel
theorem d_Mo_findLike_123 : decode b_Mo_findLike 123 = .ok (.getfield 143, 3) := by decide +kernel
theorem d_Mo_findLike_126 : decode b_Mo_findLike 126 = .ok (.if_icmp .ge 31, 3) := by decide +kernel
theorem d_Mo_findLike_129 : decode b_Mo_findLike 129 = .ok (.aload_n 0, 1) := by decide +kernel
theorem d_Mo_findLike_130 : decode b_Mo_findLike 130 = .ok (.getfield 103, 3) := by decide +kernel
theorem d_Mo_findLike_133 : decode b_Mo_findLike 133 = .ok (.iload_n 2, 1) := by decide +kernel
theorem d_Mo_findLike_134 : decode b_Mo_findLike 134 = .ok (.baload, 1) := by decide +kernel
theorem d_Mo_findLike_135 : decode b_Mo_findLike 135 = .ok (.ifCond .eq 22, 3) := by decide +kernel
theorem d_Mo_findLike_138 : decode b_Mo_findLike 138 = .ok (.aload_n 0, 1) := by decide +kernel
theorem d_Mo_findLike_139 : decode b_Mo_findLike 139 = .ok (.iload_n 3, 1) := by decide +kernel
theorem d_Mo_findLike_140 : decode b_Mo_findLike 140 = .ok (.iload 4, 2) := by decide +kernel
theorem d_Mo_findLike_142 : decode b_Mo_findLike 142 = .ok (.invokevirtual 223, 3) := by decide +kernel
theorem d_Mo_findLike_145 : decode b_Mo_findLike 145 = .ok (.ifCond .ne 12, 3) := by decide +kernel
theorem d_Mo_findLike_148 : decode b_Mo_findLike 148 = .ok (.aload_n 0, 1) := by decide +kernel
theorem d_Mo_findLike_149 : decode b_Mo_findLike 149 = .ok (.getfield 103, 3) := by decide +kernel
theorem d_Mo_findLike_152 : decode b_Mo_findLike 152 = .ok (.iload_n 2, 1) := by decide +kernel
theorem d_Mo_findLike_153 : decode b_Mo_findLike 153 = .ok (.iconst 0, 1) := by decide +kernel
theorem d_Mo_findLike_154 : decode b_Mo_findLike 154 = .ok (.bastore, 1) := by decide +kernel
theorem d_Mo_findLike_155 : decode b_Mo_findLike 155 = .ok (.iconst 1, 1) := by decide +kernel
theorem d_Mo_findLike_156 : decode b_Mo_findLike 156 = .ok (.istore_n 1, 1) := by decide +kernel
theorem d_Mo_findLike_157 : decode b_Mo_findLike 157 = .ok (.iinc 2 1, 3) := by decide +kernel
theorem d_Mo_findLike_160 : decode b_Mo_findLike 160 = .ok (.goto (-62), 3) := by decide +kernel
theorem d_Mo_findLike_163 : decode b_Mo_findLike 163 = .ok (.goto (-73), 3) := by decide +kernel
theorem d_Mo_findLike_166 : decode b_Mo_findLike 166 = .ok (.iconst 0, 1) := by decide +kernel
theorem d_Mo_findLike_167 : decode b_Mo_findLike 167 = .ok (.istore_n 2, 1) := by decide +kernel
theorem d_Mo_findLike_168 : decode b_Mo_findLike 168 = .ok (.iload_n 2, 1) := by decide +kernel
theorem d_Mo_findLike_169 : decode b_Mo_findLike 169 = .ok (.aload_n 0, 1) := by decide +kernel
theorem d_Mo_findLike_170 : decode b_Mo_findLike 170 = .ok (.getfield 143, 3) := by decide +kernel
theorem d_Mo_findLike_173 : decode b_Mo_findLike 173 = .ok (.if_icmp .ge 60, 3) := by decide +kernel
theorem d_Mo_findLike_176 : decode b_Mo_findLike 176 = .ok (.aload_n 0, 1) := by decide +kernel
theorem d_Mo_findLike_177 : decode b_Mo_findLike 177 = .ok (.getfield 97, 3) := by decide +kernel
theorem d_Mo_findLike_180 : decode b_Mo_findLike 180 = .ok (.iload_n 2, 1) := by decide +kernel
theorem d_Mo_findLike_181 : decode b_Mo_findLike 181 = .ok (.iload_n 2, 1) := by decide +kernel
theorem d_Mo_findLike_182 : decode b_Mo_findLike 182 = .ok (.iastore, 1) := by decide +kernel
theorem d_Mo_findLike_183 : decode b_Mo_findLike 183 = .ok (.iload_n 2, 1) := by decide +kernel
theorem d_Mo_findLike_184 : decode b_Mo_findLike 184 = .ok (.iconst 1, 1) := by decide +kernel
theorem d_Mo_findLike_185 : decode b_Mo_findLike 185 = .ok (.isub, 1) := by decide +kernel
theorem d_Mo_findLike_186 : decode b_Mo_findLike 186 = .ok (.istore_n 3, 1) := by decide +kernel
theorem d_Mo_findLike_187 : decode b_Mo_findLike 187 = .ok (.iload_n 3, 1) := by decide +kernel
theorem d_Mo_findLike_188 : decode b_Mo_findLike 188 = .ok (.ifCond .lt 39, 3) := by decide +kernel
theorem d_Mo_findLike_191 : decode b_Mo_findLike 191 = .ok (.aload_n 0, 1) := by decide +kernel
theorem d_Mo_findLike_192 : decode b_Mo_findLike 192 = .ok (.getfield 97, 3) := by decide +kernel
theorem d_Mo_findLike_195 : decode b_Mo_findLike 195 = .ok (.iload_n 2, 1) := by decide +kernel
theorem d_Mo_findLike_196 : decode b_Mo_findLike 196 = .ok (.aload_n 0, 1) := by decide +kernel
theorem d_Mo_findLike_197 : decode b_Mo_findLike 197 = .ok (.getfield 103, 3) := by decide +kernel
theorem d_Mo_findLike_200 : decode b_Mo_findLike 200 = .ok (.bipush 96, 2) := by decide +kernel
theorem d_Mo_findLike_202 : decode b_Mo_findLike 202 = .ok (.iload_n 2, 1) := by decide +kernel
theorem d_Mo_findLike_203 : decode b_Mo_findLike 203 = .ok (.imul, 1) := by decide +kernel
theorem d_Mo_findLike_204 : decode b_Mo_findLike 204 = .ok (.iload_n 3, 1) := by decide +kernel
theorem d_Mo_findLike_205 : decode b_Mo_findLike 205 = .ok (.iadd, 1) := by decide +kernel
theorem d_Mo_findLike_206 : decode b_Mo_findLike 206 = .ok (.baload, 1) := by decide +kernel
theorem d_Mo_findLike_207 : decode b_Mo_findLike 207 = .ok (.ifCond .eq 7, 3) := by decide +kernel
theorem d_Mo_findLike_210 : decode b_Mo_findLike 210 = .ok (.iload_n 3, 1) := by decide +kernel
theorem d_Mo_findLike_211 : decode b_Mo_findLike 211 = .ok (.goto 9, 3) := by decide +kernel
theorem d_Mo_findLike_214 : decode b_Mo_findLike 214 = .ok (.aload_n 0, 1) := by decide +kernel
theorem d_Mo_findLike_215 : decode b_Mo_findLike 215 = .ok (.getfield 97, 3) := by decide +kernel
theorem d_Mo_findLike_218 : decode b_Mo_findLike 218 = .ok (.iload_n 2, 1) := by decide +kernel
theorem d_Mo_findLike_219 : decode b_Mo_findLike 219 = .ok (.iaload, 1) := by decide +kernel
theorem d_Mo_findLike_220 : decode b_Mo_findLike 220 = .ok (.iastore, 1) := by decide +kernel
theorem d_Mo_findLike_221 : decode b_Mo_findLike 221 = .ok (.iinc 3 (-1), 3) := by decide +kernel
theorem d_Mo_findLike_224 : decode b_Mo_findLike 224 = .ok (.goto (-37), 3) := by decide +kernel
theorem d_Mo_findLike_227 : decode b_Mo_findLike 227 = .ok (.iinc 2 1, 3) := by decide +kernel
theorem d_Mo_findLike_230 : decode b_Mo_findLike 230 = .ok (.goto (-62), 3) := by decide +kernel
theorem d_Mo_findLike_233 : decode b_Mo_findLike 233 = .ok (.return_, 1) := by decide +kernel
theorem d_Mo_stays_0 : decode b_Mo_stays 0 = .ok (.aload_n 0, 1) := by decide +kernel
theorem d_Mo_stays_1 : decode b_Mo_stays 1 = .ok (.getfield 94, 3) := by decide +kernel
theorem d_Mo_stays_4 : decode b_Mo_stays 4 = .ok (.iload_n 1, 1) := by decide +kernel
theorem d_Mo_stays_5 : decode b_Mo_stays 5 = .ok (.baload, 1) := by decide +kernel
theorem d_Mo_stays_6 : decode b_Mo_stays 6 = .ok (.ifCond .eq 17, 3) := by decide +kernel
theorem d_Mo_stays_9 : decode b_Mo_stays 9 = .ok (.aload_n 0, 1) := by decide +kernel
theorem d_Mo_stays_10 : decode b_Mo_stays 10 = .ok (.getfield 97, 3) := by decide +kernel
theorem d_Mo_stays_13 : decode b_Mo_stays 13 = .ok (.iload_n 1, 1) := by decide +kernel
theorem d_Mo_stays_14 : decode b_Mo_stays 14 = .ok (.iaload, 1) := by decide +kernel
theorem d_Mo_stays_15 : decode b_Mo_stays 15 = .ok (.iload_n 1, 1) := by decide +kernel
theorem d_Mo_stays_16 : decode b_Mo_stays 16 = .ok (.if_icmp .ne 7, 3) := by decide +kernel
theorem d_Mo_stays_19 : decode b_Mo_stays 19 = .ok (.iconst 1, 1) := by decide +kernel
theorem d_Mo_stays_20 : decode b_Mo_stays 20 = .ok (.goto 4, 3) := by decide +kernel
theorem d_Mo_stays_23 : decode b_Mo_stays 23 = .ok (.iconst 0, 1) := by decide +kernel
theorem d_Mo_stays_24 : decode b_Mo_stays 24 = .ok (.ireturn, 1) := by decide +kernel
theorem d_Mo_up_0 : decode b_Mo_up 0 = .ok (.iload_n 0, 1) := by decide +kernel
theorem d_Mo_up_1 : decode b_Mo_up 1 = .ok (.iload_n 1, 1) := by decide +kernel
theorem d_Mo_up_2 : decode b_Mo_up 2 = .ok (.iadd, 1) := by decide +kernel
theorem d_Mo_up_3 : decode b_Mo_up 3 = .ok (.iconst 1, 1) := by decide +kernel
theorem d_Mo_up_4 : decode b_Mo_up 4 = .ok (.isub, 1) := by decide +kernel
theorem d_Mo_up_5 : decode b_Mo_up 5 = .ok (.iload_n 1, 1) := by decide +kernel
theorem d_Mo_up_6 : decode b_Mo_up 6 = .ok (.idiv, 1) := by decide +kernel
theorem d_Mo_up_7 : decode b_Mo_up 7 = .ok (.iload_n 1, 1) := by decide +kernel
theorem d_Mo_up_8 : decode b_Mo_up 8 = .ok (.imul, 1) := by decide +kernel
theorem d_Mo_up_9 : decode b_Mo_up 9 = .ok (.ireturn, 1) := by decide +kernel
theorem d_Mo_layKind_0 : decode b_Mo_layKind 0 = .ok (.iload_n 2, 1) := by decide +kernel
theorem d_Mo_layKind_1 : decode b_Mo_layKind 1 = .ok (.istore_n 3, 1) := by decide +kernel
theorem d_Mo_layKind_2 : decode b_Mo_layKind 2 = .ok (.iconst 0, 1) := by decide +kernel
theorem d_Mo_layKind_3 : decode b_Mo_layKind 3 = .ok (.istore 4, 2) := by decide +kernel
theorem d_Mo_layKind_5 : decode b_Mo_layKind 5 = .ok (.iload 4, 2) := by decide +kernel
theorem d_Mo_layKind_7 : decode b_Mo_layKind 7 = .ok (.aload_n 0, 1) := by decide +kernel
theorem d_Mo_layKind_8 : decode b_Mo_layKind 8 = .ok (.getfield 143, 3) := by decide +kernel
theorem d_Mo_layKind_11 : decode b_Mo_layKind 11 = .ok (.if_icmp .ge 59, 3) := by decide +kernel
theorem d_Mo_layKind_14 : decode b_Mo_layKind 14 = .ok (.aload_n 0, 1) := by decide +kernel
theorem d_Mo_layKind_15 : decode b_Mo_layKind 15 = .ok (.iload 4, 2) := by decide +kernel
theorem d_Mo_layKind_17 : decode b_Mo_layKind 17 = .ok (.invokevirtual 226, 3) := by decide +kernel
theorem d_Mo_layKind_20 : decode b_Mo_layKind 20 = .ok (.ifCond .eq 44, 3) := by decide +kernel
theorem d_Mo_layKind_23 : decode b_Mo_layKind 23 = .ok (.aload_n 0, 1) := by decide +kernel
theorem d_Mo_layKind_24 : decode b_Mo_layKind 24 = .ok (.getfield 16, 3) := by decide +kernel
theorem d_Mo_layKind_27 : decode b_Mo_layKind 27 = .ok (.iload 4, 2) := by decide +kernel
theorem d_Mo_layKind_29 : decode b_Mo_layKind 29 = .ok (.iaload, 1) := by decide +kernel
theorem d_Mo_layKind_30 : decode b_Mo_layKind 30 = .ok (.iload_n 1, 1) := by decide +kernel
theorem d_Mo_layKind_31 : decode b_Mo_layKind 31 = .ok (.if_icmp .ne 33, 3) := by decide +kernel
theorem d_Mo_layKind_34 : decode b_Mo_layKind 34 = .ok (.iload_n 3, 1) := by decide +kernel
theorem d_Mo_layKind_35 : decode b_Mo_layKind 35 = .ok (.aload_n 0, 1) := by decide +kernel
theorem d_Mo_layKind_36 : decode b_Mo_layKind 36 = .ok (.getfield 22, 3) := by decide +kernel
theorem d_Mo_layKind_39 : decode b_Mo_layKind 39 = .ok (.iload 4, 2) := by decide +kernel
theorem d_Mo_layKind_41 : decode b_Mo_layKind 41 = .ok (.iaload, 1) := by decide +kernel
theorem d_Mo_layKind_42 : decode b_Mo_layKind 42 = .ok (.invokestatic 229, 3) := by decide +kernel
theorem d_Mo_layKind_45 : decode b_Mo_layKind 45 = .ok (.istore_n 3, 1) := by decide +kernel
theorem d_Mo_layKind_46 : decode b_Mo_layKind 46 = .ok (.aload_n 0, 1) := by decide +kernel
theorem d_Mo_layKind_47 : decode b_Mo_layKind 47 = .ok (.getfield 100, 3) := by decide +kernel
theorem d_Mo_layKind_50 : decode b_Mo_layKind 50 = .ok (.iload 4, 2) := by decide +kernel
theorem d_Mo_layKind_52 : decode b_Mo_layKind 52 = .ok (.iload_n 3, 1) := by decide +kernel
theorem d_Mo_layKind_53 : decode b_Mo_layKind 53 = .ok (.iastore, 1) := by decide +kernel
theorem d_Mo_layKind_54 : decode b_Mo_layKind 54 = .ok (.iload_n 3, 1) := by decide +kernel
theorem d_Mo_layKind_55 : decode b_Mo_layKind 55 = .ok (.aload_n 0, 1) := by decide +kernel
theorem d_Mo_layKind_56 : decode b_Mo_layKind 56 = .ok (.getfield 19, 3) := by decide +kernel
theorem d_Mo_layKind_59 : decode b_Mo_layKind 59 = .ok (.iload 4, 2) := by decide +kernel
theorem d_Mo_layKind_61 : decode b_Mo_layKind 61 = .ok (.iaload, 1) := by decide +kernel
theorem d_Mo_layKind_62 : decode b_Mo_layKind 62 = .ok (.iadd, 1) := by decide +kernel
theorem d_Mo_layKind_63 : decode b_Mo_layKind 63 = .ok (.istore_n 3, 1) := by decide +kernel
theorem d_Mo_layKind_64 : decode b_Mo_layKind 64 = .ok (.iinc 4 1, 3) := by decide +kernel
theorem d_Mo_layKind_67 : decode b_Mo_layKind 67 = .ok (.goto (-62), 3) := by decide +kernel
theorem d_Mo_layKind_70 : decode b_Mo_layKind 70 = .ok (.iload_n 3, 1) := by decide +kernel
theorem d_Mo_layKind_71 : decode b_Mo_layKind 71 = .ok (.ireturn, 1) := by decide +kernel
theorem d_Mo_lay_0 : decode b_Mo_lay 0 = .ok (.aload_n 0, 1) := by decide +kernel
theorem d_Mo_lay_1 : decode b_Mo_lay 1 = .ok (.dup, 1) := by decide +kernel
theorem d_Mo_lay_2 : decode b_Mo_lay 2 = .ok (.getfield 232, 3) := by decide +kernel
theorem d_Mo_lay_5 : decode b_Mo_lay 5 = .ok (.iconst 1, 1) := by decide +kernel
theorem d_Mo_lay_6 : decode b_Mo_lay 6 = .ok (.iadd, 1) := by decide +kernel
theorem d_Mo_lay_7 : decode b_Mo_lay 7 = .ok (.putfield 232, 3) := by decide +kernel
theorem d_Mo_lay_10 : decode b_Mo_lay 10 = .ok (.aload_n 0, 1) := by decide +kernel
theorem d_Mo_lay_11 : decode b_Mo_lay 11 = .ok (.iconst 0, 1) := by decide +kernel
theorem d_Mo_lay_12 : decode b_Mo_lay 12 = .ok (.aload_n 0, 1) := by decide +kernel
theorem d_Mo_lay_13 : decode b_Mo_lay 13 = .ok (.getfield 235, 3) := by decide +kernel
theorem d_Mo_lay_16 : decode b_Mo_lay 16 = .ok (.invokevirtual 238, 3) := by decide +kernel
theorem d_Mo_lay_19 : decode b_Mo_lay 19 = .ok (.istore_n 1, 1) := by decide +kernel
theorem d_Mo_lay_20 : decode b_Mo_lay 20 = .ok (.aload_n 0, 1) := by decide +kernel
theorem d_Mo_lay_21 : decode b_Mo_lay 21 = .ok (.getfield 241, 3) := by decide +kernel
theorem d_Mo_lay_24 : decode b_Mo_lay 24 = .ok (.ifCond .le 25, 3) := by decide +kernel
theorem d_Mo_lay_27 : decode b_Mo_lay 27 = .ok (.aload_n 0, 1) := by decide +kernel
theorem d_Mo_lay_28 : decode b_Mo_lay 28 = .ok (.iload_n 1, 1) := by decide +kernel
theorem d_Mo_lay_29 : decode b_Mo_lay 29 = .ok (.iconst 4, 1) := by decide +kernel
theorem d_Mo_lay_30 : decode b_Mo_lay 30 = .ok (.invokestatic 229, 3) := by decide +kernel
theorem d_Mo_lay_33 : decode b_Mo_lay 33 = .ok (.putfield 244, 3) := by decide +kernel
theorem d_Mo_lay_36 : decode b_Mo_lay 36 = .ok (.aload_n 0, 1) := by decide +kernel
theorem d_Mo_lay_37 : decode b_Mo_lay 37 = .ok (.getfield 244, 3) := by decide +kernel
theorem d_Mo_lay_40 : decode b_Mo_lay 40 = .ok (.bipush 8, 2) := by decide +kernel
theorem d_Mo_lay_42 : decode b_Mo_lay 42 = .ok (.aload_n 0, 1) := by decide +kernel
theorem d_Mo_lay_43 : decode b_Mo_lay 43 = .ok (.getfield 241, 3) := by decide +kernel
theorem d_Mo_lay_46 : decode b_Mo_lay 46 = .ok (.imul, 1) := by decide +kernel
theorem d_Mo_lay_47 : decode b_Mo_lay 47 = .ok (.iadd, 1) := by decide +kernel
theorem d_Mo_lay_48 : decode b_Mo_lay 48 = .ok (.istore_n 1, 1) := by decide +kernel
theorem d_Mo_lay_49 : decode b_Mo_lay 49 = .ok (.aload_n 0, 1) := by decide +kernel
theorem d_Mo_lay_50 : decode b_Mo_lay 50 = .ok (.iconst 1, 1) := by decide +kernel
theorem d_Mo_lay_51 : decode b_Mo_lay 51 = .ok (.iload_n 1, 1) := by decide +kernel
theorem d_Mo_lay_52 : decode b_Mo_lay 52 = .ok (.invokevirtual 238, 3) := by decide +kernel
theorem d_Mo_lay_55 : decode b_Mo_lay 55 = .ok (.istore_n 1, 1) := by decide +kernel
theorem d_Mo_lay_56 : decode b_Mo_lay 56 = .ok (.aload_n 0, 1) := by decide +kernel
theorem d_Mo_lay_57 : decode b_Mo_lay 57 = .ok (.iconst 2, 1) := by decide +kernel
theorem d_Mo_lay_58 : decode b_Mo_lay 58 = .ok (.iload_n 1, 1) := by decide +kernel
theorem d_Mo_lay_59 : decode b_Mo_lay 59 = .ok (.invokevirtual 238, 3) := by decide +kernel
theorem d_Mo_lay_62 : decode b_Mo_lay 62 = .ok (.istore_n 1, 1) := by decide +kernel
theorem d_Mo_lay_63 : decode b_Mo_lay 63 = .ok (.iconst 0, 1) := by decide +kernel
theorem d_Mo_lay_64 : decode b_Mo_lay 64 = .ok (.istore_n 2, 1) := by decide +kernel
theorem d_Mo_lay_65 : decode b_Mo_lay 65 = .ok (.iload_n 2, 1) := by decide +kernel
theorem d_Mo_lay_66 : decode b_Mo_lay 66 = .ok (.sipush 200, 3) := by decide +kernel
theorem d_Mo_lay_69 : decode b_Mo_lay 69 = .ok (.if_icmp .ge 43, 3) := by decide +kernel
theorem d_Mo_lay_72 : decode b_Mo_lay 72 = .ok (.aload_n 0, 1) := by decide +kernel
theorem d_Mo_lay_73 : decode b_Mo_lay 73 = .ok (.getfield 88, 3) := by decide +kernel
theorem d_Mo_lay_76 : decode b_Mo_lay 76 = .ok (.iload_n 2, 1) := by decide +kernel
theorem d_Mo_lay_77 : decode b_Mo_lay 77 = .ok (.baload, 1) := by decide +kernel
theorem d_Mo_lay_78 : decode b_Mo_lay 78 = .ok (.ifCond .eq 28, 3) := by decide +kernel
theorem d_Mo_lay_81 : decode b_Mo_lay 81 = .ok (.aload_n 0, 1) := by decide +kernel
theorem d_Mo_lay_82 : decode b_Mo_lay 82 = .ok (.getfield 91, 3) := by decide +kernel
theorem d_Mo_lay_85 : decode b_Mo_lay 85 = .ok (.iload_n 2, 1) := by decide +kernel
theorem d_Mo_lay_86 : decode b_Mo_lay 86 = .ok (.iload_n 1, 1) := by decide +kernel
theorem d_Mo_lay_87 : decode b_Mo_lay 87 = .ok (.iconst 4, 1) := by decide +kernel
theorem d_Mo_lay_88 : decode b_Mo_lay 88 = .ok (.invokestatic 229, 3) := by decide +kernel
theorem d_Mo_lay_91 : decode b_Mo_lay 91 = .ok (.iastore, 1) := by decide +kernel
theorem d_Mo_lay_92 : decode b_Mo_lay 92 = .ok (.aload_n 0, 1) := by decide +kernel
theorem d_Mo_lay_93 : decode b_Mo_lay 93 = .ok (.getfield 91, 3) := by decide +kernel
theorem d_Mo_lay_96 : decode b_Mo_lay 96 = .ok (.iload_n 2, 1) := by decide +kernel
theorem d_Mo_lay_97 : decode b_Mo_lay 97 = .ok (.iaload, 1) := by decide +kernel
theorem d_Mo_lay_98 : decode b_Mo_lay 98 = .ok (.aload_n 0, 1) := by decide +kernel
theorem d_Mo_lay_99 : decode b_Mo_lay 99 = .ok (.getfield 85, 3) := by decide +kernel
theorem d_Mo_lay_102 : decode b_Mo_lay 102 = .ok (.iload_n 2, 1) := by decide +kernel
theorem d_Mo_lay_103 : decode b_Mo_lay 103 = .ok (.iaload, 1) := by decide +kernel
theorem d_Mo_lay_104 : decode b_Mo_lay 104 = .ok (.iadd, 1) := by decide +kernel
theorem d_Mo_lay_105 : decode b_Mo_lay 105 = .ok (.istore_n 1, 1) := by decide +kernel
theorem d_Mo_lay_106 : decode b_Mo_lay 106 = .ok (.iinc 2 1, 3) := by decide +kernel
theorem d_Mo_lay_109 : decode b_Mo_lay 109 = .ok (.goto (-44), 3) := by decide +kernel
theorem d_Mo_lay_112 : decode b_Mo_lay 112 = .ok (.aload_n 0, 1) := by decide +kernel
theorem d_Mo_lay_113 : decode b_Mo_lay 113 = .ok (.iload_n 1, 1) := by decide +kernel
theorem d_Mo_lay_114 : decode b_Mo_lay 114 = .ok (.putfield 247, 3) := by decide +kernel
theorem d_Mo_lay_117 : decode b_Mo_lay 117 = .ok (.iconst 0, 1) := by decide +kernel
theorem d_Mo_lay_118 : decode b_Mo_lay 118 = .ok (.istore_n 2, 1) := by decide +kernel
theorem d_Mo_lay_119 : decode b_Mo_lay 119 = .ok (.iload_n 2, 1) := by decide +kernel
theorem d_Mo_lay_120 : decode b_Mo_lay 120 = .ok (.aload_n 0, 1) := by decide +kernel
theorem d_Mo_lay_121 : decode b_Mo_lay 121 = .ok (.getfield 143, 3) := by decide +kernel
theorem d_Mo_lay_124 : decode b_Mo_lay 124 = .ok (.if_icmp .ge 26, 3) := by decide +kernel
theorem d_Mo_lay_127 : decode b_Mo_lay 127 = .ok (.aload_n 0, 1) := by decide +kernel
theorem d_Mo_lay_128 : decode b_Mo_lay 128 = .ok (.getfield 100, 3) := by decide +kernel
theorem d_Mo_lay_131 : decode b_Mo_lay 131 = .ok (.iload_n 2, 1) := by decide +kernel
theorem d_Mo_lay_132 : decode b_Mo_lay 132 = .ok (.aload_n 0, 1) := by decide +kernel
theorem d_Mo_lay_133 : decode b_Mo_lay 133 = .ok (.getfield 100, 3) := by decide +kernel
theorem d_Mo_lay_136 : decode b_Mo_lay 136 = .ok (.aload_n 0, 1) := by decide +kernel
theorem d_Mo_lay_137 : decode b_Mo_lay 137 = .ok (.getfield 97, 3) := by decide +kernel
theorem d_Mo_lay_140 : decode b_Mo_lay 140 = .ok (.iload_n 2, 1) := by decide +kernel
theorem d_Mo_lay_141 : decode b_Mo_lay 141 = .ok (.iaload, 1) := by decide +kernel
theorem d_Mo_lay_142 : decode b_Mo_lay 142 = .ok (.iaload, 1) := by decide +kernel
theorem d_Mo_lay_143 : decode b_Mo_lay 143 = .ok (.iastore, 1) := by decide +kernel
theorem d_Mo_lay_144 : decode b_Mo_lay 144 = .ok (.iinc 2 1, 3) := by decide +kernel
theorem d_Mo_lay_147 : decode b_Mo_lay 147 = .ok (.goto (-28), 3) := by decide +kernel
theorem d_Mo_lay_150 : decode b_Mo_lay 150 = .ok (.return_, 1) := by decide +kernel
theorem d_Mo_meaning_0 : decode b_Mo_meaning 0 = .ok (.aload_n 0, 1) := by decide +kernel
theorem d_Mo_meaning_1 : decode b_Mo_meaning 1 = .ok (.iload_n 1, 1) := by decide +kernel
theorem d_Mo_meaning_2 : decode b_Mo_meaning 2 = .ok (.invokevirtual 198, 3) := by decide +kernel
theorem d_Mo_meaning_5 : decode b_Mo_meaning 5 = .ok (.istore_n 2, 1) := by decide +kernel
theorem d_Mo_meaning_6 : decode b_Mo_meaning 6 = .ok (.iload_n 2, 1) := by decide +kernel
theorem d_Mo_meaning_7 : decode b_Mo_meaning 7 = .ok (.iconst 1, 1) := by decide +kernel
theorem d_Mo_meaning_8 : decode b_Mo_meaning 8 = .ok (.if_icmp .ne 22, 3) := by decide +kernel
theorem d_Mo_meaning_11 : decode b_Mo_meaning 11 = .ok (.aload_n 0, 1) := by decide +kernel
theorem d_Mo_meaning_12 : decode b_Mo_meaning 12 = .ok (.getfield 100, 3) := by decide +kernel
theorem d_Mo_meaning_15 : decode b_Mo_meaning 15 = .ok (.aload_n 0, 1) := by decide +kernel
theorem d_Mo_meaning_16 : decode b_Mo_meaning 16 = .ok (.iload_n 1, 1) := by decide +kernel
theorem d_Mo_meaning_17 : decode b_Mo_meaning 17 = .ok (.invokevirtual 204, 3) := by decide +kernel
theorem d_Mo_meaning_20 : decode b_Mo_meaning 20 = .ok (.iaload, 1) := by decide +kernel
theorem d_Mo_meaning_21 : decode b_Mo_meaning 21 = .ok (.aload_n 0, 1) := by decide +kernel
theorem d_Mo_meaning_22 : decode b_Mo_meaning 22 = .ok (.iload_n 1, 1) := by decide +kernel
theorem d_Mo_meaning_23 : decode b_Mo_meaning 23 = .ok (.invokevirtual 207, 3) := by decide +kernel
theorem d_Mo_meaning_26 : decode b_Mo_meaning 26 = .ok (.iadd, 1) := by decide +kernel
theorem d_Mo_meaning_27 : decode b_Mo_meaning 27 = .ok (.goto 27, 3) := by decide +kernel
theorem d_Mo_meaning_30 : decode b_Mo_meaning 30 = .ok (.iload_n 2, 1) := by decide +kernel
theorem d_Mo_meaning_31 : decode b_Mo_meaning 31 = .ok (.iconst 3, 1) := by decide +kernel
theorem d_Mo_meaning_32 : decode b_Mo_meaning 32 = .ok (.if_icmp .ne 17, 3) := by decide +kernel
theorem d_Mo_meaning_35 : decode b_Mo_meaning 35 = .ok (.aload_n 0, 1) := by decide +kernel
theorem d_Mo_meaning_36 : decode b_Mo_meaning 36 = .ok (.getfield 91, 3) := by decide +kernel
theorem d_Mo_meaning_39 : decode b_Mo_meaning 39 = .ok (.aload_n 0, 1) := by decide +kernel
theorem d_Mo_meaning_40 : decode b_Mo_meaning 40 = .ok (.getfield 48, 3) := by decide +kernel
theorem d_Mo_meaning_43 : decode b_Mo_meaning 43 = .ok (.iload_n 1, 1) := by decide +kernel
theorem d_Mo_meaning_44 : decode b_Mo_meaning 44 = .ok (.iaload, 1) := by decide +kernel
theorem d_Mo_meaning_45 : decode b_Mo_meaning 45 = .ok (.iaload, 1) := by decide +kernel
theorem d_Mo_meaning_46 : decode b_Mo_meaning 46 = .ok (.goto 8, 3) := by decide +kernel
theorem d_Mo_meaning_49 : decode b_Mo_meaning 49 = .ok (.aload_n 0, 1) := by decide +kernel
theorem d_Mo_meaning_50 : decode b_Mo_meaning 50 = .ok (.iload_n 1, 1) := by decide +kernel
theorem d_Mo_meaning_51 : decode b_Mo_meaning 51 = .ok (.invokevirtual 207, 3) := by decide +kernel
theorem d_Mo_meaning_54 : decode b_Mo_meaning 54 = .ok (.ireturn, 1) := by decide +kernel
theorem d_Mo_placeAt_0 : decode b_Mo_placeAt 0 = .ok (.aload_n 0, 1) := by decide +kernel
theorem d_Mo_placeAt_1 : decode b_Mo_placeAt 1 = .ok (.getfield 100, 3) := by decide +kernel
theorem d_Mo_placeAt_4 : decode b_Mo_placeAt 4 = .ok (.aload_n 0, 1) := by decide +kernel
theorem d_Mo_placeAt_5 : decode b_Mo_placeAt 5 = .ok (.getfield 54, 3) := by decide +kernel
theorem d_Mo_placeAt_8 : decode b_Mo_placeAt 8 = .ok (.iload_n 1, 1) := by decide +kernel
theorem d_Mo_placeAt_9 : decode b_Mo_placeAt 9 = .ok (.iaload, 1) := by decide +kernel
theorem d_Mo_placeAt_10 : decode b_Mo_placeAt 10 = .ok (.iaload, 1) := by decide +kernel
theorem d_Mo_placeAt_11 : decode b_Mo_placeAt 11 = .ok (.aload_n 0, 1) := by decide +kernel
theorem d_Mo_placeAt_12 : decode b_Mo_placeAt 12 = .ok (.getfield 57, 3) := by decide +kernel
theorem d_Mo_placeAt_15 : decode b_Mo_placeAt 15 = .ok (.iload_n 1, 1) := by decide +kernel
theorem d_Mo_placeAt_16 : decode b_Mo_placeAt 16 = .ok (.iaload, 1) := by decide +kernel
theorem d_Mo_placeAt_17 : decode b_Mo_placeAt 17 = .ok (.iadd, 1) := by decide +kernel
theorem d_Mo_placeAt_18 : decode b_Mo_placeAt 18 = .ok (.ireturn, 1) := by decide +kernel
theorem d_Mo_isNear_0 : decode b_Mo_isNear 0 = .ok (.lload_n 0, 1) := by decide +kernel
theorem d_Mo_isNear_1 : decode b_Mo_isNear 1 = .ok (.ldc2_w 250, 3) := by decide +kernel
theorem d_Mo_isNear_4 : decode b_Mo_isNear 4 = .ok (.lrem, 1) := by decide +kernel
theorem d_Mo_isNear_5 : decode b_Mo_isNear 5 = .ok (.lconst 0, 1) := by decide +kernel
theorem d_Mo_isNear_6 : decode b_Mo_isNear 6 = .ok (.lcmp, 1) := by decide +kernel
theorem d_Mo_isNear_7 : decode b_Mo_isNear 7 = .ok (.ifCond .ne 23, 3) := by decide +kernel
theorem d_Mo_isNear_10 : decode b_Mo_isNear 10 = .ok (.lload_n 0, 1) := by decide +kernel
theorem d_Mo_isNear_11 : decode b_Mo_isNear 11 = .ok (.ldc2_w 252, 3) := by decide +kernel
theorem d_Mo_isNear_14 : decode b_Mo_isNear 14 = .ok (.lcmp, 1) := by decide +kernel
theorem d_Mo_isNear_15 : decode b_Mo_isNear 15 = .ok (.ifCond .lt 15, 3) := by decide +kernel
theorem d_Mo_isNear_18 : decode b_Mo_isNear 18 = .ok (.lload_n 0, 1) := by decide +kernel
theorem d_Mo_isNear_19 : decode b_Mo_isNear 19 = .ok (.ldc2_w 254, 3) := by decide +kernel
theorem d_Mo_isNear_22 : decode b_Mo_isNear 22 = .ok (.lcmp, 1) := by decide +kernel
theorem d_Mo_isNear_23 : decode b_Mo_isNear 23 = .ok (.ifCond .gt 7, 3) := by decide +kernel
theorem d_Mo_isNear_26 : decode b_Mo_isNear 26 = .ok (.iconst 1, 1) := by decide +kernel
theorem d_Mo_isNear_27 : decode b_Mo_isNear 27 = .ok (.goto 4, 3) := by decide +kernel
theorem d_Mo_isNear_30 : decode b_Mo_isNear 30 = .ok (.iconst 0, 1) := by decide +kernel
theorem d_Mo_isNear_31 : decode b_Mo_isNear 31 = .ok (.ireturn, 1) := by decide +kernel
theorem d_Mo_isNearTarget_0 : decode b_Mo_isNearTarget 0 = .ok (.aload_n 0, 1) := by decide +kernel
theorem d_Mo_isNearTarget_1 : decode b_Mo_isNearTarget 1 = .ok (.aload_n 0, 1) := by decide +kernel
theorem d_Mo_isNearTarget_2 : decode b_Mo_isNearTarget 2 = .ok (.getfield 63, 3) := by decide +kernel
theorem d_Mo_isNearTarget_5 : decode b_Mo_isNearTarget 5 = .ok (.iload_n 1, 1) := by decide +kernel
theorem d_Mo_isNearTarget_6 : decode b_Mo_isNearTarget 6 = .ok (.iaload, 1) := by decide +kernel
theorem d_Mo_isNearTarget_7 : decode b_Mo_isNearTarget 7 = .ok (.invokevirtual 256, 3) := by decide +kernel
theorem d_Mo_isNearTarget_10 : decode b_Mo_isNearTarget 10 = .ok (.aload_n 0, 1) := by decide +kernel
theorem d_Mo_isNearTarget_11 : decode b_Mo_isNearTarget 11 = .ok (.getfield 66, 3) := by decide +kernel
theorem d_Mo_isNearTarget_14 : decode b_Mo_isNearTarget 14 = .ok (.iload_n 1, 1) := by decide +kernel
theorem d_Mo_isNearTarget_15 : decode b_Mo_isNearTarget 15 = .ok (.iaload, 1) := by decide +kernel
theorem d_Mo_isNearTarget_16 : decode b_Mo_isNearTarget 16 = .ok (.iadd, 1) := by decide +kernel
theorem d_Mo_isNearTarget_17 : decode b_Mo_isNearTarget 17 = .ok (.i2l, 1) := by decide +kernel
theorem d_Mo_isNearTarget_18 : decode b_Mo_isNearTarget 18 = .ok (.aload_n 0, 1) := by decide +kernel
theorem d_Mo_isNearTarget_19 : decode b_Mo_isNearTarget 19 = .ok (.iload_n 1, 1) := by decide +kernel
theorem d_Mo_isNearTarget_20 : decode b_Mo_isNearTarget 20 = .ok (.invokevirtual 259, 3) := by decide +kernel
theorem d_Mo_isNearTarget_23 : decode b_Mo_isNearTarget 23 = .ok (.i2l, 1) := by decide +kernel
theorem d_Mo_isNearTarget_24 : decode b_Mo_isNearTarget 24 = .ok (.lsub, 1) := by decide +kernel
theorem d_Mo_isNearTarget_25 : decode b_Mo_isNearTarget 25 = .ok (.ldc2_w 250, 3) := by decide +kernel
theorem d_Mo_isNearTarget_28 : decode b_Mo_isNearTarget 28 = .ok (.lsub, 1) := by decide +kernel
theorem d_Mo_isNearTarget_29 : decode b_Mo_isNearTarget 29 = .ok (.invokestatic 262, 3) := by decide +kernel
theorem d_Mo_isNearTarget_32 : decode b_Mo_isNearTarget 32 = .ok (.ireturn, 1) := by decide +kernel
theorem d_Mo_islandAt_0 : decode b_Mo_islandAt 0 = .ok (.aload_n 0, 1) := by decide +kernel
theorem d_Mo_islandAt_1 : decode b_Mo_islandAt 1 = .ok (.getfield 244, 3) := by decide +kernel
theorem d_Mo_islandAt_4 : decode b_Mo_islandAt 4 = .ok (.bipush 8, 2) := by decide +kernel
theorem d_Mo_islandAt_6 : decode b_Mo_islandAt 6 = .ok (.iload_n 1, 1) := by decide +kernel
theorem d_Mo_islandAt_7 : decode b_Mo_islandAt 7 = .ok (.imul, 1) := by decide +kernel
theorem d_Mo_islandAt_8 : decode b_Mo_islandAt 8 = .ok (.iadd, 1) := by decide +kernel
theorem d_Mo_islandAt_9 : decode b_Mo_islandAt 9 = .ok (.ireturn, 1) := by decide +kernel
