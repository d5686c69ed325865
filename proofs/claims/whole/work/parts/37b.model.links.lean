theorem fl_Mo_106 : FL R_Mo 106 12 45 := ⟨R_Mo, F_Mo, N_Mo, rfl, by decide, i_Mo, (mw 1611 (by decide +kernel))⟩
theorem kc_Mo_285 : Cond.constant R_Mo 285 (-65536) ∈ ALLW := (mw 1934 (by decide +kernel))
theorem kc_Mo_286 : Cond.constant R_Mo 286 32768 ∈ ALLW := (mw 1935 (by decide +kernel))
theorem kc_Mo_287 : Cond.constant R_Mo 287 65535 ∈ ALLW := (mw 1936 (by decide +kernel))
theorem kc_Mo_288 : Cond.constant R_Mo 288 (-67108864) ∈ ALLW := (mw 1937 (by decide +kernel))
theorem kc_Mo_289 : Cond.constant R_Mo 289 67108863 ∈ ALLW := (mw 1938 (by decide +kernel))
theorem ml_Mo_282 : MLb R_Mo 282 y_Mo_mendOne b_Mo_mendOne 6 (some .boolean) 1 := ⟨(mw 1933 (by decide +kernel)), (mw 1930 (by decide +kernel)), (mw 95 (by decide +kernel)), by decide +kernel⟩
theorem mv_Mo_mendOne : MLv y_Mo_mendOne := ⟨(mw 1932 (by decide +kernel)), (mw 81 (by decide +kernel))⟩
theorem kc_Mo_290 : Cond.constant R_Mo 290 1048576 ∈ ALLW := (mw 1792 (by decide +kernel))
theorem ft_Mo_33 : FT 12 33 .int := ⟨R_Mo, F_Mo, N_Mo, rfl, rfl, by decide +kernel⟩
theorem ml_Mo_291 : MLb R_Mo 291 y_Mo_findIn b_Mo_findIn 3 (none) 0 := ⟨(mw 1796 (by decide +kernel)), (mw 1793 (by decide +kernel)), (mw 95 (by decide +kernel)), by decide +kernel⟩
theorem mv_Mo_findIn : MLv y_Mo_findIn := ⟨(mw 1795 (by decide +kernel)), (mw 49 (by decide +kernel))⟩
theorem ml_Mo_294 : MLb R_Mo 294 y_Mo_define b_Mo_define 6 (some .boolean) 0 := ⟨(mw 1816 (by decide +kernel)), (mw 1813 (by decide +kernel)), (mw 95 (by decide +kernel)), by decide +kernel⟩
theorem mv_Mo_define : MLv y_Mo_define := ⟨(mw 1815 (by decide +kernel)), (mw 54 (by decide +kernel))⟩
theorem ml_Mo_301 : MLb R_Mo 301 y_Mo_findLike b_Mo_findLike 5 (none) 0 := ⟨(mw 1848 (by decide +kernel)), (mw 1845 (by decide +kernel)), (mw 95 (by decide +kernel)), by decide +kernel⟩
theorem mv_Mo_findLike : MLv y_Mo_findLike := ⟨(mw 1847 (by decide +kernel)), (mw 62 (by decide +kernel))⟩
theorem ml_Mo_304 : MLb R_Mo 304 y_Mo_findIslands b_Mo_findIslands 3 (some .boolean) 0 := ⟨(mw 1876 (by decide +kernel)), (mw 1873 (by decide +kernel)), (mw 95 (by decide +kernel)), by decide +kernel⟩
theorem mv_Mo_findIslands : MLv y_Mo_findIslands := ⟨(mw 1875 (by decide +kernel)), (mw 69 (by decide +kernel))⟩
theorem ml_Mo_307 : MLb R_Mo 307 y_Mo_checkFar b_Mo_checkFar 4 (some .boolean) 0 := ⟨(mw 1921 (by decide +kernel)), (mw 1918 (by decide +kernel)), (mw 95 (by decide +kernel)), by decide +kernel⟩
theorem mv_Mo_checkFar : MLv y_Mo_checkFar := ⟨(mw 1920 (by decide +kernel)), (mw 78 (by decide +kernel))⟩
theorem ml_Mo_310 : MLb R_Mo 310 y_Mo_mend b_Mo_mend 3 (some .boolean) 0 := ⟨(mw 1929 (by decide +kernel)), (mw 1926 (by decide +kernel)), (mw 95 (by decide +kernel)), by decide +kernel⟩
theorem mv_Mo_mend : MLv y_Mo_mend := ⟨(mw 1928 (by decide +kernel)), (mw 80 (by decide +kernel))⟩
theorem ml_Mo_298 : MLb R_Mo 298 y_Mo_reach b_Mo_reach 4 (some .boolean) 0 := ⟨(mw 1824 (by decide +kernel)), (mw 1821 (by decide +kernel)), (mw 95 (by decide +kernel)), by decide +kernel⟩
theorem mv_Mo_reach : MLv y_Mo_reach := ⟨(mw 1823 (by decide +kernel)), (mw 56 (by decide +kernel))⟩
theorem d_Mo_mendOne_0 : decode b_Mo_mendOne 0 = .ok (.aload_n 0, 1) := by decide +kernel
theorem d_Mo_mendOne_1 : decode b_Mo_mendOne 1 = .ok (.getfield 25, 3) := by decide +kernel
theorem d_Mo_mendOne_4 : decode b_Mo_mendOne 4 = .ok (.aload_n 0, 1) := by decide +kernel
theorem d_Mo_mendOne_5 : decode b_Mo_mendOne 5 = .ok (.getfield 54, 3) := by decide +kernel
theorem d_Mo_mendOne_8 : decode b_Mo_mendOne 8 = .ok (.iload_n 1, 1) := by decide +kernel
theorem d_Mo_mendOne_9 : decode b_Mo_mendOne 9 = .ok (.iaload, 1) := by decide +kernel
theorem d_Mo_mendOne_10 : decode b_Mo_mendOne 10 = .ok (.iaload, 1) := by decide +kernel
theorem d_Mo_mendOne_11 : decode b_Mo_mendOne 11 = .ok (.aload_n 0, 1) := by decide +kernel
theorem d_Mo_mendOne_12 : decode b_Mo_mendOne 12 = .ok (.getfield 57, 3) := by decide +kernel
theorem d_Mo_mendOne_15 : decode b_Mo_mendOne 15 = .ok (.iload_n 1, 1) := by decide +kernel
theorem d_Mo_mendOne_16 : decode b_Mo_mendOne 16 = .ok (.iaload, 1) := by decide +kernel
theorem d_Mo_mendOne_17 : decode b_Mo_mendOne 17 = .ok (.iconst 4, 1) := by decide +kernel
theorem d_Mo_mendOne_18 : decode b_Mo_mendOne 18 = .ok (.idiv, 1) := by decide +kernel
theorem d_Mo_mendOne_19 : decode b_Mo_mendOne 19 = .ok (.iadd, 1) := by decide +kernel
theorem d_Mo_mendOne_20 : decode b_Mo_mendOne 20 = .ok (.istore_n 2, 1) := by decide +kernel
theorem d_Mo_mendOne_21 : decode b_Mo_mendOne 21 = .ok (.aload_n 0, 1) := by decide +kernel
theorem d_Mo_mendOne_22 : decode b_Mo_mendOne 22 = .ok (.getfield 106, 3) := by decide +kernel
theorem d_Mo_mendOne_25 : decode b_Mo_mendOne 25 = .ok (.iload_n 2, 1) := by decide +kernel
theorem d_Mo_mendOne_26 : decode b_Mo_mendOne 26 = .ok (.iaload, 1) := by decide +kernel
theorem d_Mo_mendOne_27 : decode b_Mo_mendOne 27 = .ok (.istore_n 3, 1) := by decide +kernel
theorem d_Mo_mendOne_28 : decode b_Mo_mendOne 28 = .ok (.aload_n 0, 1) := by decide +kernel
theorem d_Mo_mendOne_29 : decode b_Mo_mendOne 29 = .ok (.aload_n 0, 1) := by decide +kernel
theorem d_Mo_mendOne_30 : decode b_Mo_mendOne 30 = .ok (.getfield 63, 3) := by decide +kernel
theorem d_Mo_mendOne_33 : decode b_Mo_mendOne 33 = .ok (.iload_n 1, 1) := by decide +kernel
theorem d_Mo_mendOne_34 : decode b_Mo_mendOne 34 = .ok (.iaload, 1) := by decide +kernel
theorem d_Mo_mendOne_35 : decode b_Mo_mendOne 35 = .ok (.invokevirtual 256, 3) := by decide +kernel
theorem d_Mo_mendOne_38 : decode b_Mo_mendOne 38 = .ok (.aload_n 0, 1) := by decide +kernel
theorem d_Mo_mendOne_39 : decode b_Mo_mendOne 39 = .ok (.getfield 66, 3) := by decide +kernel
theorem d_Mo_mendOne_42 : decode b_Mo_mendOne 42 = .ok (.iload_n 1, 1) := by decide +kernel
theorem d_Mo_mendOne_43 : decode b_Mo_mendOne 43 = .ok (.iaload, 1) := by decide +kernel
theorem d_Mo_mendOne_44 : decode b_Mo_mendOne 44 = .ok (.iadd, 1) := by decide +kernel
theorem d_Mo_mendOne_45 : decode b_Mo_mendOne 45 = .ok (.istore 4, 2) := by decide +kernel
theorem d_Mo_mendOne_47 : decode b_Mo_mendOne 47 = .ok (.aload_n 0, 1) := by decide +kernel
theorem d_Mo_mendOne_48 : decode b_Mo_mendOne 48 = .ok (.getfield 60, 3) := by decide +kernel
theorem d_Mo_mendOne_51 : decode b_Mo_mendOne 51 = .ok (.iload_n 1, 1) := by decide +kernel
theorem d_Mo_mendOne_52 : decode b_Mo_mendOne 52 = .ok (.iaload, 1) := by decide +kernel
theorem d_Mo_mendOne_53 : decode b_Mo_mendOne 53 = .ok (.tableswitch 170 0 4 #[35, 48, 67, 91, 112], 35) := by decide +kernel
theorem d_Mo_mendOne_88 : decode b_Mo_mendOne 88 = .ok (.aload_n 0, 1) := by decide +kernel
theorem d_Mo_mendOne_89 : decode b_Mo_mendOne 89 = .ok (.getfield 106, 3) := by decide +kernel
theorem d_Mo_mendOne_92 : decode b_Mo_mendOne 92 = .ok (.iload_n 2, 1) := by decide +kernel
theorem d_Mo_mendOne_93 : decode b_Mo_mendOne 93 = .ok (.iload_n 3, 1) := by decide +kernel
theorem d_Mo_mendOne_94 : decode b_Mo_mendOne 94 = .ok (.iload 4, 2) := by decide +kernel
theorem d_Mo_mendOne_96 : decode b_Mo_mendOne 96 = .ok (.iadd, 1) := by decide +kernel
theorem d_Mo_mendOne_97 : decode b_Mo_mendOne 97 = .ok (.iastore, 1) := by decide +kernel
theorem d_Mo_mendOne_98 : decode b_Mo_mendOne 98 = .ok (.goto 160, 3) := by decide +kernel
theorem d_Mo_mendOne_101 : decode b_Mo_mendOne 101 = .ok (.aload_n 0, 1) := by decide +kernel
theorem d_Mo_mendOne_102 : decode b_Mo_mendOne 102 = .ok (.getfield 106, 3) := by decide +kernel
theorem d_Mo_mendOne_105 : decode b_Mo_mendOne 105 = .ok (.iload_n 2, 1) := by decide +kernel
theorem d_Mo_mendOne_106 : decode b_Mo_mendOne 106 = .ok (.iload_n 3, 1) := by decide +kernel
theorem d_Mo_mendOne_107 : decode b_Mo_mendOne 107 = .ok (.iload 4, 2) := by decide +kernel
theorem d_Mo_mendOne_109 : decode b_Mo_mendOne 109 = .ok (.iadd, 1) := by decide +kernel
theorem d_Mo_mendOne_110 : decode b_Mo_mendOne 110 = .ok (.aload_n 0, 1) := by decide +kernel
theorem d_Mo_mendOne_111 : decode b_Mo_mendOne 111 = .ok (.iload_n 1, 1) := by decide +kernel
theorem d_Mo_mendOne_112 : decode b_Mo_mendOne 112 = .ok (.invokevirtual 259, 3) := by decide +kernel
theorem d_Mo_mendOne_115 : decode b_Mo_mendOne 115 = .ok (.isub, 1) := by decide +kernel
theorem d_Mo_mendOne_116 : decode b_Mo_mendOne 116 = .ok (.iastore, 1) := by decide +kernel
theorem d_Mo_mendOne_117 : decode b_Mo_mendOne 117 = .ok (.goto 141, 3) := by decide +kernel
theorem d_Mo_mendOne_120 : decode b_Mo_mendOne 120 = .ok (.aload_n 0, 1) := by decide +kernel
theorem d_Mo_mendOne_121 : decode b_Mo_mendOne 121 = .ok (.getfield 106, 3) := by decide +kernel
theorem d_Mo_mendOne_124 : decode b_Mo_mendOne 124 = .ok (.iload_n 2, 1) := by decide +kernel
theorem d_Mo_mendOne_125 : decode b_Mo_mendOne 125 = .ok (.iload_n 3, 1) := by decide +kernel
theorem d_Mo_mendOne_126 : decode b_Mo_mendOne 126 = .ok (.ldc_w 285, 3) := by decide +kernel
theorem d_Mo_mendOne_129 : decode b_Mo_mendOne 129 = .ok (.iand, 1) := by decide +kernel
theorem d_Mo_mendOne_130 : decode b_Mo_mendOne 130 = .ok (.iload 4, 2) := by decide +kernel
theorem d_Mo_mendOne_132 : decode b_Mo_mendOne 132 = .ok (.ldc_w 286, 3) := by decide +kernel
theorem d_Mo_mendOne_135 : decode b_Mo_mendOne 135 = .ok (.iadd, 1) := by decide +kernel
theorem d_Mo_mendOne_136 : decode b_Mo_mendOne 136 = .ok (.bipush 16, 2) := by decide +kernel
theorem d_Mo_mendOne_138 : decode b_Mo_mendOne 138 = .ok (.iushr, 1) := by decide +kernel
theorem d_Mo_mendOne_139 : decode b_Mo_mendOne 139 = .ok (.ior, 1) := by decide +kernel
theorem d_Mo_mendOne_140 : decode b_Mo_mendOne 140 = .ok (.iastore, 1) := by decide +kernel
theorem d_Mo_mendOne_141 : decode b_Mo_mendOne 141 = .ok (.goto 117, 3) := by decide +kernel
theorem d_Mo_mendOne_144 : decode b_Mo_mendOne 144 = .ok (.aload_n 0, 1) := by decide +kernel
theorem d_Mo_mendOne_145 : decode b_Mo_mendOne 145 = .ok (.getfield 106, 3) := by decide +kernel
theorem d_Mo_mendOne_148 : decode b_Mo_mendOne 148 = .ok (.iload_n 2, 1) := by decide +kernel
theorem d_Mo_mendOne_149 : decode b_Mo_mendOne 149 = .ok (.iload_n 3, 1) := by decide +kernel
theorem d_Mo_mendOne_150 : decode b_Mo_mendOne 150 = .ok (.ldc_w 285, 3) := by decide +kernel
theorem d_Mo_mendOne_153 : decode b_Mo_mendOne 153 = .ok (.iand, 1) := by decide +kernel
theorem d_Mo_mendOne_154 : decode b_Mo_mendOne 154 = .ok (.iload 4, 2) := by decide +kernel
theorem d_Mo_mendOne_156 : decode b_Mo_mendOne 156 = .ok (.ldc_w 287, 3) := by decide +kernel
theorem d_Mo_mendOne_159 : decode b_Mo_mendOne 159 = .ok (.iand, 1) := by decide +kernel
theorem d_Mo_mendOne_160 : decode b_Mo_mendOne 160 = .ok (.ior, 1) := by decide +kernel
theorem d_Mo_mendOne_161 : decode b_Mo_mendOne 161 = .ok (.iastore, 1) := by decide +kernel
theorem d_Mo_mendOne_162 : decode b_Mo_mendOne 162 = .ok (.goto 96, 3) := by decide +kernel
theorem d_Mo_mendOne_165 : decode b_Mo_mendOne 165 = .ok (.aload_n 0, 1) := by decide +kernel
theorem d_Mo_mendOne_166 : decode b_Mo_mendOne 166 = .ok (.getfield 109, 3) := by decide +kernel
theorem d_Mo_mendOne_169 : decode b_Mo_mendOne 169 = .ok (.iload_n 1, 1) := by decide +kernel
theorem d_Mo_mendOne_170 : decode b_Mo_mendOne 170 = .ok (.iaload, 1) := by decide +kernel
theorem d_Mo_mendOne_171 : decode b_Mo_mendOne 171 = .ok (.iconst (-1), 1) := by decide +kernel
theorem d_Mo_mendOne_172 : decode b_Mo_mendOne 172 = .ok (.if_icmp .eq 16, 3) := by decide +kernel
theorem d_Mo_mendOne_175 : decode b_Mo_mendOne 175 = .ok (.aload_n 0, 1) := by decide +kernel
theorem d_Mo_mendOne_176 : decode b_Mo_mendOne 176 = .ok (.aload_n 0, 1) := by decide +kernel
theorem d_Mo_mendOne_177 : decode b_Mo_mendOne 177 = .ok (.getfield 109, 3) := by decide +kernel
theorem d_Mo_mendOne_180 : decode b_Mo_mendOne 180 = .ok (.iload_n 1, 1) := by decide +kernel
theorem d_Mo_mendOne_181 : decode b_Mo_mendOne 181 = .ok (.iaload, 1) := by decide +kernel
theorem d_Mo_mendOne_182 : decode b_Mo_mendOne 182 = .ok (.invokevirtual 279, 3) := by decide +kernel
theorem d_Mo_mendOne_185 : decode b_Mo_mendOne 185 = .ok (.goto 5, 3) := by decide +kernel
theorem d_Mo_mendOne_188 : decode b_Mo_mendOne 188 = .ok (.iload 4, 2) := by decide +kernel
theorem d_Mo_mendOne_190 : decode b_Mo_mendOne 190 = .ok (.istore 5, 2) := by decide +kernel
theorem d_Mo_mendOne_192 : decode b_Mo_mendOne 192 = .ok (.aload_n 0, 1) := by decide +kernel
theorem d_Mo_mendOne_193 : decode b_Mo_mendOne 193 = .ok (.getfield 106, 3) := by decide +kernel
theorem d_Mo_mendOne_196 : decode b_Mo_mendOne 196 = .ok (.iload_n 2, 1) := by decide +kernel
theorem d_Mo_mendOne_197 : decode b_Mo_mendOne 197 = .ok (.iload_n 3, 1) := by decide +kernel
theorem d_Mo_mendOne_198 : decode b_Mo_mendOne 198 = .ok (.ldc_w 285, 3) := by decide +kernel
theorem d_Mo_mendOne_201 : decode b_Mo_mendOne 201 = .ok (.iand, 1) := by decide +kernel
theorem d_Mo_mendOne_202 : decode b_Mo_mendOne 202 = .ok (.iload 5, 2) := by decide +kernel
theorem d_Mo_mendOne_204 : decode b_Mo_mendOne 204 = .ok (.aload_n 0, 1) := by decide +kernel
theorem d_Mo_mendOne_205 : decode b_Mo_mendOne 205 = .ok (.iload_n 1, 1) := by decide +kernel
theorem d_Mo_mendOne_206 : decode b_Mo_mendOne 206 = .ok (.invokevirtual 259, 3) := by decide +kernel
theorem d_Mo_mendOne_209 : decode b_Mo_mendOne 209 = .ok (.isub, 1) := by decide +kernel
theorem d_Mo_mendOne_210 : decode b_Mo_mendOne 210 = .ok (.iconst 4, 1) := by decide +kernel
theorem d_Mo_mendOne_211 : decode b_Mo_mendOne 211 = .ok (.isub, 1) := by decide +kernel
theorem d_Mo_mendOne_212 : decode b_Mo_mendOne 212 = .ok (.iconst 4, 1) := by decide +kernel
theorem d_Mo_mendOne_213 : decode b_Mo_mendOne 213 = .ok (.idiv, 1) := by decide +kernel
theorem d_Mo_mendOne_214 : decode b_Mo_mendOne 214 = .ok (.ldc_w 287, 3) := by decide +kernel
theorem d_Mo_mendOne_217 : decode b_Mo_mendOne 217 = .ok (.iand, 1) := by decide +kernel
theorem d_Mo_mendOne_218 : decode b_Mo_mendOne 218 = .ok (.ior, 1) := by decide +kernel
theorem d_Mo_mendOne_219 : decode b_Mo_mendOne 219 = .ok (.iastore, 1) := by decide +kernel
theorem d_Mo_mendOne_220 : decode b_Mo_mendOne 220 = .ok (.goto 38, 3) := by decide +kernel
theorem d_Mo_mendOne_223 : decode b_Mo_mendOne 223 = .ok (.iload 4, 2) := by decide +kernel
theorem d_Mo_mendOne_225 : decode b_Mo_mendOne 225 = .ok (.iconst 4, 1) := by decide +kernel
theorem d_Mo_mendOne_226 : decode b_Mo_mendOne 226 = .ok (.irem, 1) := by decide +kernel
theorem d_Mo_mendOne_227 : decode b_Mo_mendOne 227 = .ok (.ifCond .eq 11, 3) := by decide +kernel
theorem d_Mo_mendOne_230 : decode b_Mo_mendOne 230 = .ok (.aload_n 0, 1) := by decide +kernel
theorem d_Mo_mendOne_231 : decode b_Mo_mendOne 231 = .ok (.iconst 5, 1) := by decide +kernel
theorem d_Mo_mendOne_232 : decode b_Mo_mendOne 232 = .ok (.iconst (-1), 1) := by decide +kernel
theorem d_Mo_mendOne_233 : decode b_Mo_mendOne 233 = .ok (.iload_n 1, 1) := by decide +kernel
theorem d_Mo_mendOne_234 : decode b_Mo_mendOne 234 = .ok (.invokevirtual 188, 3) := by decide +kernel
theorem d_Mo_mendOne_237 : decode b_Mo_mendOne 237 = .ok (.ireturn, 1) := by decide +kernel
theorem d_Mo_mendOne_238 : decode b_Mo_mendOne 238 = .ok (.aload_n 0, 1) := by decide +kernel
theorem d_Mo_mendOne_239 : decode b_Mo_mendOne 239 = .ok (.getfield 106, 3) := by decide +kernel
theorem d_Mo_mendOne_242 : decode b_Mo_mendOne 242 = .ok (.iload_n 2, 1) := by decide +kernel
theorem d_Mo_mendOne_243 : decode b_Mo_mendOne 243 = .ok (.iload_n 3, 1) := by decide +kernel
theorem d_Mo_mendOne_244 : decode b_Mo_mendOne 244 = .ok (.ldc_w 288, 3) := by decide +kernel
theorem d_Mo_mendOne_247 : decode b_Mo_mendOne 247 = .ok (.iand, 1) := by decide +kernel
theorem d_Mo_mendOne_248 : decode b_Mo_mendOne 248 = .ok (.iload 4, 2) := by decide +kernel
theorem d_Mo_mendOne_250 : decode b_Mo_mendOne 250 = .ok (.iconst 2, 1) := by decide +kernel
theorem d_Mo_mendOne_251 : decode b_Mo_mendOne 251 = .ok (.iushr, 1) := by decide +kernel
theorem d_Mo_mendOne_252 : decode b_Mo_mendOne 252 = .ok (.ldc_w 289, 3) := by decide +kernel
theorem d_Mo_mendOne_255 : decode b_Mo_mendOne 255 = .ok (.iand, 1) := by decide +kernel
theorem d_Mo_mendOne_256 : decode b_Mo_mendOne 256 = .ok (.ior, 1) := by decide +kernel
theorem d_Mo_mendOne_257 : decode b_Mo_mendOne 257 = .ok (.iastore, 1) := by decide +kernel
theorem d_Mo_mendOne_258 : decode b_Mo_mendOne 258 = .ok (.iconst 1, 1) := by decide +kernel
theorem d_Mo_mendOne_259 : decode b_Mo_mendOne 259 = .ok (.ireturn, 1) := by decide +kernel
theorem d_Mo_mend_0 : decode b_Mo_mend 0 = .ok (.iconst 0, 1) := by decide +kernel
theorem d_Mo_mend_1 : decode b_Mo_mend 1 = .ok (.istore_n 1, 1) := by decide +kernel
theorem d_Mo_mend_2 : decode b_Mo_mend 2 = .ok (.iload_n 1, 1) := by decide +kernel
theorem d_Mo_mend_3 : decode b_Mo_mend 3 = .ok (.aload_n 0, 1) := by decide +kernel
theorem d_Mo_mend_4 : decode b_Mo_mend 4 = .ok (.getfield 150, 3) := by decide +kernel
theorem d_Mo_mend_7 : decode b_Mo_mend 7 = .ok (.if_icmp .ge 21, 3) := by decide +kernel
theorem d_Mo_mend_10 : decode b_Mo_mend 10 = .ok (.aload_n 0, 1) := by decide +kernel
theorem d_Mo_mend_11 : decode b_Mo_mend 11 = .ok (.getfield 106, 3) := by decide +kernel
theorem d_Mo_mend_14 : decode b_Mo_mend 14 = .ok (.iload_n 1, 1) := by decide +kernel
theorem d_Mo_mend_15 : decode b_Mo_mend 15 = .ok (.aload_n 0, 1) := by decide +kernel
theorem d_Mo_mend_16 : decode b_Mo_mend 16 = .ok (.getfield 33, 3) := by decide +kernel
theorem d_Mo_mend_19 : decode b_Mo_mend 19 = .ok (.iload_n 1, 1) := by decide +kernel
theorem d_Mo_mend_20 : decode b_Mo_mend 20 = .ok (.iaload, 1) := by decide +kernel
theorem d_Mo_mend_21 : decode b_Mo_mend 21 = .ok (.iastore, 1) := by decide +kernel
theorem d_Mo_mend_22 : decode b_Mo_mend 22 = .ok (.iinc 1 1, 3) := by decide +kernel
theorem d_Mo_mend_25 : decode b_Mo_mend 25 = .ok (.goto (-23), 3) := by decide +kernel
theorem d_Mo_mend_28 : decode b_Mo_mend 28 = .ok (.iconst 0, 1) := by decide +kernel
theorem d_Mo_mend_29 : decode b_Mo_mend 29 = .ok (.istore_n 1, 1) := by decide +kernel
theorem d_Mo_mend_30 : decode b_Mo_mend 30 = .ok (.iload_n 1, 1) := by decide +kernel
theorem d_Mo_mend_31 : decode b_Mo_mend 31 = .ok (.aload_n 0, 1) := by decide +kernel
theorem d_Mo_mend_32 : decode b_Mo_mend 32 = .ok (.getfield 143, 3) := by decide +kernel
theorem d_Mo_mend_35 : decode b_Mo_mend 35 = .ok (.if_icmp .ge 53, 3) := by decide +kernel
theorem d_Mo_mend_38 : decode b_Mo_mend 38 = .ok (.iconst 0, 1) := by decide +kernel
theorem d_Mo_mend_39 : decode b_Mo_mend 39 = .ok (.istore_n 2, 1) := by decide +kernel
theorem d_Mo_mend_40 : decode b_Mo_mend 40 = .ok (.aload_n 0, 1) := by decide +kernel
theorem d_Mo_mend_41 : decode b_Mo_mend 41 = .ok (.iload_n 1, 1) := by decide +kernel
theorem d_Mo_mend_42 : decode b_Mo_mend 42 = .ok (.invokevirtual 226, 3) := by decide +kernel
theorem d_Mo_mend_45 : decode b_Mo_mend 45 = .ok (.ifCond .eq 37, 3) := by decide +kernel
theorem d_Mo_mend_48 : decode b_Mo_mend 48 = .ok (.iload_n 2, 1) := by decide +kernel
theorem d_Mo_mend_49 : decode b_Mo_mend 49 = .ok (.aload_n 0, 1) := by decide +kernel
theorem d_Mo_mend_50 : decode b_Mo_mend 50 = .ok (.getfield 167, 3) := by decide +kernel
theorem d_Mo_mend_53 : decode b_Mo_mend 53 = .ok (.if_icmp .ge 29, 3) := by decide +kernel
theorem d_Mo_mend_56 : decode b_Mo_mend 56 = .ok (.aload_n 0, 1) := by decide +kernel
theorem d_Mo_mend_57 : decode b_Mo_mend 57 = .ok (.getfield 54, 3) := by decide +kernel
theorem d_Mo_mend_60 : decode b_Mo_mend 60 = .ok (.iload_n 2, 1) := by decide +kernel
theorem d_Mo_mend_61 : decode b_Mo_mend 61 = .ok (.iaload, 1) := by decide +kernel
theorem d_Mo_mend_62 : decode b_Mo_mend 62 = .ok (.iload_n 1, 1) := by decide +kernel
theorem d_Mo_mend_63 : decode b_Mo_mend 63 = .ok (.if_icmp .ne 13, 3) := by decide +kernel
theorem d_Mo_mend_66 : decode b_Mo_mend 66 = .ok (.aload_n 0, 1) := by decide +kernel
theorem d_Mo_mend_67 : decode b_Mo_mend 67 = .ok (.iload_n 2, 1) := by decide +kernel
theorem d_Mo_mend_68 : decode b_Mo_mend 68 = .ok (.invokevirtual 282, 3) := by decide +kernel
theorem d_Mo_mend_71 : decode b_Mo_mend 71 = .ok (.ifCond .ne 5, 3) := by decide +kernel
theorem d_Mo_mend_74 : decode b_Mo_mend 74 = .ok (.iconst 0, 1) := by decide +kernel
theorem d_Mo_mend_75 : decode b_Mo_mend 75 = .ok (.ireturn, 1) := by decide +kernel
theorem d_Mo_mend_76 : decode b_Mo_mend 76 = .ok (.iinc 2 1, 3) := by decide +kernel
theorem d_Mo_mend_79 : decode b_Mo_mend 79 = .ok (.goto (-39), 3) := by decide +kernel
theorem d_Mo_mend_82 : decode b_Mo_mend 82 = .ok (.iinc 1 1, 3) := by decide +kernel
theorem d_Mo_mend_85 : decode b_Mo_mend 85 = .ok (.goto (-55), 3) := by decide +kernel
theorem d_Mo_mend_88 : decode b_Mo_mend 88 = .ok (.iconst 1, 1) := by decide +kernel
theorem d_Mo_mend_89 : decode b_Mo_mend 89 = .ok (.ireturn, 1) := by decide +kernel
theorem d_Mo_link_0 : decode b_Mo_link 0 = .ok (.aload_n 0, 1) := by decide +kernel
theorem d_Mo_link_1 : decode b_Mo_link 1 = .ok (.iload_n 1, 1) := by decide +kernel
theorem d_Mo_link_2 : decode b_Mo_link 2 = .ok (.iconst 0, 1) := by decide +kernel
theorem d_Mo_link_3 : decode b_Mo_link 3 = .ok (.ldc_w 290, 3) := by decide +kernel
theorem d_Mo_link_6 : decode b_Mo_link 6 = .ok (.invokestatic 125, 3) := by decide +kernel
theorem d_Mo_link_9 : decode b_Mo_link 9 = .ok (.ifCond .eq 11, 3) := by decide +kernel
theorem d_Mo_link_12 : decode b_Mo_link 12 = .ok (.iload_n 1, 1) := by decide +kernel
theorem d_Mo_link_13 : decode b_Mo_link 13 = .ok (.sipush 4096, 3) := by decide +kernel
theorem d_Mo_link_16 : decode b_Mo_link 16 = .ok (.irem, 1) := by decide +kernel
theorem d_Mo_link_17 : decode b_Mo_link 17 = .ok (.ifCond .eq 7, 3) := by decide +kernel
theorem d_Mo_link_20 : decode b_Mo_link 20 = .ok (.iconst 1, 1) := by decide +kernel
theorem d_Mo_link_21 : decode b_Mo_link 21 = .ok (.goto 4, 3) := by decide +kernel
theorem d_Mo_link_24 : decode b_Mo_link 24 = .ok (.iconst 0, 1) := by decide +kernel
theorem d_Mo_link_25 : decode b_Mo_link 25 = .ok (.iconst 0, 1) := by decide +kernel
theorem d_Mo_link_26 : decode b_Mo_link 26 = .ok (.invokevirtual 132, 3) := by decide +kernel
theorem d_Mo_link_29 : decode b_Mo_link 29 = .ok (.ifCond .eq 5, 3) := by decide +kernel
theorem d_Mo_link_32 : decode b_Mo_link 32 = .ok (.iconst 0, 1) := by decide +kernel
theorem d_Mo_link_33 : decode b_Mo_link 33 = .ok (.ireturn, 1) := by decide +kernel
theorem d_Mo_link_34 : decode b_Mo_link 34 = .ok (.aload_n 0, 1) := by decide +kernel
theorem d_Mo_link_35 : decode b_Mo_link 35 = .ok (.invokevirtual 136, 3) := by decide +kernel
theorem d_Mo_link_38 : decode b_Mo_link 38 = .ok (.aload_n 0, 1) := by decide +kernel
theorem d_Mo_link_39 : decode b_Mo_link 39 = .ok (.iload_n 1, 1) := by decide +kernel
theorem d_Mo_link_40 : decode b_Mo_link 40 = .ok (.putfield 235, 3) := by decide +kernel
theorem d_Mo_link_43 : decode b_Mo_link 43 = .ok (.aload_n 0, 1) := by decide +kernel
theorem d_Mo_link_44 : decode b_Mo_link 44 = .ok (.invokevirtual 291, 3) := by decide +kernel
theorem d_Mo_link_47 : decode b_Mo_link 47 = .ok (.aload_n 0, 1) := by decide +kernel
theorem d_Mo_link_48 : decode b_Mo_link 48 = .ok (.invokevirtual 294, 3) := by decide +kernel
theorem d_Mo_link_51 : decode b_Mo_link 51 = .ok (.ifCond .eq 14, 3) := by decide +kernel
theorem d_Mo_link_54 : decode b_Mo_link 54 = .ok (.aload_n 0, 1) := by decide +kernel
theorem d_Mo_link_55 : decode b_Mo_link 55 = .ok (.invokevirtual 298, 3) := by decide +kernel
theorem d_Mo_link_58 : decode b_Mo_link 58 = .ok (.ifCond .eq 7, 3) := by decide +kernel
theorem d_Mo_link_61 : decode b_Mo_link 61 = .ok (.iconst 1, 1) := by decide +kernel
theorem d_Mo_link_62 : decode b_Mo_link 62 = .ok (.goto 4, 3) := by decide +kernel
theorem d_Mo_link_65 : decode b_Mo_link 65 = .ok (.iconst 0, 1) := by decide +kernel
theorem d_Mo_link_66 : decode b_Mo_link 66 = .ok (.istore_n 2, 1) := by decide +kernel
theorem d_Mo_link_67 : decode b_Mo_link 67 = .ok (.iload_n 2, 1) := by decide +kernel
theorem d_Mo_link_68 : decode b_Mo_link 68 = .ok (.ifCond .eq 34, 3) := by decide +kernel
theorem d_Mo_link_71 : decode b_Mo_link 71 = .ok (.aload_n 0, 1) := by decide +kernel
theorem d_Mo_link_72 : decode b_Mo_link 72 = .ok (.invokevirtual 301, 3) := by decide +kernel
theorem d_Mo_link_75 : decode b_Mo_link 75 = .ok (.aload_n 0, 1) := by decide +kernel
theorem d_Mo_link_76 : decode b_Mo_link 76 = .ok (.invokevirtual 304, 3) := by decide +kernel
theorem d_Mo_link_79 : decode b_Mo_link 79 = .ok (.ifCond .eq 21, 3) := by decide +kernel
theorem d_Mo_link_82 : decode b_Mo_link 82 = .ok (.aload_n 0, 1) := by decide +kernel
theorem d_Mo_link_83 : decode b_Mo_link 83 = .ok (.invokevirtual 307, 3) := by decide +kernel
theorem d_Mo_link_86 : decode b_Mo_link 86 = .ok (.ifCond .eq 14, 3) := by decide +kernel
theorem d_Mo_link_89 : decode b_Mo_link 89 = .ok (.aload_n 0, 1) := by decide +kernel
theorem d_Mo_link_90 : decode b_Mo_link 90 = .ok (.invokevirtual 310, 3) := by decide +kernel
theorem d_Mo_link_93 : decode b_Mo_link 93 = .ok (.ifCond .eq 7, 3) := by decide +kernel
theorem d_Mo_link_96 : decode b_Mo_link 96 = .ok (.iconst 1, 1) := by decide +kernel
theorem d_Mo_link_97 : decode b_Mo_link 97 = .ok (.goto 4, 3) := by decide +kernel
theorem d_Mo_link_100 : decode b_Mo_link 100 = .ok (.iconst 0, 1) := by decide +kernel
theorem d_Mo_link_101 : decode b_Mo_link 101 = .ok (.istore_n 2, 1) := by decide +kernel
theorem d_Mo_link_102 : decode b_Mo_link 102 = .ok (.aload_n 0, 1) := by decide +kernel
theorem d_Mo_link_103 : decode b_Mo_link 103 = .ok (.iload_n 2, 1) := by decide +kernel
theorem d_Mo_link_104 : decode b_Mo_link 104 = .ok (.putfield 118, 3) := by decide +kernel
theorem d_Mo_link_107 : decode b_Mo_link 107 = .ok (.iload_n 2, 1) := by decide +kernel
theorem d_Mo_link_108 : decode b_Mo_link 108 = .ok (.ifCond .eq 15, 3) := by decide +kernel
theorem d_Mo_link_111 : decode b_Mo_link 111 = .ok (.aload_n 0, 1) := by decide +kernel
theorem d_Mo_link_112 : decode b_Mo_link 112 = .ok (.getfield 247, 3) := by decide +kernel
theorem d_Mo_link_115 : decode b_Mo_link 115 = .ok (.aload_n 0, 1) := by decide +kernel
theorem d_Mo_link_116 : decode b_Mo_link 116 = .ok (.getfield 235, 3) := by decide +kernel
theorem d_Mo_link_119 : decode b_Mo_link 119 = .ok (.isub, 1) := by decide +kernel
theorem d_Mo_link_120 : decode b_Mo_link 120 = .ok (.goto 4, 3) := by decide +kernel
theorem d_Mo_link_123 : decode b_Mo_link 123 = .ok (.iconst (-1), 1) := by decide +kernel
theorem d_Mo_link_124 : decode b_Mo_link 124 = .ok (.ireturn, 1) := by decide +kernel
theorem d_Mo_fault_0 : decode b_Mo_fault 0 = .ok (.aload_n 0, 1) := by decide +kernel
theorem d_Mo_fault_1 : decode b_Mo_fault 1 = .ok (.iload_n 1, 1) := by decide +kernel
theorem d_Mo_fault_2 : decode b_Mo_fault 2 = .ok (.iconst 0, 1) := by decide +kernel
theorem d_Mo_fault_3 : decode b_Mo_fault 3 = .ok (.iconst 2, 1) := by decide +kernel
theorem d_Mo_fault_4 : decode b_Mo_fault 4 = .ok (.invokestatic 125, 3) := by decide +kernel
theorem d_Mo_fault_7 : decode b_Mo_fault 7 = .ok (.ifCond .ne 7, 3) := by decide +kernel
theorem d_Mo_fault_10 : decode b_Mo_fault 10 = .ok (.iconst 1, 1) := by decide +kernel
theorem d_Mo_fault_11 : decode b_Mo_fault 11 = .ok (.goto 4, 3) := by decide +kernel
theorem d_Mo_fault_14 : decode b_Mo_fault 14 = .ok (.iconst 0, 1) := by decide +kernel
theorem d_Mo_fault_15 : decode b_Mo_fault 15 = .ok (.iconst 0, 1) := by decide +kernel
theorem d_Mo_fault_16 : decode b_Mo_fault 16 = .ok (.invokevirtual 132, 3) := by decide +kernel
theorem d_Mo_fault_19 : decode b_Mo_fault 19 = .ok (.ifCond .eq 5, 3) := by decide +kernel
theorem d_Mo_fault_22 : decode b_Mo_fault 22 = .ok (.iconst 0, 1) := by decide +kernel
theorem d_Mo_fault_23 : decode b_Mo_fault 23 = .ok (.ireturn, 1) := by decide +kernel
theorem d_Mo_fault_24 : decode b_Mo_fault 24 = .ok (.iload_n 1, 1) := by decide +kernel
theorem d_Mo_fault_25 : decode b_Mo_fault 25 = .ok (.ifCond .ne 10, 3) := by decide +kernel
theorem d_Mo_fault_28 : decode b_Mo_fault 28 = .ok (.aload_n 0, 1) := by decide +kernel
theorem d_Mo_fault_29 : decode b_Mo_fault 29 = .ok (.getfield 122, 3) := by decide +kernel
theorem d_Mo_fault_32 : decode b_Mo_fault 32 = .ok (.goto 19, 3) := by decide +kernel
theorem d_Mo_fault_35 : decode b_Mo_fault 35 = .ok (.iload_n 1, 1) := by decide +kernel
theorem d_Mo_fault_36 : decode b_Mo_fault 36 = .ok (.iconst 1, 1) := by decide +kernel
theorem d_Mo_fault_37 : decode b_Mo_fault 37 = .ok (.if_icmp .ne 10, 3) := by decide +kernel
theorem d_Mo_fault_40 : decode b_Mo_fault 40 = .ok (.aload_n 0, 1) := by decide +kernel
theorem d_Mo_fault_41 : decode b_Mo_fault 41 = .ok (.getfield 73, 3) := by decide +kernel
theorem d_Mo_fault_44 : decode b_Mo_fault 44 = .ok (.goto 7, 3) := by decide +kernel
theorem d_Mo_fault_47 : decode b_Mo_fault 47 = .ok (.aload_n 0, 1) := by decide +kernel
theorem d_Mo_fault_48 : decode b_Mo_fault 48 = .ok (.getfield 76, 3) := by decide +kernel
theorem d_Mo_fault_51 : decode b_Mo_fault 51 = .ok (.ireturn, 1) := by decide +kernel
theorem d_Mo_isIn_0 : decode b_Mo_isIn 0 = .ok (.aload_n 0, 1) := by decide +kernel
theorem d_Mo_isIn_1 : decode b_Mo_isIn 1 = .ok (.aload_n 0, 1) := by decide +kernel
theorem d_Mo_isIn_2 : decode b_Mo_isIn 2 = .ok (.getfield 118, 3) := by decide +kernel
theorem d_Mo_isIn_5 : decode b_Mo_isIn 5 = .ok (.ifCond .ne 7, 3) := by decide +kernel
theorem d_Mo_isIn_8 : decode b_Mo_isIn 8 = .ok (.iconst 1, 1) := by decide +kernel
theorem d_Mo_isIn_9 : decode b_Mo_isIn 9 = .ok (.goto 4, 3) := by decide +kernel
theorem d_Mo_isIn_12 : decode b_Mo_isIn 12 = .ok (.iconst 0, 1) := by decide +kernel
theorem d_Mo_isIn_13 : decode b_Mo_isIn 13 = .ok (.aload_n 0, 1) := by decide +kernel
theorem d_Mo_isIn_14 : decode b_Mo_isIn 14 = .ok (.getfield 118, 3) := by decide +kernel
theorem d_Mo_isIn_17 : decode b_Mo_isIn 17 = .ok (.ifCond .eq 21, 3) := by decide +kernel
theorem d_Mo_isIn_20 : decode b_Mo_isIn 20 = .ok (.iload_n 1, 1) := by decide +kernel
theorem d_Mo_isIn_21 : decode b_Mo_isIn 21 = .ok (.iconst 0, 1) := by decide +kernel
theorem d_Mo_isIn_22 : decode b_Mo_isIn 22 = .ok (.aload_n 0, 1) := by decide +kernel
theorem d_Mo_isIn_23 : decode b_Mo_isIn 23 = .ok (.getfield 129, 3) := by decide +kernel
theorem d_Mo_isIn_26 : decode b_Mo_isIn 26 = .ok (.iconst 1, 1) := by decide +kernel
theorem d_Mo_isIn_27 : decode b_Mo_isIn 27 = .ok (.isub, 1) := by decide +kernel
theorem d_Mo_isIn_28 : decode b_Mo_isIn 28 = .ok (.invokestatic 125, 3) := by decide +kernel
theorem d_Mo_isIn_31 : decode b_Mo_isIn 31 = .ok (.ifCond .ne 7, 3) := by decide +kernel
theorem d_Mo_isIn_34 : decode b_Mo_isIn 34 = .ok (.iconst 1, 1) := by decide +kernel
theorem d_Mo_isIn_35 : decode b_Mo_isIn 35 = .ok (.goto 4, 3) := by decide +kernel
theorem d_Mo_isIn_38 : decode b_Mo_isIn 38 = .ok (.iconst 0, 1) := by decide +kernel
theorem d_Mo_isIn_39 : decode b_Mo_isIn 39 = .ok (.invokevirtual 132, 3) := by decide +kernel
theorem d_Mo_isIn_42 : decode b_Mo_isIn 42 = .ok (.ifCond .eq 5, 3) := by decide +kernel
theorem d_Mo_isIn_45 : decode b_Mo_isIn 45 = .ok (.iconst 0, 1) := by decide +kernel
theorem d_Mo_isIn_46 : decode b_Mo_isIn 46 = .ok (.ireturn, 1) := by decide +kernel
theorem d_Mo_isIn_47 : decode b_Mo_isIn 47 = .ok (.aload_n 0, 1) := by decide +kernel
theorem d_Mo_isIn_48 : decode b_Mo_isIn 48 = .ok (.getfield 79, 3) := by decide +kernel
theorem d_Mo_isIn_51 : decode b_Mo_isIn 51 = .ok (.iload_n 1, 1) := by decide +kernel
theorem d_Mo_isIn_52 : decode b_Mo_isIn 52 = .ok (.baload, 1) := by decide +kernel
theorem d_Mo_isIn_53 : decode b_Mo_isIn 53 = .ok (.ireturn, 1) := by decide +kernel
theorem d_Mo_address_0 : decode b_Mo_address 0 = .ok (.aload_n 0, 1) := by decide +kernel
theorem d_Mo_address_1 : decode b_Mo_address 1 = .ok (.aload_n 0, 1) := by decide +kernel
theorem d_Mo_address_2 : decode b_Mo_address 2 = .ok (.getfield 118, 3) := by decide +kernel
theorem d_Mo_address_5 : decode b_Mo_address 5 = .ok (.ifCond .ne 7, 3) := by decide +kernel
theorem d_Mo_address_8 : decode b_Mo_address 8 = .ok (.iconst 1, 1) := by decide +kernel
theorem d_Mo_address_9 : decode b_Mo_address 9 = .ok (.goto 4, 3) := by decide +kernel
theorem d_Mo_address_12 : decode b_Mo_address 12 = .ok (.iconst 0, 1) := by decide +kernel
theorem d_Mo_address_13 : decode b_Mo_address 13 = .ok (.aload_n 0, 1) := by decide +kernel
theorem d_Mo_address_14 : decode b_Mo_address 14 = .ok (.getfield 118, 3) := by decide +kernel
theorem d_Mo_address_17 : decode b_Mo_address 17 = .ok (.ifCond .eq 21, 3) := by decide +kernel
theorem d_Mo_address_20 : decode b_Mo_address 20 = .ok (.iload_n 1, 1) := by decide +kernel
theorem d_Mo_address_21 : decode b_Mo_address 21 = .ok (.iconst 0, 1) := by decide +kernel
theorem d_Mo_address_22 : decode b_Mo_address 22 = .ok (.aload_n 0, 1) := by decide +kernel
theorem d_Mo_address_23 : decode b_Mo_address 23 = .ok (.getfield 143, 3) := by decide +kernel
theorem d_Mo_address_26 : decode b_Mo_address 26 = .ok (.iconst 1, 1) := by decide +kernel
theorem d_Mo_address_27 : decode b_Mo_address 27 = .ok (.isub, 1) := by decide +kernel
theorem d_Mo_address_28 : decode b_Mo_address 28 = .ok (.invokestatic 125, 3) := by decide +kernel
theorem d_Mo_address_31 : decode b_Mo_address 31 = .ok (.ifCond .ne 7, 3) := by decide +kernel
theorem d_Mo_address_34 : decode b_Mo_address 34 = .ok (.iconst 1, 1) := by decide +kernel
theorem d_Mo_address_35 : decode b_Mo_address 35 = .ok (.goto 4, 3) := by decide +kernel
theorem d_Mo_address_38 : decode b_Mo_address 38 = .ok (.iconst 0, 1) := by decide +kernel
theorem d_Mo_address_39 : decode b_Mo_address 39 = .ok (.invokevirtual 132, 3) := by decide +kernel
theorem d_Mo_address_42 : decode b_Mo_address 42 = .ok (.ifCond .eq 5, 3) := by decide +kernel
theorem d_Mo_address_45 : decode b_Mo_address 45 = .ok (.iconst 0, 1) := by decide +kernel
theorem d_Mo_address_46 : decode b_Mo_address 46 = .ok (.ireturn, 1) := by decide +kernel
theorem d_Mo_address_47 : decode b_Mo_address 47 = .ok (.aload_n 0, 1) := by decide +kernel
theorem d_Mo_address_48 : decode b_Mo_address 48 = .ok (.getfield 94, 3) := by decide +kernel
theorem d_Mo_address_51 : decode b_Mo_address 51 = .ok (.iload_n 1, 1) := by decide +kernel
theorem d_Mo_address_52 : decode b_Mo_address 52 = .ok (.baload, 1) := by decide +kernel
theorem d_Mo_address_53 : decode b_Mo_address 53 = .ok (.ifCond .eq 12, 3) := by decide +kernel
theorem d_Mo_address_56 : decode b_Mo_address 56 = .ok (.aload_n 0, 1) := by decide +kernel
theorem d_Mo_address_57 : decode b_Mo_address 57 = .ok (.getfield 100, 3) := by decide +kernel
theorem d_Mo_address_60 : decode b_Mo_address 60 = .ok (.iload_n 1, 1) := by decide +kernel
theorem d_Mo_address_61 : decode b_Mo_address 61 = .ok (.iaload, 1) := by decide +kernel
theorem d_Mo_address_62 : decode b_Mo_address 62 = .ok (.goto 4, 3) := by decide +kernel
theorem d_Mo_address_65 : decode b_Mo_address 65 = .ok (.iconst (-1), 1) := by decide +kernel
theorem d_Mo_address_66 : decode b_Mo_address 66 = .ok (.ireturn, 1) := by decide +kernel
theorem d_Mo_like_0 : decode b_Mo_like 0 = .ok (.aload_n 0, 1) := by decide +kernel
theorem d_Mo_like_1 : decode b_Mo_like 1 = .ok (.aload_n 0, 1) := by decide +kernel
theorem d_Mo_like_2 : decode b_Mo_like 2 = .ok (.getfield 118, 3) := by decide +kernel
theorem d_Mo_like_5 : decode b_Mo_like 5 = .ok (.ifCond .ne 7, 3) := by decide +kernel
theorem d_Mo_like_8 : decode b_Mo_like 8 = .ok (.iconst 1, 1) := by decide +kernel
theorem d_Mo_like_9 : decode b_Mo_like 9 = .ok (.goto 4, 3) := by decide +kernel
theorem d_Mo_like_12 : decode b_Mo_like 12 = .ok (.iconst 0, 1) := by decide +kernel
theorem d_Mo_like_13 : decode b_Mo_like 13 = .ok (.aload_n 0, 1) := by decide +kernel
theorem d_Mo_like_14 : decode b_Mo_like 14 = .ok (.getfield 118, 3) := by decide +kernel
theorem d_Mo_like_17 : decode b_Mo_like 17 = .ok (.ifCond .eq 21, 3) := by decide +kernel
theorem d_Mo_like_20 : decode b_Mo_like 20 = .ok (.iload_n 1, 1) := by decide +kernel
theorem d_Mo_like_21 : decode b_Mo_like 21 = .ok (.iconst 0, 1) := by decide +kernel
theorem d_Mo_like_22 : decode b_Mo_like 22 = .ok (.aload_n 0, 1) := by decide +kernel
theorem d_Mo_like_23 : decode b_Mo_like 23 = .ok (.getfield 143, 3) := by decide +kernel
theorem d_Mo_like_26 : decode b_Mo_like 26 = .ok (.iconst 1, 1) := by decide +kernel
theorem d_Mo_like_27 : decode b_Mo_like 27 = .ok (.isub, 1) := by decide +kernel
theorem d_Mo_like_28 : decode b_Mo_like 28 = .ok (.invokestatic 125, 3) := by decide +kernel
theorem d_Mo_like_31 : decode b_Mo_like 31 = .ok (.ifCond .ne 7, 3) := by decide +kernel
theorem d_Mo_like_34 : decode b_Mo_like 34 = .ok (.iconst 1, 1) := by decide +kernel
theorem d_Mo_like_35 : decode b_Mo_like 35 = .ok (.goto 4, 3) := by decide +kernel
theorem d_Mo_like_38 : decode b_Mo_like 38 = .ok (.iconst 0, 1) := by decide +kernel
theorem d_Mo_like_39 : decode b_Mo_like 39 = .ok (.invokevirtual 132, 3) := by decide +kernel
theorem d_Mo_like_42 : decode b_Mo_like 42 = .ok (.ifCond .eq 5, 3) := by decide +kernel
theorem d_Mo_like_45 : decode b_Mo_like 45 = .ok (.iconst 0, 1) := by decide +kernel
theorem d_Mo_like_46 : decode b_Mo_like 46 = .ok (.ireturn, 1) := by decide +kernel
theorem d_Mo_like_47 : decode b_Mo_like 47 = .ok (.aload_n 0, 1) := by decide +kernel
theorem d_Mo_like_48 : decode b_Mo_like 48 = .ok (.getfield 94, 3) := by decide +kernel
theorem d_Mo_like_51 : decode b_Mo_like 51 = .ok (.iload_n 1, 1) := by decide +kernel
theorem d_Mo_like_52 : decode b_Mo_like 52 = .ok (.baload, 1) := by decide +kernel
theorem d_Mo_like_53 : decode b_Mo_like 53 = .ok (.ifCond .eq 12, 3) := by decide +kernel
theorem d_Mo_like_56 : decode b_Mo_like 56 = .ok (.aload_n 0, 1) := by decide +kernel
theorem d_Mo_like_57 : decode b_Mo_like 57 = .ok (.getfield 97, 3) := by decide +kernel
theorem d_Mo_like_60 : decode b_Mo_like 60 = .ok (.iload_n 1, 1) := by decide +kernel
theorem d_Mo_like_61 : decode b_Mo_like 61 = .ok (.iaload, 1) := by decide +kernel
theorem d_Mo_like_62 : decode b_Mo_like 62 = .ok (.goto 4, 3) := by decide +kernel
theorem d_Mo_like_65 : decode b_Mo_like 65 = .ok (.iconst (-1), 1) := by decide +kernel
theorem d_Mo_like_66 : decode b_Mo_like 66 = .ok (.ireturn, 1) := by decide +kernel
