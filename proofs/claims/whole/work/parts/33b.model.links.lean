theorem fl_Mo_82 : FL R_Mo 82 12 37 := ⟨R_Mo, F_Mo, N_Mo, rfl, by decide, i_Mo, (mw 1603 (by decide +kernel))⟩
theorem fl_Mo_85 : FL R_Mo 85 12 38 := ⟨R_Mo, F_Mo, N_Mo, rfl, by decide, i_Mo, (mw 1604 (by decide +kernel))⟩
theorem ml_Mo_188 : MLb R_Mo 188 y_Mo_fail b_Mo_fail 4 (some .boolean) 3 := ⟨(mw 1820 (by decide +kernel)), (mw 1817 (by decide +kernel)), (mw 95 (by decide +kernel)), by decide +kernel⟩
theorem mv_Mo_fail : MLv y_Mo_fail := ⟨(mw 1819 (by decide +kernel)), (mw 55 (by decide +kernel))⟩
theorem ml_Mo_191 : MLb R_Mo 191 y_Mo_isCommon b_Mo_isCommon 2 (some .boolean) 1 := ⟨(mw 1840 (by decide +kernel)), (mw 1837 (by decide +kernel)), (mw 95 (by decide +kernel)), by decide +kernel⟩
theorem mv_Mo_isCommon : MLv y_Mo_isCommon := ⟨(mw 1839 (by decide +kernel)), (mw 60 (by decide +kernel))⟩
theorem ml_Mo_194 : MLb R_Mo 194 y_Mo_itself b_Mo_itself 2 (some .int) 1 := ⟨(mw 1844 (by decide +kernel)), (mw 1841 (by decide +kernel)), (mw 95 (by decide +kernel)), by decide +kernel⟩
theorem mv_Mo_itself : MLv y_Mo_itself := ⟨(mw 1843 (by decide +kernel)), (mw 61 (by decide +kernel))⟩
theorem ml_Mo_198 : MLb R_Mo 198 y_Mo_sortOf b_Mo_sortOf 3 (some .int) 1 := ⟨(mw 1836 (by decide +kernel)), (mw 1833 (by decide +kernel)), (mw 95 (by decide +kernel)), by decide +kernel⟩
theorem mv_Mo_sortOf : MLv y_Mo_sortOf := ⟨(mw 1835 (by decide +kernel)), (mw 59 (by decide +kernel))⟩
theorem fl_Mo_94 : FL R_Mo 94 12 41 := ⟨R_Mo, F_Mo, N_Mo, rfl, by decide, i_Mo, (mw 1607 (by decide +kernel))⟩
theorem ml_Mo_204 : MLb R_Mo 204 y_Mo_sectionOf b_Mo_sectionOf 2 (some .int) 1 := ⟨(mw 1832 (by decide +kernel)), (mw 1829 (by decide +kernel)), (mw 95 (by decide +kernel)), by decide +kernel⟩
theorem mv_Mo_sectionOf : MLv y_Mo_sectionOf := ⟨(mw 1831 (by decide +kernel)), (mw 58 (by decide +kernel))⟩
theorem fl_Mo_88 : FL R_Mo 88 12 39 := ⟨R_Mo, F_Mo, N_Mo, rfl, by decide, i_Mo, (mw 1605 (by decide +kernel))⟩
theorem d_Mo_define_0 : decode b_Mo_define 0 = .ok (.sipush 200, 3) := by decide +kernel
theorem d_Mo_define_3 : decode b_Mo_define 3 = .ok (.istore_n 1, 1) := by decide +kernel
theorem d_Mo_define_4 : decode b_Mo_define 4 = .ok (.iconst 0, 1) := by decide +kernel
theorem d_Mo_define_5 : decode b_Mo_define 5 = .ok (.istore_n 2, 1) := by decide +kernel
theorem d_Mo_define_6 : decode b_Mo_define 6 = .ok (.iload_n 2, 1) := by decide +kernel
theorem d_Mo_define_7 : decode b_Mo_define 7 = .ok (.sipush 200, 3) := by decide +kernel
theorem d_Mo_define_10 : decode b_Mo_define 10 = .ok (.if_icmp .ge 23, 3) := by decide +kernel
theorem d_Mo_define_13 : decode b_Mo_define 13 = .ok (.aload_n 0, 1) := by decide +kernel
theorem d_Mo_define_14 : decode b_Mo_define 14 = .ok (.getfield 82, 3) := by decide +kernel
theorem d_Mo_define_17 : decode b_Mo_define 17 = .ok (.iload_n 2, 1) := by decide +kernel
theorem d_Mo_define_18 : decode b_Mo_define 18 = .ok (.iconst (-1), 1) := by decide +kernel
theorem d_Mo_define_19 : decode b_Mo_define 19 = .ok (.iastore, 1) := by decide +kernel
theorem d_Mo_define_20 : decode b_Mo_define 20 = .ok (.aload_n 0, 1) := by decide +kernel
theorem d_Mo_define_21 : decode b_Mo_define 21 = .ok (.getfield 85, 3) := by decide +kernel
theorem d_Mo_define_24 : decode b_Mo_define 24 = .ok (.iload_n 2, 1) := by decide +kernel
theorem d_Mo_define_25 : decode b_Mo_define 25 = .ok (.iconst 0, 1) := by decide +kernel
theorem d_Mo_define_26 : decode b_Mo_define 26 = .ok (.iastore, 1) := by decide +kernel
theorem d_Mo_define_27 : decode b_Mo_define 27 = .ok (.iinc 2 1, 3) := by decide +kernel
theorem d_Mo_define_30 : decode b_Mo_define 30 = .ok (.goto (-24), 3) := by decide +kernel
theorem d_Mo_define_33 : decode b_Mo_define 33 = .ok (.iconst 0, 1) := by decide +kernel
theorem d_Mo_define_34 : decode b_Mo_define 34 = .ok (.istore_n 2, 1) := by decide +kernel
theorem d_Mo_define_35 : decode b_Mo_define 35 = .ok (.iload_n 2, 1) := by decide +kernel
theorem d_Mo_define_36 : decode b_Mo_define 36 = .ok (.aload_n 0, 1) := by decide +kernel
theorem d_Mo_define_37 : decode b_Mo_define 37 = .ok (.getfield 157, 3) := by decide +kernel
theorem d_Mo_define_40 : decode b_Mo_define 40 = .ok (.if_icmp .ge 80, 3) := by decide +kernel
theorem d_Mo_define_43 : decode b_Mo_define 43 = .ok (.aload_n 0, 1) := by decide +kernel
theorem d_Mo_define_44 : decode b_Mo_define 44 = .ok (.getfield 48, 3) := by decide +kernel
theorem d_Mo_define_47 : decode b_Mo_define 47 = .ok (.iload_n 2, 1) := by decide +kernel
theorem d_Mo_define_48 : decode b_Mo_define 48 = .ok (.iaload, 1) := by decide +kernel
theorem d_Mo_define_49 : decode b_Mo_define 49 = .ok (.istore_n 3, 1) := by decide +kernel
theorem d_Mo_define_50 : decode b_Mo_define 50 = .ok (.aload_n 0, 1) := by decide +kernel
theorem d_Mo_define_51 : decode b_Mo_define 51 = .ok (.getfield 79, 3) := by decide +kernel
theorem d_Mo_define_54 : decode b_Mo_define 54 = .ok (.aload_n 0, 1) := by decide +kernel
theorem d_Mo_define_55 : decode b_Mo_define 55 = .ok (.getfield 36, 3) := by decide +kernel
theorem d_Mo_define_58 : decode b_Mo_define 58 = .ok (.iload_n 2, 1) := by decide +kernel
theorem d_Mo_define_59 : decode b_Mo_define 59 = .ok (.iaload, 1) := by decide +kernel
theorem d_Mo_define_60 : decode b_Mo_define 60 = .ok (.baload, 1) := by decide +kernel
theorem d_Mo_define_61 : decode b_Mo_define 61 = .ok (.ifCond .eq 53, 3) := by decide +kernel
theorem d_Mo_define_64 : decode b_Mo_define 64 = .ok (.aload_n 0, 1) := by decide +kernel
theorem d_Mo_define_65 : decode b_Mo_define 65 = .ok (.getfield 39, 3) := by decide +kernel
theorem d_Mo_define_68 : decode b_Mo_define 68 = .ok (.iload_n 2, 1) := by decide +kernel
theorem d_Mo_define_69 : decode b_Mo_define 69 = .ok (.iaload, 1) := by decide +kernel
theorem d_Mo_define_70 : decode b_Mo_define 70 = .ok (.iconst 1, 1) := by decide +kernel
theorem d_Mo_define_71 : decode b_Mo_define 71 = .ok (.if_icmp .ne 6, 3) := by decide +kernel
theorem d_Mo_define_74 : decode b_Mo_define 74 = .ok (.goto 40, 3) := by decide +kernel
theorem d_Mo_define_77 : decode b_Mo_define 77 = .ok (.aload_n 0, 1) := by decide +kernel
theorem d_Mo_define_78 : decode b_Mo_define 78 = .ok (.getfield 51, 3) := by decide +kernel
theorem d_Mo_define_81 : decode b_Mo_define 81 = .ok (.iload_n 2, 1) := by decide +kernel
theorem d_Mo_define_82 : decode b_Mo_define 82 = .ok (.iaload, 1) := by decide +kernel
theorem d_Mo_define_83 : decode b_Mo_define 83 = .ok (.iconst 3, 1) := by decide +kernel
theorem d_Mo_define_84 : decode b_Mo_define 84 = .ok (.if_icmp .ne 30, 3) := by decide +kernel
theorem d_Mo_define_87 : decode b_Mo_define 87 = .ok (.aload_n 0, 1) := by decide +kernel
theorem d_Mo_define_88 : decode b_Mo_define 88 = .ok (.getfield 85, 3) := by decide +kernel
theorem d_Mo_define_91 : decode b_Mo_define 91 = .ok (.iload_n 3, 1) := by decide +kernel
theorem d_Mo_define_92 : decode b_Mo_define 92 = .ok (.iaload, 1) := by decide +kernel
theorem d_Mo_define_93 : decode b_Mo_define 93 = .ok (.aload_n 0, 1) := by decide +kernel
theorem d_Mo_define_94 : decode b_Mo_define 94 = .ok (.getfield 45, 3) := by decide +kernel
theorem d_Mo_define_97 : decode b_Mo_define 97 = .ok (.iload_n 2, 1) := by decide +kernel
theorem d_Mo_define_98 : decode b_Mo_define 98 = .ok (.iaload, 1) := by decide +kernel
theorem d_Mo_define_99 : decode b_Mo_define 99 = .ok (.if_icmp .ge 15, 3) := by decide +kernel
theorem d_Mo_define_102 : decode b_Mo_define 102 = .ok (.aload_n 0, 1) := by decide +kernel
theorem d_Mo_define_103 : decode b_Mo_define 103 = .ok (.getfield 85, 3) := by decide +kernel
theorem d_Mo_define_106 : decode b_Mo_define 106 = .ok (.iload_n 3, 1) := by decide +kernel
theorem d_Mo_define_107 : decode b_Mo_define 107 = .ok (.aload_n 0, 1) := by decide +kernel
theorem d_Mo_define_108 : decode b_Mo_define 108 = .ok (.getfield 45, 3) := by decide +kernel
theorem d_Mo_define_111 : decode b_Mo_define 111 = .ok (.iload_n 2, 1) := by decide +kernel
theorem d_Mo_define_112 : decode b_Mo_define 112 = .ok (.iaload, 1) := by decide +kernel
theorem d_Mo_define_113 : decode b_Mo_define 113 = .ok (.iastore, 1) := by decide +kernel
theorem d_Mo_define_114 : decode b_Mo_define 114 = .ok (.iinc 2 1, 3) := by decide +kernel
theorem d_Mo_define_117 : decode b_Mo_define 117 = .ok (.goto (-82), 3) := by decide +kernel
theorem d_Mo_define_120 : decode b_Mo_define 120 = .ok (.iconst 0, 1) := by decide +kernel
theorem d_Mo_define_121 : decode b_Mo_define 121 = .ok (.istore_n 2, 1) := by decide +kernel
theorem d_Mo_define_122 : decode b_Mo_define 122 = .ok (.iload_n 2, 1) := by decide +kernel
theorem d_Mo_define_123 : decode b_Mo_define 123 = .ok (.aload_n 0, 1) := by decide +kernel
theorem d_Mo_define_124 : decode b_Mo_define 124 = .ok (.getfield 129, 3) := by decide +kernel
theorem d_Mo_define_127 : decode b_Mo_define 127 = .ok (.if_icmp .ge 182, 3) := by decide +kernel
theorem d_Mo_define_130 : decode b_Mo_define 130 = .ok (.iconst 0, 1) := by decide +kernel
theorem d_Mo_define_131 : decode b_Mo_define 131 = .ok (.istore_n 3, 1) := by decide +kernel
theorem d_Mo_define_132 : decode b_Mo_define 132 = .ok (.iload_n 3, 1) := by decide +kernel
theorem d_Mo_define_133 : decode b_Mo_define 133 = .ok (.aload_n 0, 1) := by decide +kernel
theorem d_Mo_define_134 : decode b_Mo_define 134 = .ok (.getfield 157, 3) := by decide +kernel
theorem d_Mo_define_137 : decode b_Mo_define 137 = .ok (.if_icmp .ge 166, 3) := by decide +kernel
theorem d_Mo_define_140 : decode b_Mo_define 140 = .ok (.aload_n 0, 1) := by decide +kernel
theorem d_Mo_define_141 : decode b_Mo_define 141 = .ok (.getfield 48, 3) := by decide +kernel
theorem d_Mo_define_144 : decode b_Mo_define 144 = .ok (.iload_n 3, 1) := by decide +kernel
theorem d_Mo_define_145 : decode b_Mo_define 145 = .ok (.iaload, 1) := by decide +kernel
theorem d_Mo_define_146 : decode b_Mo_define 146 = .ok (.istore 4, 2) := by decide +kernel
theorem d_Mo_define_148 : decode b_Mo_define 148 = .ok (.aload_n 0, 1) := by decide +kernel
theorem d_Mo_define_149 : decode b_Mo_define 149 = .ok (.getfield 36, 3) := by decide +kernel
theorem d_Mo_define_152 : decode b_Mo_define 152 = .ok (.iload_n 3, 1) := by decide +kernel
theorem d_Mo_define_153 : decode b_Mo_define 153 = .ok (.iaload, 1) := by decide +kernel
theorem d_Mo_define_154 : decode b_Mo_define 154 = .ok (.iload_n 2, 1) := by decide +kernel
theorem d_Mo_define_155 : decode b_Mo_define 155 = .ok (.if_icmp .ne 142, 3) := by decide +kernel
theorem d_Mo_define_158 : decode b_Mo_define 158 = .ok (.aload_n 0, 1) := by decide +kernel
theorem d_Mo_define_159 : decode b_Mo_define 159 = .ok (.getfield 79, 3) := by decide +kernel
theorem d_Mo_define_162 : decode b_Mo_define 162 = .ok (.iload_n 2, 1) := by decide +kernel
theorem d_Mo_define_163 : decode b_Mo_define 163 = .ok (.baload, 1) := by decide +kernel
theorem d_Mo_define_164 : decode b_Mo_define 164 = .ok (.ifCond .eq 133, 3) := by decide +kernel
theorem d_Mo_define_167 : decode b_Mo_define 167 = .ok (.aload_n 0, 1) := by decide +kernel
theorem d_Mo_define_168 : decode b_Mo_define 168 = .ok (.getfield 39, 3) := by decide +kernel
theorem d_Mo_define_171 : decode b_Mo_define 171 = .ok (.iload_n 3, 1) := by decide +kernel
theorem d_Mo_define_172 : decode b_Mo_define 172 = .ok (.iaload, 1) := by decide +kernel
theorem d_Mo_define_173 : decode b_Mo_define 173 = .ok (.iconst 1, 1) := by decide +kernel
theorem d_Mo_define_174 : decode b_Mo_define 174 = .ok (.if_icmp .ne 6, 3) := by decide +kernel
theorem d_Mo_define_177 : decode b_Mo_define 177 = .ok (.goto 120, 3) := by decide +kernel
theorem d_Mo_define_180 : decode b_Mo_define 180 = .ok (.aload_n 0, 1) := by decide +kernel
theorem d_Mo_define_181 : decode b_Mo_define 181 = .ok (.getfield 82, 3) := by decide +kernel
theorem d_Mo_define_184 : decode b_Mo_define 184 = .ok (.iload 4, 2) := by decide +kernel
theorem d_Mo_define_186 : decode b_Mo_define 186 = .ok (.iaload, 1) := by decide +kernel
theorem d_Mo_define_187 : decode b_Mo_define 187 = .ok (.iconst (-1), 1) := by decide +kernel
theorem d_Mo_define_188 : decode b_Mo_define 188 = .ok (.if_icmp .eq 23, 3) := by decide +kernel
theorem d_Mo_define_191 : decode b_Mo_define 191 = .ok (.aload_n 0, 1) := by decide +kernel
theorem d_Mo_define_192 : decode b_Mo_define 192 = .ok (.getfield 51, 3) := by decide +kernel
theorem d_Mo_define_195 : decode b_Mo_define 195 = .ok (.aload_n 0, 1) := by decide +kernel
theorem d_Mo_define_196 : decode b_Mo_define 196 = .ok (.getfield 82, 3) := by decide +kernel
theorem d_Mo_define_199 : decode b_Mo_define 199 = .ok (.iload 4, 2) := by decide +kernel
theorem d_Mo_define_201 : decode b_Mo_define 201 = .ok (.iaload, 1) := by decide +kernel
theorem d_Mo_define_202 : decode b_Mo_define 202 = .ok (.iaload, 1) := by decide +kernel
theorem d_Mo_define_203 : decode b_Mo_define 203 = .ok (.iconst 1, 1) := by decide +kernel
theorem d_Mo_define_204 : decode b_Mo_define 204 = .ok (.if_icmp .ne 7, 3) := by decide +kernel
theorem d_Mo_define_207 : decode b_Mo_define 207 = .ok (.iconst 1, 1) := by decide +kernel
theorem d_Mo_define_208 : decode b_Mo_define 208 = .ok (.goto 4, 3) := by decide +kernel
theorem d_Mo_define_211 : decode b_Mo_define 211 = .ok (.iconst 0, 1) := by decide +kernel
theorem d_Mo_define_212 : decode b_Mo_define 212 = .ok (.istore 5, 2) := by decide +kernel
theorem d_Mo_define_214 : decode b_Mo_define 214 = .ok (.aload_n 0, 1) := by decide +kernel
theorem d_Mo_define_215 : decode b_Mo_define 215 = .ok (.getfield 51, 3) := by decide +kernel
theorem d_Mo_define_218 : decode b_Mo_define 218 = .ok (.iload_n 3, 1) := by decide +kernel
theorem d_Mo_define_219 : decode b_Mo_define 219 = .ok (.iaload, 1) := by decide +kernel
theorem d_Mo_define_220 : decode b_Mo_define 220 = .ok (.iconst 1, 1) := by decide +kernel
theorem d_Mo_define_221 : decode b_Mo_define 221 = .ok (.if_icmp .ne 47, 3) := by decide +kernel
theorem d_Mo_define_224 : decode b_Mo_define 224 = .ok (.iload 5, 2) := by decide +kernel
theorem d_Mo_define_226 : decode b_Mo_define 226 = .ok (.ifCond .eq 14, 3) := by decide +kernel
theorem d_Mo_define_229 : decode b_Mo_define 229 = .ok (.iload 4, 2) := by decide +kernel
theorem d_Mo_define_231 : decode b_Mo_define 231 = .ok (.iload_n 1, 1) := by decide +kernel
theorem d_Mo_define_232 : decode b_Mo_define 232 = .ok (.if_icmp .ge 8, 3) := by decide +kernel
theorem d_Mo_define_235 : decode b_Mo_define 235 = .ok (.iload 4, 2) := by decide +kernel
theorem d_Mo_define_237 : decode b_Mo_define 237 = .ok (.goto 4, 3) := by decide +kernel
theorem d_Mo_define_240 : decode b_Mo_define 240 = .ok (.iload_n 1, 1) := by decide +kernel
theorem d_Mo_define_241 : decode b_Mo_define 241 = .ok (.istore_n 1, 1) := by decide +kernel
theorem d_Mo_define_242 : decode b_Mo_define 242 = .ok (.aload_n 0, 1) := by decide +kernel
theorem d_Mo_define_243 : decode b_Mo_define 243 = .ok (.getfield 82, 3) := by decide +kernel
theorem d_Mo_define_246 : decode b_Mo_define 246 = .ok (.iload 4, 2) := by decide +kernel
theorem d_Mo_define_248 : decode b_Mo_define 248 = .ok (.iload 5, 2) := by decide +kernel
theorem d_Mo_define_250 : decode b_Mo_define 250 = .ok (.ifCond .eq 13, 3) := by decide +kernel
theorem d_Mo_define_253 : decode b_Mo_define 253 = .ok (.aload_n 0, 1) := by decide +kernel
theorem d_Mo_define_254 : decode b_Mo_define 254 = .ok (.getfield 82, 3) := by decide +kernel
theorem d_Mo_define_257 : decode b_Mo_define 257 = .ok (.iload 4, 2) := by decide +kernel
theorem d_Mo_define_259 : decode b_Mo_define 259 = .ok (.iaload, 1) := by decide +kernel
theorem d_Mo_define_260 : decode b_Mo_define 260 = .ok (.goto 4, 3) := by decide +kernel
theorem d_Mo_define_263 : decode b_Mo_define 263 = .ok (.iload_n 3, 1) := by decide +kernel
theorem d_Mo_define_264 : decode b_Mo_define 264 = .ok (.iastore, 1) := by decide +kernel
theorem d_Mo_define_265 : decode b_Mo_define 265 = .ok (.goto 32, 3) := by decide +kernel
theorem d_Mo_define_268 : decode b_Mo_define 268 = .ok (.aload_n 0, 1) := by decide +kernel
theorem d_Mo_define_269 : decode b_Mo_define 269 = .ok (.getfield 51, 3) := by decide +kernel
theorem d_Mo_define_272 : decode b_Mo_define 272 = .ok (.iload_n 3, 1) := by decide +kernel
theorem d_Mo_define_273 : decode b_Mo_define 273 = .ok (.iaload, 1) := by decide +kernel
theorem d_Mo_define_274 : decode b_Mo_define 274 = .ok (.iconst 2, 1) := by decide +kernel
theorem d_Mo_define_275 : decode b_Mo_define 275 = .ok (.if_icmp .ne 22, 3) := by decide +kernel
theorem d_Mo_define_278 : decode b_Mo_define 278 = .ok (.aload_n 0, 1) := by decide +kernel
theorem d_Mo_define_279 : decode b_Mo_define 279 = .ok (.getfield 82, 3) := by decide +kernel
theorem d_Mo_define_282 : decode b_Mo_define 282 = .ok (.iload 4, 2) := by decide +kernel
theorem d_Mo_define_284 : decode b_Mo_define 284 = .ok (.iaload, 1) := by decide +kernel
theorem d_Mo_define_285 : decode b_Mo_define 285 = .ok (.iconst (-1), 1) := by decide +kernel
theorem d_Mo_define_286 : decode b_Mo_define 286 = .ok (.if_icmp .ne 11, 3) := by decide +kernel
theorem d_Mo_define_289 : decode b_Mo_define 289 = .ok (.aload_n 0, 1) := by decide +kernel
theorem d_Mo_define_290 : decode b_Mo_define 290 = .ok (.getfield 82, 3) := by decide +kernel
theorem d_Mo_define_293 : decode b_Mo_define 293 = .ok (.iload 4, 2) := by decide +kernel
theorem d_Mo_define_295 : decode b_Mo_define 295 = .ok (.iload_n 3, 1) := by decide +kernel
theorem d_Mo_define_296 : decode b_Mo_define 296 = .ok (.iastore, 1) := by decide +kernel
theorem d_Mo_define_297 : decode b_Mo_define 297 = .ok (.iinc 3 1, 3) := by decide +kernel
theorem d_Mo_define_300 : decode b_Mo_define 300 = .ok (.goto (-168), 3) := by decide +kernel
theorem d_Mo_define_303 : decode b_Mo_define 303 = .ok (.iinc 2 1, 3) := by decide +kernel
theorem d_Mo_define_306 : decode b_Mo_define 306 = .ok (.goto (-184), 3) := by decide +kernel
theorem d_Mo_define_309 : decode b_Mo_define 309 = .ok (.iconst 0, 1) := by decide +kernel
theorem d_Mo_define_310 : decode b_Mo_define 310 = .ok (.istore_n 2, 1) := by decide +kernel
theorem d_Mo_define_311 : decode b_Mo_define 311 = .ok (.iload_n 2, 1) := by decide +kernel
theorem d_Mo_define_312 : decode b_Mo_define 312 = .ok (.sipush 200, 3) := by decide +kernel
theorem d_Mo_define_315 : decode b_Mo_define 315 = .ok (.if_icmp .ge 70, 3) := by decide +kernel
theorem d_Mo_define_318 : decode b_Mo_define 318 = .ok (.aload_n 0, 1) := by decide +kernel
theorem d_Mo_define_319 : decode b_Mo_define 319 = .ok (.getfield 82, 3) := by decide +kernel
theorem d_Mo_define_322 : decode b_Mo_define 322 = .ok (.iload_n 2, 1) := by decide +kernel
theorem d_Mo_define_323 : decode b_Mo_define 323 = .ok (.iaload, 1) := by decide +kernel
theorem d_Mo_define_324 : decode b_Mo_define 324 = .ok (.iconst (-1), 1) := by decide +kernel
theorem d_Mo_define_325 : decode b_Mo_define 325 = .ok (.if_icmp .eq 22, 3) := by decide +kernel
theorem d_Mo_define_328 : decode b_Mo_define 328 = .ok (.aload_n 0, 1) := by decide +kernel
theorem d_Mo_define_329 : decode b_Mo_define 329 = .ok (.getfield 51, 3) := by decide +kernel
theorem d_Mo_define_332 : decode b_Mo_define 332 = .ok (.aload_n 0, 1) := by decide +kernel
theorem d_Mo_define_333 : decode b_Mo_define 333 = .ok (.getfield 82, 3) := by decide +kernel
theorem d_Mo_define_336 : decode b_Mo_define 336 = .ok (.iload_n 2, 1) := by decide +kernel
theorem d_Mo_define_337 : decode b_Mo_define 337 = .ok (.iaload, 1) := by decide +kernel
theorem d_Mo_define_338 : decode b_Mo_define 338 = .ok (.iaload, 1) := by decide +kernel
theorem d_Mo_define_339 : decode b_Mo_define 339 = .ok (.iconst 1, 1) := by decide +kernel
theorem d_Mo_define_340 : decode b_Mo_define 340 = .ok (.if_icmp .ne 7, 3) := by decide +kernel
theorem d_Mo_define_343 : decode b_Mo_define 343 = .ok (.iconst 1, 1) := by decide +kernel
theorem d_Mo_define_344 : decode b_Mo_define 344 = .ok (.goto 4, 3) := by decide +kernel
theorem d_Mo_define_347 : decode b_Mo_define 347 = .ok (.iconst 0, 1) := by decide +kernel
theorem d_Mo_define_348 : decode b_Mo_define 348 = .ok (.istore_n 3, 1) := by decide +kernel
theorem d_Mo_define_349 : decode b_Mo_define 349 = .ok (.iload_n 3, 1) := by decide +kernel
theorem d_Mo_define_350 : decode b_Mo_define 350 = .ok (.ifCond .eq 13, 3) := by decide +kernel
theorem d_Mo_define_353 : decode b_Mo_define 353 = .ok (.aload_n 0, 1) := by decide +kernel
theorem d_Mo_define_354 : decode b_Mo_define 354 = .ok (.getfield 85, 3) := by decide +kernel
theorem d_Mo_define_357 : decode b_Mo_define 357 = .ok (.iload_n 2, 1) := by decide +kernel
theorem d_Mo_define_358 : decode b_Mo_define 358 = .ok (.iconst 0, 1) := by decide +kernel
theorem d_Mo_define_359 : decode b_Mo_define 359 = .ok (.iastore, 1) := by decide +kernel
theorem d_Mo_define_360 : decode b_Mo_define 360 = .ok (.goto 19, 3) := by decide +kernel
theorem d_Mo_define_363 : decode b_Mo_define 363 = .ok (.aload_n 0, 1) := by decide +kernel
theorem d_Mo_define_364 : decode b_Mo_define 364 = .ok (.getfield 85, 3) := by decide +kernel
theorem d_Mo_define_367 : decode b_Mo_define 367 = .ok (.iload_n 2, 1) := by decide +kernel
theorem d_Mo_define_368 : decode b_Mo_define 368 = .ok (.iaload, 1) := by decide +kernel
theorem d_Mo_define_369 : decode b_Mo_define 369 = .ok (.ifCond .le 10, 3) := by decide +kernel
theorem d_Mo_define_372 : decode b_Mo_define 372 = .ok (.aload_n 0, 1) := by decide +kernel
theorem d_Mo_define_373 : decode b_Mo_define 373 = .ok (.getfield 82, 3) := by decide +kernel
theorem d_Mo_define_376 : decode b_Mo_define 376 = .ok (.iload_n 2, 1) := by decide +kernel
theorem d_Mo_define_377 : decode b_Mo_define 377 = .ok (.iconst (-1), 1) := by decide +kernel
theorem d_Mo_define_378 : decode b_Mo_define 378 = .ok (.iastore, 1) := by decide +kernel
theorem d_Mo_define_379 : decode b_Mo_define 379 = .ok (.iinc 2 1, 3) := by decide +kernel
theorem d_Mo_define_382 : decode b_Mo_define 382 = .ok (.goto (-71), 3) := by decide +kernel
theorem d_Mo_define_385 : decode b_Mo_define 385 = .ok (.iload_n 1, 1) := by decide +kernel
theorem d_Mo_define_386 : decode b_Mo_define 386 = .ok (.sipush 200, 3) := by decide +kernel
theorem d_Mo_define_389 : decode b_Mo_define 389 = .ok (.if_icmp .eq 13, 3) := by decide +kernel
theorem d_Mo_define_392 : decode b_Mo_define 392 = .ok (.aload_n 0, 1) := by decide +kernel
theorem d_Mo_define_393 : decode b_Mo_define 393 = .ok (.iconst 1, 1) := by decide +kernel
theorem d_Mo_define_394 : decode b_Mo_define 394 = .ok (.iload_n 1, 1) := by decide +kernel
theorem d_Mo_define_395 : decode b_Mo_define 395 = .ok (.iconst (-1), 1) := by decide +kernel
theorem d_Mo_define_396 : decode b_Mo_define 396 = .ok (.invokevirtual 188, 3) := by decide +kernel
theorem d_Mo_define_399 : decode b_Mo_define 399 = .ok (.ifCond .eq 7, 3) := by decide +kernel
theorem d_Mo_define_402 : decode b_Mo_define 402 = .ok (.iconst 1, 1) := by decide +kernel
theorem d_Mo_define_403 : decode b_Mo_define 403 = .ok (.goto 4, 3) := by decide +kernel
theorem d_Mo_define_406 : decode b_Mo_define 406 = .ok (.iconst 0, 1) := by decide +kernel
theorem d_Mo_define_407 : decode b_Mo_define 407 = .ok (.ireturn, 1) := by decide +kernel
theorem d_Mo_itself_0 : decode b_Mo_itself 0 = .ok (.aload_n 0, 1) := by decide +kernel
theorem d_Mo_itself_1 : decode b_Mo_itself 1 = .ok (.getfield 51, 3) := by decide +kernel
theorem d_Mo_itself_4 : decode b_Mo_itself 4 = .ok (.iload_n 1, 1) := by decide +kernel
theorem d_Mo_itself_5 : decode b_Mo_itself 5 = .ok (.iaload, 1) := by decide +kernel
theorem d_Mo_itself_6 : decode b_Mo_itself 6 = .ok (.ifCond .ne 7, 3) := by decide +kernel
theorem d_Mo_itself_9 : decode b_Mo_itself 9 = .ok (.iload_n 1, 1) := by decide +kernel
theorem d_Mo_itself_10 : decode b_Mo_itself 10 = .ok (.goto 14, 3) := by decide +kernel
theorem d_Mo_itself_13 : decode b_Mo_itself 13 = .ok (.aload_n 0, 1) := by decide +kernel
theorem d_Mo_itself_14 : decode b_Mo_itself 14 = .ok (.getfield 82, 3) := by decide +kernel
theorem d_Mo_itself_17 : decode b_Mo_itself 17 = .ok (.aload_n 0, 1) := by decide +kernel
theorem d_Mo_itself_18 : decode b_Mo_itself 18 = .ok (.getfield 48, 3) := by decide +kernel
theorem d_Mo_itself_21 : decode b_Mo_itself 21 = .ok (.iload_n 1, 1) := by decide +kernel
theorem d_Mo_itself_22 : decode b_Mo_itself 22 = .ok (.iaload, 1) := by decide +kernel
theorem d_Mo_itself_23 : decode b_Mo_itself 23 = .ok (.iaload, 1) := by decide +kernel
theorem d_Mo_itself_24 : decode b_Mo_itself 24 = .ok (.ireturn, 1) := by decide +kernel
theorem d_Mo_isCommon_0 : decode b_Mo_isCommon 0 = .ok (.aload_n 0, 1) := by decide +kernel
theorem d_Mo_isCommon_1 : decode b_Mo_isCommon 1 = .ok (.getfield 51, 3) := by decide +kernel
theorem d_Mo_isCommon_4 : decode b_Mo_isCommon 4 = .ok (.iload_n 1, 1) := by decide +kernel
theorem d_Mo_isCommon_5 : decode b_Mo_isCommon 5 = .ok (.iaload, 1) := by decide +kernel
theorem d_Mo_isCommon_6 : decode b_Mo_isCommon 6 = .ok (.ifCond .eq 21, 3) := by decide +kernel
theorem d_Mo_isCommon_9 : decode b_Mo_isCommon 9 = .ok (.aload_n 0, 1) := by decide +kernel
theorem d_Mo_isCommon_10 : decode b_Mo_isCommon 10 = .ok (.getfield 85, 3) := by decide +kernel
theorem d_Mo_isCommon_13 : decode b_Mo_isCommon 13 = .ok (.aload_n 0, 1) := by decide +kernel
theorem d_Mo_isCommon_14 : decode b_Mo_isCommon 14 = .ok (.getfield 48, 3) := by decide +kernel
theorem d_Mo_isCommon_17 : decode b_Mo_isCommon 17 = .ok (.iload_n 1, 1) := by decide +kernel
theorem d_Mo_isCommon_18 : decode b_Mo_isCommon 18 = .ok (.iaload, 1) := by decide +kernel
theorem d_Mo_isCommon_19 : decode b_Mo_isCommon 19 = .ok (.iaload, 1) := by decide +kernel
theorem d_Mo_isCommon_20 : decode b_Mo_isCommon 20 = .ok (.ifCond .le 7, 3) := by decide +kernel
theorem d_Mo_isCommon_23 : decode b_Mo_isCommon 23 = .ok (.iconst 1, 1) := by decide +kernel
theorem d_Mo_isCommon_24 : decode b_Mo_isCommon 24 = .ok (.goto 4, 3) := by decide +kernel
theorem d_Mo_isCommon_27 : decode b_Mo_isCommon 27 = .ok (.iconst 0, 1) := by decide +kernel
theorem d_Mo_isCommon_28 : decode b_Mo_isCommon 28 = .ok (.ireturn, 1) := by decide +kernel
theorem d_Mo_sortOf_0 : decode b_Mo_sortOf 0 = .ok (.aload_n 0, 1) := by decide +kernel
theorem d_Mo_sortOf_1 : decode b_Mo_sortOf 1 = .ok (.iload_n 1, 1) := by decide +kernel
theorem d_Mo_sortOf_2 : decode b_Mo_sortOf 2 = .ok (.invokevirtual 191, 3) := by decide +kernel
theorem d_Mo_sortOf_5 : decode b_Mo_sortOf 5 = .ok (.ifCond .eq 5, 3) := by decide +kernel
theorem d_Mo_sortOf_8 : decode b_Mo_sortOf 8 = .ok (.iconst 3, 1) := by decide +kernel
theorem d_Mo_sortOf_9 : decode b_Mo_sortOf 9 = .ok (.ireturn, 1) := by decide +kernel
theorem d_Mo_sortOf_10 : decode b_Mo_sortOf 10 = .ok (.aload_n 0, 1) := by decide +kernel
theorem d_Mo_sortOf_11 : decode b_Mo_sortOf 11 = .ok (.iload_n 1, 1) := by decide +kernel
theorem d_Mo_sortOf_12 : decode b_Mo_sortOf 12 = .ok (.invokevirtual 194, 3) := by decide +kernel
theorem d_Mo_sortOf_15 : decode b_Mo_sortOf 15 = .ok (.istore_n 2, 1) := by decide +kernel
theorem d_Mo_sortOf_16 : decode b_Mo_sortOf 16 = .ok (.iload_n 2, 1) := by decide +kernel
theorem d_Mo_sortOf_17 : decode b_Mo_sortOf 17 = .ok (.iconst (-1), 1) := by decide +kernel
theorem d_Mo_sortOf_18 : decode b_Mo_sortOf 18 = .ok (.if_icmp .ne 19, 3) := by decide +kernel
theorem d_Mo_sortOf_21 : decode b_Mo_sortOf 21 = .ok (.aload_n 0, 1) := by decide +kernel
theorem d_Mo_sortOf_22 : decode b_Mo_sortOf 22 = .ok (.getfield 51, 3) := by decide +kernel
theorem d_Mo_sortOf_25 : decode b_Mo_sortOf 25 = .ok (.iload_n 1, 1) := by decide +kernel
theorem d_Mo_sortOf_26 : decode b_Mo_sortOf 26 = .ok (.iaload, 1) := by decide +kernel
theorem d_Mo_sortOf_27 : decode b_Mo_sortOf 27 = .ok (.iconst 2, 1) := by decide +kernel
theorem d_Mo_sortOf_28 : decode b_Mo_sortOf 28 = .ok (.if_icmp .ne 7, 3) := by decide +kernel
theorem d_Mo_sortOf_31 : decode b_Mo_sortOf 31 = .ok (.iconst 2, 1) := by decide +kernel
theorem d_Mo_sortOf_32 : decode b_Mo_sortOf 32 = .ok (.goto 4, 3) := by decide +kernel
theorem d_Mo_sortOf_35 : decode b_Mo_sortOf 35 = .ok (.iconst 0, 1) := by decide +kernel
theorem d_Mo_sortOf_36 : decode b_Mo_sortOf 36 = .ok (.ireturn, 1) := by decide +kernel
theorem d_Mo_sortOf_37 : decode b_Mo_sortOf 37 = .ok (.aload_n 0, 1) := by decide +kernel
theorem d_Mo_sortOf_38 : decode b_Mo_sortOf 38 = .ok (.getfield 39, 3) := by decide +kernel
theorem d_Mo_sortOf_41 : decode b_Mo_sortOf 41 = .ok (.iload_n 2, 1) := by decide +kernel
theorem d_Mo_sortOf_42 : decode b_Mo_sortOf 42 = .ok (.iaload, 1) := by decide +kernel
theorem d_Mo_sortOf_43 : decode b_Mo_sortOf 43 = .ok (.ifCond .ne 7, 3) := by decide +kernel
theorem d_Mo_sortOf_46 : decode b_Mo_sortOf 46 = .ok (.iconst 1, 1) := by decide +kernel
theorem d_Mo_sortOf_47 : decode b_Mo_sortOf 47 = .ok (.goto 4, 3) := by decide +kernel
theorem d_Mo_sortOf_50 : decode b_Mo_sortOf 50 = .ok (.iconst 2, 1) := by decide +kernel
theorem d_Mo_sortOf_51 : decode b_Mo_sortOf 51 = .ok (.ireturn, 1) := by decide +kernel
theorem d_Mo_numberOf_0 : decode b_Mo_numberOf 0 = .ok (.aload_n 0, 1) := by decide +kernel
theorem d_Mo_numberOf_1 : decode b_Mo_numberOf 1 = .ok (.iload_n 1, 1) := by decide +kernel
theorem d_Mo_numberOf_2 : decode b_Mo_numberOf 2 = .ok (.invokevirtual 194, 3) := by decide +kernel
theorem d_Mo_numberOf_5 : decode b_Mo_numberOf 5 = .ok (.istore_n 2, 1) := by decide +kernel
theorem d_Mo_numberOf_6 : decode b_Mo_numberOf 6 = .ok (.iload_n 2, 1) := by decide +kernel
theorem d_Mo_numberOf_7 : decode b_Mo_numberOf 7 = .ok (.iconst (-1), 1) := by decide +kernel
theorem d_Mo_numberOf_8 : decode b_Mo_numberOf 8 = .ok (.if_icmp .ne 7, 3) := by decide +kernel
theorem d_Mo_numberOf_11 : decode b_Mo_numberOf 11 = .ok (.iconst 0, 1) := by decide +kernel
theorem d_Mo_numberOf_12 : decode b_Mo_numberOf 12 = .ok (.goto 9, 3) := by decide +kernel
theorem d_Mo_numberOf_15 : decode b_Mo_numberOf 15 = .ok (.aload_n 0, 1) := by decide +kernel
theorem d_Mo_numberOf_16 : decode b_Mo_numberOf 16 = .ok (.getfield 45, 3) := by decide +kernel
theorem d_Mo_numberOf_19 : decode b_Mo_numberOf 19 = .ok (.iload_n 2, 1) := by decide +kernel
theorem d_Mo_numberOf_20 : decode b_Mo_numberOf 20 = .ok (.iaload, 1) := by decide +kernel
theorem d_Mo_numberOf_21 : decode b_Mo_numberOf 21 = .ok (.ireturn, 1) := by decide +kernel
theorem d_Mo_sectionOf_0 : decode b_Mo_sectionOf 0 = .ok (.aload_n 0, 1) := by decide +kernel
theorem d_Mo_sectionOf_1 : decode b_Mo_sectionOf 1 = .ok (.iload_n 1, 1) := by decide +kernel
theorem d_Mo_sectionOf_2 : decode b_Mo_sectionOf 2 = .ok (.invokevirtual 198, 3) := by decide +kernel
theorem d_Mo_sectionOf_5 : decode b_Mo_sectionOf 5 = .ok (.iconst 1, 1) := by decide +kernel
theorem d_Mo_sectionOf_6 : decode b_Mo_sectionOf 6 = .ok (.if_icmp .ne 16, 3) := by decide +kernel
theorem d_Mo_sectionOf_9 : decode b_Mo_sectionOf 9 = .ok (.aload_n 0, 1) := by decide +kernel
theorem d_Mo_sectionOf_10 : decode b_Mo_sectionOf 10 = .ok (.getfield 42, 3) := by decide +kernel
theorem d_Mo_sectionOf_13 : decode b_Mo_sectionOf 13 = .ok (.aload_n 0, 1) := by decide +kernel
theorem d_Mo_sectionOf_14 : decode b_Mo_sectionOf 14 = .ok (.iload_n 1, 1) := by decide +kernel
theorem d_Mo_sectionOf_15 : decode b_Mo_sectionOf 15 = .ok (.invokevirtual 194, 3) := by decide +kernel
theorem d_Mo_sectionOf_18 : decode b_Mo_sectionOf 18 = .ok (.iaload, 1) := by decide +kernel
theorem d_Mo_sectionOf_19 : decode b_Mo_sectionOf 19 = .ok (.goto 4, 3) := by decide +kernel
theorem d_Mo_sectionOf_22 : decode b_Mo_sectionOf 22 = .ok (.iconst (-1), 1) := by decide +kernel
theorem d_Mo_sectionOf_23 : decode b_Mo_sectionOf 23 = .ok (.ireturn, 1) := by decide +kernel
theorem d_Mo_reachBy_0 : decode b_Mo_reachBy 0 = .ok (.aload_n 0, 1) := by decide +kernel
theorem d_Mo_reachBy_1 : decode b_Mo_reachBy 1 = .ok (.getfield 63, 3) := by decide +kernel
theorem d_Mo_reachBy_4 : decode b_Mo_reachBy 4 = .ok (.iload_n 1, 1) := by decide +kernel
theorem d_Mo_reachBy_5 : decode b_Mo_reachBy 5 = .ok (.iaload, 1) := by decide +kernel
theorem d_Mo_reachBy_6 : decode b_Mo_reachBy 6 = .ok (.istore_n 2, 1) := by decide +kernel
theorem d_Mo_reachBy_7 : decode b_Mo_reachBy 7 = .ok (.aload_n 0, 1) := by decide +kernel
theorem d_Mo_reachBy_8 : decode b_Mo_reachBy 8 = .ok (.getfield 94, 3) := by decide +kernel
theorem d_Mo_reachBy_11 : decode b_Mo_reachBy 11 = .ok (.aload_n 0, 1) := by decide +kernel
theorem d_Mo_reachBy_12 : decode b_Mo_reachBy 12 = .ok (.getfield 54, 3) := by decide +kernel
theorem d_Mo_reachBy_15 : decode b_Mo_reachBy 15 = .ok (.iload_n 1, 1) := by decide +kernel
theorem d_Mo_reachBy_16 : decode b_Mo_reachBy 16 = .ok (.iaload, 1) := by decide +kernel
theorem d_Mo_reachBy_17 : decode b_Mo_reachBy 17 = .ok (.baload, 1) := by decide +kernel
theorem d_Mo_reachBy_18 : decode b_Mo_reachBy 18 = .ok (.ifCond .ne 5, 3) := by decide +kernel
theorem d_Mo_reachBy_21 : decode b_Mo_reachBy 21 = .ok (.iconst 0, 1) := by decide +kernel
theorem d_Mo_reachBy_22 : decode b_Mo_reachBy 22 = .ok (.ireturn, 1) := by decide +kernel
theorem d_Mo_reachBy_23 : decode b_Mo_reachBy 23 = .ok (.aload_n 0, 1) := by decide +kernel
theorem d_Mo_reachBy_24 : decode b_Mo_reachBy 24 = .ok (.iload_n 2, 1) := by decide +kernel
theorem d_Mo_reachBy_25 : decode b_Mo_reachBy 25 = .ok (.invokevirtual 204, 3) := by decide +kernel
theorem d_Mo_reachBy_28 : decode b_Mo_reachBy 28 = .ok (.istore_n 3, 1) := by decide +kernel
theorem d_Mo_reachBy_29 : decode b_Mo_reachBy 29 = .ok (.iload_n 3, 1) := by decide +kernel
theorem d_Mo_reachBy_30 : decode b_Mo_reachBy 30 = .ok (.iconst (-1), 1) := by decide +kernel
theorem d_Mo_reachBy_31 : decode b_Mo_reachBy 31 = .ok (.if_icmp .eq 16, 3) := by decide +kernel
theorem d_Mo_reachBy_34 : decode b_Mo_reachBy 34 = .ok (.aload_n 0, 1) := by decide +kernel
theorem d_Mo_reachBy_35 : decode b_Mo_reachBy 35 = .ok (.getfield 94, 3) := by decide +kernel
theorem d_Mo_reachBy_38 : decode b_Mo_reachBy 38 = .ok (.iload_n 3, 1) := by decide +kernel
theorem d_Mo_reachBy_39 : decode b_Mo_reachBy 39 = .ok (.baload, 1) := by decide +kernel
theorem d_Mo_reachBy_40 : decode b_Mo_reachBy 40 = .ok (.ifCond .ne 7, 3) := by decide +kernel
theorem d_Mo_reachBy_43 : decode b_Mo_reachBy 43 = .ok (.iconst 1, 1) := by decide +kernel
theorem d_Mo_reachBy_44 : decode b_Mo_reachBy 44 = .ok (.goto 4, 3) := by decide +kernel
theorem d_Mo_reachBy_47 : decode b_Mo_reachBy 47 = .ok (.iconst 0, 1) := by decide +kernel
theorem d_Mo_reachBy_48 : decode b_Mo_reachBy 48 = .ok (.istore 4, 2) := by decide +kernel
theorem d_Mo_reachBy_50 : decode b_Mo_reachBy 50 = .ok (.iload 4, 2) := by decide +kernel
theorem d_Mo_reachBy_52 : decode b_Mo_reachBy 52 = .ok (.ifCond .eq 10, 3) := by decide +kernel
theorem d_Mo_reachBy_55 : decode b_Mo_reachBy 55 = .ok (.aload_n 0, 1) := by decide +kernel
theorem d_Mo_reachBy_56 : decode b_Mo_reachBy 56 = .ok (.getfield 94, 3) := by decide +kernel
theorem d_Mo_reachBy_59 : decode b_Mo_reachBy 59 = .ok (.iload_n 3, 1) := by decide +kernel
theorem d_Mo_reachBy_60 : decode b_Mo_reachBy 60 = .ok (.iconst 1, 1) := by decide +kernel
theorem d_Mo_reachBy_61 : decode b_Mo_reachBy 61 = .ok (.bastore, 1) := by decide +kernel
theorem d_Mo_reachBy_62 : decode b_Mo_reachBy 62 = .ok (.aload_n 0, 1) := by decide +kernel
theorem d_Mo_reachBy_63 : decode b_Mo_reachBy 63 = .ok (.iload_n 2, 1) := by decide +kernel
theorem d_Mo_reachBy_64 : decode b_Mo_reachBy 64 = .ok (.invokevirtual 191, 3) := by decide +kernel
theorem d_Mo_reachBy_67 : decode b_Mo_reachBy 67 = .ok (.ifCond .eq 15, 3) := by decide +kernel
theorem d_Mo_reachBy_70 : decode b_Mo_reachBy 70 = .ok (.aload_n 0, 1) := by decide +kernel
theorem d_Mo_reachBy_71 : decode b_Mo_reachBy 71 = .ok (.getfield 88, 3) := by decide +kernel
theorem d_Mo_reachBy_74 : decode b_Mo_reachBy 74 = .ok (.aload_n 0, 1) := by decide +kernel
theorem d_Mo_reachBy_75 : decode b_Mo_reachBy 75 = .ok (.getfield 48, 3) := by decide +kernel
theorem d_Mo_reachBy_78 : decode b_Mo_reachBy 78 = .ok (.iload_n 2, 1) := by decide +kernel
theorem d_Mo_reachBy_79 : decode b_Mo_reachBy 79 = .ok (.iaload, 1) := by decide +kernel
theorem d_Mo_reachBy_80 : decode b_Mo_reachBy 80 = .ok (.iconst 1, 1) := by decide +kernel
theorem d_Mo_reachBy_81 : decode b_Mo_reachBy 81 = .ok (.bastore, 1) := by decide +kernel
theorem d_Mo_reachBy_82 : decode b_Mo_reachBy 82 = .ok (.iload 4, 2) := by decide +kernel
theorem d_Mo_reachBy_84 : decode b_Mo_reachBy 84 = .ok (.ireturn, 1) := by decide +kernel
