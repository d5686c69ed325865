theorem fl_Mo_97 : FL R_Mo 97 12 42 := ⟨R_Mo, F_Mo, N_Mo, rfl, by decide, i_Mo, (mw 1608 (by decide +kernel))⟩
theorem ml_Mo_201 : MLb R_Mo 201 y_Mo_reachBy b_Mo_reachBy 5 (some .boolean) 1 := ⟨(mw 1828 (by decide +kernel)), (mw 1825 (by decide +kernel)), (mw 95 (by decide +kernel)), by decide +kernel⟩
theorem mv_Mo_reachBy : MLv y_Mo_reachBy := ⟨(mw 1827 (by decide +kernel)), (mw 57 (by decide +kernel))⟩
theorem ml_Mo_207 : MLb R_Mo 207 y_Mo_numberOf b_Mo_numberOf 3 (some .int) 1 := ⟨(mw 1872 (by decide +kernel)), (mw 1869 (by decide +kernel)), (mw 95 (by decide +kernel)), by decide +kernel⟩
theorem mv_Mo_numberOf : MLv y_Mo_numberOf := ⟨(mw 1871 (by decide +kernel)), (mw 68 (by decide +kernel))⟩
theorem fl_Mo_103 : FL R_Mo 103 12 44 := ⟨R_Mo, F_Mo, N_Mo, rfl, by decide, i_Mo, (mw 1610 (by decide +kernel))⟩
theorem ml_Mo_214 : MLb R_Mo 214 y_Mo_meanLike b_Mo_meanLike 5 (some .boolean) 2 := ⟨(mw 1868 (by decide +kernel)), (mw 1865 (by decide +kernel)), (mw 95 (by decide +kernel)), by decide +kernel⟩
theorem mv_Mo_meanLike : MLv y_Mo_meanLike := ⟨(mw 1867 (by decide +kernel)), (mw 67 (by decide +kernel))⟩
theorem ml_Mo_210 : MLb R_Mo 210 y_Mo_nextOf b_Mo_nextOf 4 (some .int) 2 := ⟨(mw 1864 (by decide +kernel)), (mw 1861 (by decide +kernel)), (mw 95 (by decide +kernel)), by decide +kernel⟩
theorem mv_Mo_nextOf : MLv y_Mo_nextOf := ⟨(mw 1863 (by decide +kernel)), (mw 66 (by decide +kernel))⟩
theorem d_Mo_reach_0 : decode b_Mo_reach 0 = .ok (.iconst 0, 1) := by decide +kernel
theorem d_Mo_reach_1 : decode b_Mo_reach 1 = .ok (.istore_n 1, 1) := by decide +kernel
theorem d_Mo_reach_2 : decode b_Mo_reach 2 = .ok (.iload_n 1, 1) := by decide +kernel
theorem d_Mo_reach_3 : decode b_Mo_reach 3 = .ok (.aload_n 0, 1) := by decide +kernel
theorem d_Mo_reach_4 : decode b_Mo_reach 4 = .ok (.getfield 143, 3) := by decide +kernel
theorem d_Mo_reach_7 : decode b_Mo_reach 7 = .ok (.if_icmp .ge 50, 3) := by decide +kernel
theorem d_Mo_reach_10 : decode b_Mo_reach 10 = .ok (.aload_n 0, 1) := by decide +kernel
theorem d_Mo_reach_11 : decode b_Mo_reach 11 = .ok (.getfield 94, 3) := by decide +kernel
theorem d_Mo_reach_14 : decode b_Mo_reach 14 = .ok (.iload_n 1, 1) := by decide +kernel
theorem d_Mo_reach_15 : decode b_Mo_reach 15 = .ok (.aload_n 0, 1) := by decide +kernel
theorem d_Mo_reach_16 : decode b_Mo_reach 16 = .ok (.getfield 28, 3) := by decide +kernel
theorem d_Mo_reach_19 : decode b_Mo_reach 19 = .ok (.iload_n 1, 1) := by decide +kernel
theorem d_Mo_reach_20 : decode b_Mo_reach 20 = .ok (.baload, 1) := by decide +kernel
theorem d_Mo_reach_21 : decode b_Mo_reach 21 = .ok (.ifCond .eq 21, 3) := by decide +kernel
theorem d_Mo_reach_24 : decode b_Mo_reach 24 = .ok (.aload_n 0, 1) := by decide +kernel
theorem d_Mo_reach_25 : decode b_Mo_reach 25 = .ok (.getfield 79, 3) := by decide +kernel
theorem d_Mo_reach_28 : decode b_Mo_reach 28 = .ok (.aload_n 0, 1) := by decide +kernel
theorem d_Mo_reach_29 : decode b_Mo_reach 29 = .ok (.getfield 13, 3) := by decide +kernel
theorem d_Mo_reach_32 : decode b_Mo_reach 32 = .ok (.iload_n 1, 1) := by decide +kernel
theorem d_Mo_reach_33 : decode b_Mo_reach 33 = .ok (.iaload, 1) := by decide +kernel
theorem d_Mo_reach_34 : decode b_Mo_reach 34 = .ok (.baload, 1) := by decide +kernel
theorem d_Mo_reach_35 : decode b_Mo_reach 35 = .ok (.ifCond .eq 7, 3) := by decide +kernel
theorem d_Mo_reach_38 : decode b_Mo_reach 38 = .ok (.iconst 1, 1) := by decide +kernel
theorem d_Mo_reach_39 : decode b_Mo_reach 39 = .ok (.goto 4, 3) := by decide +kernel
theorem d_Mo_reach_42 : decode b_Mo_reach 42 = .ok (.iconst 0, 1) := by decide +kernel
theorem d_Mo_reach_43 : decode b_Mo_reach 43 = .ok (.bastore, 1) := by decide +kernel
theorem d_Mo_reach_44 : decode b_Mo_reach 44 = .ok (.aload_n 0, 1) := by decide +kernel
theorem d_Mo_reach_45 : decode b_Mo_reach 45 = .ok (.getfield 97, 3) := by decide +kernel
theorem d_Mo_reach_48 : decode b_Mo_reach 48 = .ok (.iload_n 1, 1) := by decide +kernel
theorem d_Mo_reach_49 : decode b_Mo_reach 49 = .ok (.iload_n 1, 1) := by decide +kernel
theorem d_Mo_reach_50 : decode b_Mo_reach 50 = .ok (.iastore, 1) := by decide +kernel
theorem d_Mo_reach_51 : decode b_Mo_reach 51 = .ok (.iinc 1 1, 3) := by decide +kernel
theorem d_Mo_reach_54 : decode b_Mo_reach 54 = .ok (.goto (-52), 3) := by decide +kernel
theorem d_Mo_reach_57 : decode b_Mo_reach 57 = .ok (.iconst 0, 1) := by decide +kernel
theorem d_Mo_reach_58 : decode b_Mo_reach 58 = .ok (.istore_n 1, 1) := by decide +kernel
theorem d_Mo_reach_59 : decode b_Mo_reach 59 = .ok (.iload_n 1, 1) := by decide +kernel
theorem d_Mo_reach_60 : decode b_Mo_reach 60 = .ok (.sipush 200, 3) := by decide +kernel
theorem d_Mo_reach_63 : decode b_Mo_reach 63 = .ok (.if_icmp .ge 16, 3) := by decide +kernel
theorem d_Mo_reach_66 : decode b_Mo_reach 66 = .ok (.aload_n 0, 1) := by decide +kernel
theorem d_Mo_reach_67 : decode b_Mo_reach 67 = .ok (.getfield 88, 3) := by decide +kernel
theorem d_Mo_reach_70 : decode b_Mo_reach 70 = .ok (.iload_n 1, 1) := by decide +kernel
theorem d_Mo_reach_71 : decode b_Mo_reach 71 = .ok (.iconst 0, 1) := by decide +kernel
theorem d_Mo_reach_72 : decode b_Mo_reach 72 = .ok (.bastore, 1) := by decide +kernel
theorem d_Mo_reach_73 : decode b_Mo_reach 73 = .ok (.iinc 1 1, 3) := by decide +kernel
theorem d_Mo_reach_76 : decode b_Mo_reach 76 = .ok (.goto (-17), 3) := by decide +kernel
theorem d_Mo_reach_79 : decode b_Mo_reach 79 = .ok (.aload_n 0, 1) := by decide +kernel
theorem d_Mo_reach_80 : decode b_Mo_reach 80 = .ok (.getfield 69, 3) := by decide +kernel
theorem d_Mo_reach_83 : decode b_Mo_reach 83 = .ok (.iconst (-1), 1) := by decide +kernel
theorem d_Mo_reach_84 : decode b_Mo_reach 84 = .ok (.if_icmp .eq 75, 3) := by decide +kernel
theorem d_Mo_reach_87 : decode b_Mo_reach 87 = .ok (.aload_n 0, 1) := by decide +kernel
theorem d_Mo_reach_88 : decode b_Mo_reach 88 = .ok (.getfield 82, 3) := by decide +kernel
theorem d_Mo_reach_91 : decode b_Mo_reach 91 = .ok (.aload_n 0, 1) := by decide +kernel
theorem d_Mo_reach_92 : decode b_Mo_reach 92 = .ok (.getfield 69, 3) := by decide +kernel
theorem d_Mo_reach_95 : decode b_Mo_reach 95 = .ok (.iaload, 1) := by decide +kernel
theorem d_Mo_reach_96 : decode b_Mo_reach 96 = .ok (.iconst (-1), 1) := by decide +kernel
theorem d_Mo_reach_97 : decode b_Mo_reach 97 = .ok (.if_icmp .ne 26, 3) := by decide +kernel
theorem d_Mo_reach_100 : decode b_Mo_reach 100 = .ok (.aload_n 0, 1) := by decide +kernel
theorem d_Mo_reach_101 : decode b_Mo_reach 101 = .ok (.getfield 85, 3) := by decide +kernel
theorem d_Mo_reach_104 : decode b_Mo_reach 104 = .ok (.aload_n 0, 1) := by decide +kernel
theorem d_Mo_reach_105 : decode b_Mo_reach 105 = .ok (.getfield 69, 3) := by decide +kernel
theorem d_Mo_reach_108 : decode b_Mo_reach 108 = .ok (.iaload, 1) := by decide +kernel
theorem d_Mo_reach_109 : decode b_Mo_reach 109 = .ok (.ifCond .ne 14, 3) := by decide +kernel
theorem d_Mo_reach_112 : decode b_Mo_reach 112 = .ok (.aload_n 0, 1) := by decide +kernel
theorem d_Mo_reach_113 : decode b_Mo_reach 113 = .ok (.iconst 2, 1) := by decide +kernel
theorem d_Mo_reach_114 : decode b_Mo_reach 114 = .ok (.aload_n 0, 1) := by decide +kernel
theorem d_Mo_reach_115 : decode b_Mo_reach 115 = .ok (.getfield 69, 3) := by decide +kernel
theorem d_Mo_reach_118 : decode b_Mo_reach 118 = .ok (.iconst (-1), 1) := by decide +kernel
theorem d_Mo_reach_119 : decode b_Mo_reach 119 = .ok (.invokevirtual 188, 3) := by decide +kernel
theorem d_Mo_reach_122 : decode b_Mo_reach 122 = .ok (.ireturn, 1) := by decide +kernel
theorem d_Mo_reach_123 : decode b_Mo_reach 123 = .ok (.aload_n 0, 1) := by decide +kernel
theorem d_Mo_reach_124 : decode b_Mo_reach 124 = .ok (.getfield 82, 3) := by decide +kernel
theorem d_Mo_reach_127 : decode b_Mo_reach 127 = .ok (.aload_n 0, 1) := by decide +kernel
theorem d_Mo_reach_128 : decode b_Mo_reach 128 = .ok (.getfield 69, 3) := by decide +kernel
theorem d_Mo_reach_131 : decode b_Mo_reach 131 = .ok (.iaload, 1) := by decide +kernel
theorem d_Mo_reach_132 : decode b_Mo_reach 132 = .ok (.istore_n 1, 1) := by decide +kernel
theorem d_Mo_reach_133 : decode b_Mo_reach 133 = .ok (.iload_n 1, 1) := by decide +kernel
theorem d_Mo_reach_134 : decode b_Mo_reach 134 = .ok (.iconst (-1), 1) := by decide +kernel
theorem d_Mo_reach_135 : decode b_Mo_reach 135 = .ok (.if_icmp .eq 24, 3) := by decide +kernel
theorem d_Mo_reach_138 : decode b_Mo_reach 138 = .ok (.aload_n 0, 1) := by decide +kernel
theorem d_Mo_reach_139 : decode b_Mo_reach 139 = .ok (.getfield 39, 3) := by decide +kernel
theorem d_Mo_reach_142 : decode b_Mo_reach 142 = .ok (.iload_n 1, 1) := by decide +kernel
theorem d_Mo_reach_143 : decode b_Mo_reach 143 = .ok (.iaload, 1) := by decide +kernel
theorem d_Mo_reach_144 : decode b_Mo_reach 144 = .ok (.ifCond .ne 15, 3) := by decide +kernel
theorem d_Mo_reach_147 : decode b_Mo_reach 147 = .ok (.aload_n 0, 1) := by decide +kernel
theorem d_Mo_reach_148 : decode b_Mo_reach 148 = .ok (.getfield 94, 3) := by decide +kernel
theorem d_Mo_reach_151 : decode b_Mo_reach 151 = .ok (.aload_n 0, 1) := by decide +kernel
theorem d_Mo_reach_152 : decode b_Mo_reach 152 = .ok (.getfield 42, 3) := by decide +kernel
theorem d_Mo_reach_155 : decode b_Mo_reach 155 = .ok (.iload_n 1, 1) := by decide +kernel
theorem d_Mo_reach_156 : decode b_Mo_reach 156 = .ok (.iaload, 1) := by decide +kernel
theorem d_Mo_reach_157 : decode b_Mo_reach 157 = .ok (.iconst 1, 1) := by decide +kernel
theorem d_Mo_reach_158 : decode b_Mo_reach 158 = .ok (.bastore, 1) := by decide +kernel
theorem d_Mo_reach_159 : decode b_Mo_reach 159 = .ok (.iconst 1, 1) := by decide +kernel
theorem d_Mo_reach_160 : decode b_Mo_reach 160 = .ok (.istore_n 1, 1) := by decide +kernel
theorem d_Mo_reach_161 : decode b_Mo_reach 161 = .ok (.iload_n 1, 1) := by decide +kernel
theorem d_Mo_reach_162 : decode b_Mo_reach 162 = .ok (.ifCond .eq 42, 3) := by decide +kernel
theorem d_Mo_reach_165 : decode b_Mo_reach 165 = .ok (.iconst 0, 1) := by decide +kernel
theorem d_Mo_reach_166 : decode b_Mo_reach 166 = .ok (.istore_n 1, 1) := by decide +kernel
theorem d_Mo_reach_167 : decode b_Mo_reach 167 = .ok (.iconst 0, 1) := by decide +kernel
theorem d_Mo_reach_168 : decode b_Mo_reach 168 = .ok (.istore_n 2, 1) := by decide +kernel
theorem d_Mo_reach_169 : decode b_Mo_reach 169 = .ok (.iload_n 2, 1) := by decide +kernel
theorem d_Mo_reach_170 : decode b_Mo_reach 170 = .ok (.aload_n 0, 1) := by decide +kernel
theorem d_Mo_reach_171 : decode b_Mo_reach 171 = .ok (.getfield 167, 3) := by decide +kernel
theorem d_Mo_reach_174 : decode b_Mo_reach 174 = .ok (.if_icmp .ge 27, 3) := by decide +kernel
theorem d_Mo_reach_177 : decode b_Mo_reach 177 = .ok (.aload_n 0, 1) := by decide +kernel
theorem d_Mo_reach_178 : decode b_Mo_reach 178 = .ok (.iload_n 2, 1) := by decide +kernel
theorem d_Mo_reach_179 : decode b_Mo_reach 179 = .ok (.invokevirtual 201, 3) := by decide +kernel
theorem d_Mo_reach_182 : decode b_Mo_reach 182 = .ok (.ifCond .ne 7, 3) := by decide +kernel
theorem d_Mo_reach_185 : decode b_Mo_reach 185 = .ok (.iload_n 1, 1) := by decide +kernel
theorem d_Mo_reach_186 : decode b_Mo_reach 186 = .ok (.ifCond .eq 7, 3) := by decide +kernel
theorem d_Mo_reach_189 : decode b_Mo_reach 189 = .ok (.iconst 1, 1) := by decide +kernel
theorem d_Mo_reach_190 : decode b_Mo_reach 190 = .ok (.goto 4, 3) := by decide +kernel
theorem d_Mo_reach_193 : decode b_Mo_reach 193 = .ok (.iconst 0, 1) := by decide +kernel
theorem d_Mo_reach_194 : decode b_Mo_reach 194 = .ok (.istore_n 1, 1) := by decide +kernel
theorem d_Mo_reach_195 : decode b_Mo_reach 195 = .ok (.iinc 2 1, 3) := by decide +kernel
theorem d_Mo_reach_198 : decode b_Mo_reach 198 = .ok (.goto (-29), 3) := by decide +kernel
theorem d_Mo_reach_201 : decode b_Mo_reach 201 = .ok (.goto (-40), 3) := by decide +kernel
theorem d_Mo_reach_204 : decode b_Mo_reach 204 = .ok (.iconst 0, 1) := by decide +kernel
theorem d_Mo_reach_205 : decode b_Mo_reach 205 = .ok (.istore_n 2, 1) := by decide +kernel
theorem d_Mo_reach_206 : decode b_Mo_reach 206 = .ok (.iload_n 2, 1) := by decide +kernel
theorem d_Mo_reach_207 : decode b_Mo_reach 207 = .ok (.aload_n 0, 1) := by decide +kernel
theorem d_Mo_reach_208 : decode b_Mo_reach 208 = .ok (.getfield 143, 3) := by decide +kernel
theorem d_Mo_reach_211 : decode b_Mo_reach 211 = .ok (.if_icmp .ge 75, 3) := by decide +kernel
theorem d_Mo_reach_214 : decode b_Mo_reach 214 = .ok (.iconst 0, 1) := by decide +kernel
theorem d_Mo_reach_215 : decode b_Mo_reach 215 = .ok (.istore_n 3, 1) := by decide +kernel
theorem d_Mo_reach_216 : decode b_Mo_reach 216 = .ok (.iload_n 3, 1) := by decide +kernel
theorem d_Mo_reach_217 : decode b_Mo_reach 217 = .ok (.aload_n 0, 1) := by decide +kernel
theorem d_Mo_reach_218 : decode b_Mo_reach 218 = .ok (.getfield 167, 3) := by decide +kernel
theorem d_Mo_reach_221 : decode b_Mo_reach 221 = .ok (.if_icmp .ge 59, 3) := by decide +kernel
theorem d_Mo_reach_224 : decode b_Mo_reach 224 = .ok (.aload_n 0, 1) := by decide +kernel
theorem d_Mo_reach_225 : decode b_Mo_reach 225 = .ok (.getfield 94, 3) := by decide +kernel
theorem d_Mo_reach_228 : decode b_Mo_reach 228 = .ok (.iload_n 2, 1) := by decide +kernel
theorem d_Mo_reach_229 : decode b_Mo_reach 229 = .ok (.baload, 1) := by decide +kernel
theorem d_Mo_reach_230 : decode b_Mo_reach 230 = .ok (.ifCond .eq 44, 3) := by decide +kernel
theorem d_Mo_reach_233 : decode b_Mo_reach 233 = .ok (.aload_n 0, 1) := by decide +kernel
theorem d_Mo_reach_234 : decode b_Mo_reach 234 = .ok (.getfield 54, 3) := by decide +kernel
theorem d_Mo_reach_237 : decode b_Mo_reach 237 = .ok (.iload_n 3, 1) := by decide +kernel
theorem d_Mo_reach_238 : decode b_Mo_reach 238 = .ok (.iaload, 1) := by decide +kernel
theorem d_Mo_reach_239 : decode b_Mo_reach 239 = .ok (.iload_n 2, 1) := by decide +kernel
theorem d_Mo_reach_240 : decode b_Mo_reach 240 = .ok (.if_icmp .ne 34, 3) := by decide +kernel
theorem d_Mo_reach_243 : decode b_Mo_reach 243 = .ok (.aload_n 0, 1) := by decide +kernel
theorem d_Mo_reach_244 : decode b_Mo_reach 244 = .ok (.aload_n 0, 1) := by decide +kernel
theorem d_Mo_reach_245 : decode b_Mo_reach 245 = .ok (.getfield 63, 3) := by decide +kernel
theorem d_Mo_reach_248 : decode b_Mo_reach 248 = .ok (.iload_n 3, 1) := by decide +kernel
theorem d_Mo_reach_249 : decode b_Mo_reach 249 = .ok (.iaload, 1) := by decide +kernel
theorem d_Mo_reach_250 : decode b_Mo_reach 250 = .ok (.invokevirtual 198, 3) := by decide +kernel
theorem d_Mo_reach_253 : decode b_Mo_reach 253 = .ok (.ifCond .ne 21, 3) := by decide +kernel
theorem d_Mo_reach_256 : decode b_Mo_reach 256 = .ok (.aload_n 0, 1) := by decide +kernel
theorem d_Mo_reach_257 : decode b_Mo_reach 257 = .ok (.iconst 2, 1) := by decide +kernel
theorem d_Mo_reach_258 : decode b_Mo_reach 258 = .ok (.aload_n 0, 1) := by decide +kernel
theorem d_Mo_reach_259 : decode b_Mo_reach 259 = .ok (.getfield 48, 3) := by decide +kernel
theorem d_Mo_reach_262 : decode b_Mo_reach 262 = .ok (.aload_n 0, 1) := by decide +kernel
theorem d_Mo_reach_263 : decode b_Mo_reach 263 = .ok (.getfield 63, 3) := by decide +kernel
theorem d_Mo_reach_266 : decode b_Mo_reach 266 = .ok (.iload_n 3, 1) := by decide +kernel
theorem d_Mo_reach_267 : decode b_Mo_reach 267 = .ok (.iaload, 1) := by decide +kernel
theorem d_Mo_reach_268 : decode b_Mo_reach 268 = .ok (.iaload, 1) := by decide +kernel
theorem d_Mo_reach_269 : decode b_Mo_reach 269 = .ok (.iload_n 3, 1) := by decide +kernel
theorem d_Mo_reach_270 : decode b_Mo_reach 270 = .ok (.invokevirtual 188, 3) := by decide +kernel
theorem d_Mo_reach_273 : decode b_Mo_reach 273 = .ok (.ireturn, 1) := by decide +kernel
theorem d_Mo_reach_274 : decode b_Mo_reach 274 = .ok (.iinc 3 1, 3) := by decide +kernel
theorem d_Mo_reach_277 : decode b_Mo_reach 277 = .ok (.goto (-61), 3) := by decide +kernel
theorem d_Mo_reach_280 : decode b_Mo_reach 280 = .ok (.iinc 2 1, 3) := by decide +kernel
theorem d_Mo_reach_283 : decode b_Mo_reach 283 = .ok (.goto (-77), 3) := by decide +kernel
theorem d_Mo_reach_286 : decode b_Mo_reach 286 = .ok (.iconst 1, 1) := by decide +kernel
theorem d_Mo_reach_287 : decode b_Mo_reach 287 = .ok (.ireturn, 1) := by decide +kernel
theorem d_Mo_mayFold_0 : decode b_Mo_mayFold 0 = .ok (.aload_n 0, 1) := by decide +kernel
theorem d_Mo_mayFold_1 : decode b_Mo_mayFold 1 = .ok (.getfield 94, 3) := by decide +kernel
theorem d_Mo_mayFold_4 : decode b_Mo_mayFold 4 = .ok (.iload_n 1, 1) := by decide +kernel
theorem d_Mo_mayFold_5 : decode b_Mo_mayFold 5 = .ok (.baload, 1) := by decide +kernel
theorem d_Mo_mayFold_6 : decode b_Mo_mayFold 6 = .ok (.ifCond .eq 25, 3) := by decide +kernel
theorem d_Mo_mayFold_9 : decode b_Mo_mayFold 9 = .ok (.aload_n 0, 1) := by decide +kernel
theorem d_Mo_mayFold_10 : decode b_Mo_mayFold 10 = .ok (.getfield 16, 3) := by decide +kernel
theorem d_Mo_mayFold_13 : decode b_Mo_mayFold 13 = .ok (.iload_n 1, 1) := by decide +kernel
theorem d_Mo_mayFold_14 : decode b_Mo_mayFold 14 = .ok (.iaload, 1) := by decide +kernel
theorem d_Mo_mayFold_15 : decode b_Mo_mayFold 15 = .ok (.ifCond .ne 16, 3) := by decide +kernel
theorem d_Mo_mayFold_18 : decode b_Mo_mayFold 18 = .ok (.aload_n 0, 1) := by decide +kernel
theorem d_Mo_mayFold_19 : decode b_Mo_mayFold 19 = .ok (.getfield 28, 3) := by decide +kernel
theorem d_Mo_mayFold_22 : decode b_Mo_mayFold 22 = .ok (.iload_n 1, 1) := by decide +kernel
theorem d_Mo_mayFold_23 : decode b_Mo_mayFold 23 = .ok (.baload, 1) := by decide +kernel
theorem d_Mo_mayFold_24 : decode b_Mo_mayFold 24 = .ok (.ifCond .ne 7, 3) := by decide +kernel
theorem d_Mo_mayFold_27 : decode b_Mo_mayFold 27 = .ok (.iconst 1, 1) := by decide +kernel
theorem d_Mo_mayFold_28 : decode b_Mo_mayFold 28 = .ok (.goto 4, 3) := by decide +kernel
theorem d_Mo_mayFold_31 : decode b_Mo_mayFold 31 = .ok (.iconst 0, 1) := by decide +kernel
theorem d_Mo_mayFold_32 : decode b_Mo_mayFold 32 = .ok (.ireturn, 1) := by decide +kernel
theorem d_Mo_haveLikeWords_0 : decode b_Mo_haveLikeWords 0 = .ok (.aload_n 0, 1) := by decide +kernel
theorem d_Mo_haveLikeWords_1 : decode b_Mo_haveLikeWords 1 = .ok (.getfield 19, 3) := by decide +kernel
theorem d_Mo_haveLikeWords_4 : decode b_Mo_haveLikeWords 4 = .ok (.iload_n 1, 1) := by decide +kernel
theorem d_Mo_haveLikeWords_5 : decode b_Mo_haveLikeWords 5 = .ok (.iaload, 1) := by decide +kernel
theorem d_Mo_haveLikeWords_6 : decode b_Mo_haveLikeWords 6 = .ok (.aload_n 0, 1) := by decide +kernel
theorem d_Mo_haveLikeWords_7 : decode b_Mo_haveLikeWords 7 = .ok (.getfield 19, 3) := by decide +kernel
theorem d_Mo_haveLikeWords_10 : decode b_Mo_haveLikeWords 10 = .ok (.iload_n 2, 1) := by decide +kernel
theorem d_Mo_haveLikeWords_11 : decode b_Mo_haveLikeWords 11 = .ok (.iaload, 1) := by decide +kernel
theorem d_Mo_haveLikeWords_12 : decode b_Mo_haveLikeWords 12 = .ok (.if_icmp .ne 22, 3) := by decide +kernel
theorem d_Mo_haveLikeWords_15 : decode b_Mo_haveLikeWords 15 = .ok (.aload_n 0, 1) := by decide +kernel
theorem d_Mo_haveLikeWords_16 : decode b_Mo_haveLikeWords 16 = .ok (.getfield 22, 3) := by decide +kernel
theorem d_Mo_haveLikeWords_19 : decode b_Mo_haveLikeWords 19 = .ok (.iload_n 1, 1) := by decide +kernel
theorem d_Mo_haveLikeWords_20 : decode b_Mo_haveLikeWords 20 = .ok (.iaload, 1) := by decide +kernel
theorem d_Mo_haveLikeWords_21 : decode b_Mo_haveLikeWords 21 = .ok (.aload_n 0, 1) := by decide +kernel
theorem d_Mo_haveLikeWords_22 : decode b_Mo_haveLikeWords 22 = .ok (.getfield 22, 3) := by decide +kernel
theorem d_Mo_haveLikeWords_25 : decode b_Mo_haveLikeWords 25 = .ok (.iload_n 2, 1) := by decide +kernel
theorem d_Mo_haveLikeWords_26 : decode b_Mo_haveLikeWords 26 = .ok (.iaload, 1) := by decide +kernel
theorem d_Mo_haveLikeWords_27 : decode b_Mo_haveLikeWords 27 = .ok (.if_icmp .ne 7, 3) := by decide +kernel
theorem d_Mo_haveLikeWords_30 : decode b_Mo_haveLikeWords 30 = .ok (.iconst 1, 1) := by decide +kernel
theorem d_Mo_haveLikeWords_31 : decode b_Mo_haveLikeWords 31 = .ok (.goto 4, 3) := by decide +kernel
theorem d_Mo_haveLikeWords_34 : decode b_Mo_haveLikeWords 34 = .ok (.iconst 0, 1) := by decide +kernel
theorem d_Mo_haveLikeWords_35 : decode b_Mo_haveLikeWords 35 = .ok (.istore_n 3, 1) := by decide +kernel
theorem d_Mo_haveLikeWords_36 : decode b_Mo_haveLikeWords 36 = .ok (.iconst 0, 1) := by decide +kernel
theorem d_Mo_haveLikeWords_37 : decode b_Mo_haveLikeWords 37 = .ok (.istore 4, 2) := by decide +kernel
theorem d_Mo_haveLikeWords_39 : decode b_Mo_haveLikeWords 39 = .ok (.iload_n 3, 1) := by decide +kernel
theorem d_Mo_haveLikeWords_40 : decode b_Mo_haveLikeWords 40 = .ok (.ifCond .eq 59, 3) := by decide +kernel
theorem d_Mo_haveLikeWords_43 : decode b_Mo_haveLikeWords 43 = .ok (.iload 4, 2) := by decide +kernel
theorem d_Mo_haveLikeWords_45 : decode b_Mo_haveLikeWords 45 = .ok (.aload_n 0, 1) := by decide +kernel
theorem d_Mo_haveLikeWords_46 : decode b_Mo_haveLikeWords 46 = .ok (.getfield 19, 3) := by decide +kernel
theorem d_Mo_haveLikeWords_49 : decode b_Mo_haveLikeWords 49 = .ok (.iload_n 1, 1) := by decide +kernel
theorem d_Mo_haveLikeWords_50 : decode b_Mo_haveLikeWords 50 = .ok (.iaload, 1) := by decide +kernel
theorem d_Mo_haveLikeWords_51 : decode b_Mo_haveLikeWords 51 = .ok (.iconst 4, 1) := by decide +kernel
theorem d_Mo_haveLikeWords_52 : decode b_Mo_haveLikeWords 52 = .ok (.idiv, 1) := by decide +kernel
theorem d_Mo_haveLikeWords_53 : decode b_Mo_haveLikeWords 53 = .ok (.if_icmp .ge 46, 3) := by decide +kernel
theorem d_Mo_haveLikeWords_56 : decode b_Mo_haveLikeWords 56 = .ok (.aload_n 0, 1) := by decide +kernel
theorem d_Mo_haveLikeWords_57 : decode b_Mo_haveLikeWords 57 = .ok (.getfield 33, 3) := by decide +kernel
theorem d_Mo_haveLikeWords_60 : decode b_Mo_haveLikeWords 60 = .ok (.aload_n 0, 1) := by decide +kernel
theorem d_Mo_haveLikeWords_61 : decode b_Mo_haveLikeWords 61 = .ok (.getfield 25, 3) := by decide +kernel
theorem d_Mo_haveLikeWords_64 : decode b_Mo_haveLikeWords 64 = .ok (.iload_n 1, 1) := by decide +kernel
theorem d_Mo_haveLikeWords_65 : decode b_Mo_haveLikeWords 65 = .ok (.iaload, 1) := by decide +kernel
theorem d_Mo_haveLikeWords_66 : decode b_Mo_haveLikeWords 66 = .ok (.iload 4, 2) := by decide +kernel
theorem d_Mo_haveLikeWords_68 : decode b_Mo_haveLikeWords 68 = .ok (.iadd, 1) := by decide +kernel
theorem d_Mo_haveLikeWords_69 : decode b_Mo_haveLikeWords 69 = .ok (.iaload, 1) := by decide +kernel
theorem d_Mo_haveLikeWords_70 : decode b_Mo_haveLikeWords 70 = .ok (.aload_n 0, 1) := by decide +kernel
theorem d_Mo_haveLikeWords_71 : decode b_Mo_haveLikeWords 71 = .ok (.getfield 33, 3) := by decide +kernel
theorem d_Mo_haveLikeWords_74 : decode b_Mo_haveLikeWords 74 = .ok (.aload_n 0, 1) := by decide +kernel
theorem d_Mo_haveLikeWords_75 : decode b_Mo_haveLikeWords 75 = .ok (.getfield 25, 3) := by decide +kernel
theorem d_Mo_haveLikeWords_78 : decode b_Mo_haveLikeWords 78 = .ok (.iload_n 2, 1) := by decide +kernel
theorem d_Mo_haveLikeWords_79 : decode b_Mo_haveLikeWords 79 = .ok (.iaload, 1) := by decide +kernel
theorem d_Mo_haveLikeWords_80 : decode b_Mo_haveLikeWords 80 = .ok (.iload 4, 2) := by decide +kernel
theorem d_Mo_haveLikeWords_82 : decode b_Mo_haveLikeWords 82 = .ok (.iadd, 1) := by decide +kernel
theorem d_Mo_haveLikeWords_83 : decode b_Mo_haveLikeWords 83 = .ok (.iaload, 1) := by decide +kernel
theorem d_Mo_haveLikeWords_84 : decode b_Mo_haveLikeWords 84 = .ok (.if_icmp .ne 7, 3) := by decide +kernel
theorem d_Mo_haveLikeWords_87 : decode b_Mo_haveLikeWords 87 = .ok (.iconst 1, 1) := by decide +kernel
theorem d_Mo_haveLikeWords_88 : decode b_Mo_haveLikeWords 88 = .ok (.goto 4, 3) := by decide +kernel
theorem d_Mo_haveLikeWords_91 : decode b_Mo_haveLikeWords 91 = .ok (.iconst 0, 1) := by decide +kernel
theorem d_Mo_haveLikeWords_92 : decode b_Mo_haveLikeWords 92 = .ok (.istore_n 3, 1) := by decide +kernel
theorem d_Mo_haveLikeWords_93 : decode b_Mo_haveLikeWords 93 = .ok (.iinc 4 1, 3) := by decide +kernel
theorem d_Mo_haveLikeWords_96 : decode b_Mo_haveLikeWords 96 = .ok (.goto (-57), 3) := by decide +kernel
theorem d_Mo_haveLikeWords_99 : decode b_Mo_haveLikeWords 99 = .ok (.iload_n 3, 1) := by decide +kernel
theorem d_Mo_haveLikeWords_100 : decode b_Mo_haveLikeWords 100 = .ok (.ireturn, 1) := by decide +kernel
theorem d_Mo_nextOf_0 : decode b_Mo_nextOf 0 = .ok (.iload_n 2, 1) := by decide +kernel
theorem d_Mo_nextOf_1 : decode b_Mo_nextOf 1 = .ok (.iconst 1, 1) := by decide +kernel
theorem d_Mo_nextOf_2 : decode b_Mo_nextOf 2 = .ok (.iadd, 1) := by decide +kernel
theorem d_Mo_nextOf_3 : decode b_Mo_nextOf 3 = .ok (.istore_n 3, 1) := by decide +kernel
theorem d_Mo_nextOf_4 : decode b_Mo_nextOf 4 = .ok (.iload_n 3, 1) := by decide +kernel
theorem d_Mo_nextOf_5 : decode b_Mo_nextOf 5 = .ok (.aload_n 0, 1) := by decide +kernel
theorem d_Mo_nextOf_6 : decode b_Mo_nextOf 6 = .ok (.getfield 167, 3) := by decide +kernel
theorem d_Mo_nextOf_9 : decode b_Mo_nextOf 9 = .ok (.if_icmp .ge 19, 3) := by decide +kernel
theorem d_Mo_nextOf_12 : decode b_Mo_nextOf 12 = .ok (.aload_n 0, 1) := by decide +kernel
theorem d_Mo_nextOf_13 : decode b_Mo_nextOf 13 = .ok (.getfield 54, 3) := by decide +kernel
theorem d_Mo_nextOf_16 : decode b_Mo_nextOf 16 = .ok (.iload_n 3, 1) := by decide +kernel
theorem d_Mo_nextOf_17 : decode b_Mo_nextOf 17 = .ok (.iaload, 1) := by decide +kernel
theorem d_Mo_nextOf_18 : decode b_Mo_nextOf 18 = .ok (.iload_n 1, 1) := by decide +kernel
theorem d_Mo_nextOf_19 : decode b_Mo_nextOf 19 = .ok (.if_icmp .eq 9, 3) := by decide +kernel
theorem d_Mo_nextOf_22 : decode b_Mo_nextOf 22 = .ok (.iinc 3 1, 3) := by decide +kernel
theorem d_Mo_nextOf_25 : decode b_Mo_nextOf 25 = .ok (.goto (-21), 3) := by decide +kernel
theorem d_Mo_nextOf_28 : decode b_Mo_nextOf 28 = .ok (.iload_n 3, 1) := by decide +kernel
theorem d_Mo_nextOf_29 : decode b_Mo_nextOf 29 = .ok (.ireturn, 1) := by decide +kernel
theorem d_Mo_meanLike_0 : decode b_Mo_meanLike 0 = .ok (.aload_n 0, 1) := by decide +kernel
theorem d_Mo_meanLike_1 : decode b_Mo_meanLike 1 = .ok (.iload_n 1, 1) := by decide +kernel
theorem d_Mo_meanLike_2 : decode b_Mo_meanLike 2 = .ok (.invokevirtual 198, 3) := by decide +kernel
theorem d_Mo_meanLike_5 : decode b_Mo_meanLike 5 = .ok (.istore_n 3, 1) := by decide +kernel
theorem d_Mo_meanLike_6 : decode b_Mo_meanLike 6 = .ok (.iload_n 3, 1) := by decide +kernel
theorem d_Mo_meanLike_7 : decode b_Mo_meanLike 7 = .ok (.aload_n 0, 1) := by decide +kernel
theorem d_Mo_meanLike_8 : decode b_Mo_meanLike 8 = .ok (.iload_n 2, 1) := by decide +kernel
theorem d_Mo_meanLike_9 : decode b_Mo_meanLike 9 = .ok (.invokevirtual 198, 3) := by decide +kernel
theorem d_Mo_meanLike_12 : decode b_Mo_meanLike 12 = .ok (.if_icmp .eq 5, 3) := by decide +kernel
theorem d_Mo_meanLike_15 : decode b_Mo_meanLike 15 = .ok (.iconst 0, 1) := by decide +kernel
theorem d_Mo_meanLike_16 : decode b_Mo_meanLike 16 = .ok (.ireturn, 1) := by decide +kernel
theorem d_Mo_meanLike_17 : decode b_Mo_meanLike 17 = .ok (.iload_n 3, 1) := by decide +kernel
theorem d_Mo_meanLike_18 : decode b_Mo_meanLike 18 = .ok (.iconst 3, 1) := by decide +kernel
theorem d_Mo_meanLike_19 : decode b_Mo_meanLike 19 = .ok (.if_icmp .ne 24, 3) := by decide +kernel
theorem d_Mo_meanLike_22 : decode b_Mo_meanLike 22 = .ok (.aload_n 0, 1) := by decide +kernel
theorem d_Mo_meanLike_23 : decode b_Mo_meanLike 23 = .ok (.getfield 48, 3) := by decide +kernel
theorem d_Mo_meanLike_26 : decode b_Mo_meanLike 26 = .ok (.iload_n 1, 1) := by decide +kernel
theorem d_Mo_meanLike_27 : decode b_Mo_meanLike 27 = .ok (.iaload, 1) := by decide +kernel
theorem d_Mo_meanLike_28 : decode b_Mo_meanLike 28 = .ok (.aload_n 0, 1) := by decide +kernel
theorem d_Mo_meanLike_29 : decode b_Mo_meanLike 29 = .ok (.getfield 48, 3) := by decide +kernel
theorem d_Mo_meanLike_32 : decode b_Mo_meanLike 32 = .ok (.iload_n 2, 1) := by decide +kernel
theorem d_Mo_meanLike_33 : decode b_Mo_meanLike 33 = .ok (.iaload, 1) := by decide +kernel
theorem d_Mo_meanLike_34 : decode b_Mo_meanLike 34 = .ok (.if_icmp .ne 7, 3) := by decide +kernel
theorem d_Mo_meanLike_37 : decode b_Mo_meanLike 37 = .ok (.iconst 1, 1) := by decide +kernel
theorem d_Mo_meanLike_38 : decode b_Mo_meanLike 38 = .ok (.goto 4, 3) := by decide +kernel
theorem d_Mo_meanLike_41 : decode b_Mo_meanLike 41 = .ok (.iconst 0, 1) := by decide +kernel
theorem d_Mo_meanLike_42 : decode b_Mo_meanLike 42 = .ok (.ireturn, 1) := by decide +kernel
theorem d_Mo_meanLike_43 : decode b_Mo_meanLike 43 = .ok (.aload_n 0, 1) := by decide +kernel
theorem d_Mo_meanLike_44 : decode b_Mo_meanLike 44 = .ok (.iload_n 1, 1) := by decide +kernel
theorem d_Mo_meanLike_45 : decode b_Mo_meanLike 45 = .ok (.invokevirtual 207, 3) := by decide +kernel
theorem d_Mo_meanLike_48 : decode b_Mo_meanLike 48 = .ok (.aload_n 0, 1) := by decide +kernel
theorem d_Mo_meanLike_49 : decode b_Mo_meanLike 49 = .ok (.iload_n 2, 1) := by decide +kernel
theorem d_Mo_meanLike_50 : decode b_Mo_meanLike 50 = .ok (.invokevirtual 207, 3) := by decide +kernel
theorem d_Mo_meanLike_53 : decode b_Mo_meanLike 53 = .ok (.if_icmp .ne 7, 3) := by decide +kernel
theorem d_Mo_meanLike_56 : decode b_Mo_meanLike 56 = .ok (.iconst 1, 1) := by decide +kernel
theorem d_Mo_meanLike_57 : decode b_Mo_meanLike 57 = .ok (.goto 4, 3) := by decide +kernel
theorem d_Mo_meanLike_60 : decode b_Mo_meanLike 60 = .ok (.iconst 0, 1) := by decide +kernel
theorem d_Mo_meanLike_61 : decode b_Mo_meanLike 61 = .ok (.istore 4, 2) := by decide +kernel
theorem d_Mo_meanLike_63 : decode b_Mo_meanLike 63 = .ok (.iload_n 3, 1) := by decide +kernel
theorem d_Mo_meanLike_64 : decode b_Mo_meanLike 64 = .ok (.iconst 1, 1) := by decide +kernel
theorem d_Mo_meanLike_65 : decode b_Mo_meanLike 65 = .ok (.if_icmp .ne 51, 3) := by decide +kernel
theorem d_Mo_meanLike_68 : decode b_Mo_meanLike 68 = .ok (.iload 4, 2) := by decide +kernel
theorem d_Mo_meanLike_70 : decode b_Mo_meanLike 70 = .ok (.ifCond .eq 42, 3) := by decide +kernel
theorem d_Mo_meanLike_73 : decode b_Mo_meanLike 73 = .ok (.aload_n 0, 1) := by decide +kernel
theorem d_Mo_meanLike_74 : decode b_Mo_meanLike 74 = .ok (.iload_n 1, 1) := by decide +kernel
theorem d_Mo_meanLike_75 : decode b_Mo_meanLike 75 = .ok (.invokevirtual 204, 3) := by decide +kernel
theorem d_Mo_meanLike_78 : decode b_Mo_meanLike 78 = .ok (.aload_n 0, 1) := by decide +kernel
theorem d_Mo_meanLike_79 : decode b_Mo_meanLike 79 = .ok (.iload_n 2, 1) := by decide +kernel
theorem d_Mo_meanLike_80 : decode b_Mo_meanLike 80 = .ok (.invokevirtual 204, 3) := by decide +kernel
theorem d_Mo_meanLike_83 : decode b_Mo_meanLike 83 = .ok (.if_icmp .eq 25, 3) := by decide +kernel
theorem d_Mo_meanLike_86 : decode b_Mo_meanLike 86 = .ok (.aload_n 0, 1) := by decide +kernel
theorem d_Mo_meanLike_87 : decode b_Mo_meanLike 87 = .ok (.getfield 103, 3) := by decide +kernel
theorem d_Mo_meanLike_90 : decode b_Mo_meanLike 90 = .ok (.bipush 96, 2) := by decide +kernel
theorem d_Mo_meanLike_92 : decode b_Mo_meanLike 92 = .ok (.aload_n 0, 1) := by decide +kernel
theorem d_Mo_meanLike_93 : decode b_Mo_meanLike 93 = .ok (.iload_n 1, 1) := by decide +kernel
theorem d_Mo_meanLike_94 : decode b_Mo_meanLike 94 = .ok (.invokevirtual 204, 3) := by decide +kernel
theorem d_Mo_meanLike_97 : decode b_Mo_meanLike 97 = .ok (.imul, 1) := by decide +kernel
theorem d_Mo_meanLike_98 : decode b_Mo_meanLike 98 = .ok (.aload_n 0, 1) := by decide +kernel
theorem d_Mo_meanLike_99 : decode b_Mo_meanLike 99 = .ok (.iload_n 2, 1) := by decide +kernel
theorem d_Mo_meanLike_100 : decode b_Mo_meanLike 100 = .ok (.invokevirtual 204, 3) := by decide +kernel
theorem d_Mo_meanLike_103 : decode b_Mo_meanLike 103 = .ok (.iadd, 1) := by decide +kernel
theorem d_Mo_meanLike_104 : decode b_Mo_meanLike 104 = .ok (.baload, 1) := by decide +kernel
theorem d_Mo_meanLike_105 : decode b_Mo_meanLike 105 = .ok (.ifCond .eq 7, 3) := by decide +kernel
theorem d_Mo_meanLike_108 : decode b_Mo_meanLike 108 = .ok (.iconst 1, 1) := by decide +kernel
theorem d_Mo_meanLike_109 : decode b_Mo_meanLike 109 = .ok (.goto 9, 3) := by decide +kernel
theorem d_Mo_meanLike_112 : decode b_Mo_meanLike 112 = .ok (.iconst 0, 1) := by decide +kernel
theorem d_Mo_meanLike_113 : decode b_Mo_meanLike 113 = .ok (.goto 5, 3) := by decide +kernel
theorem d_Mo_meanLike_116 : decode b_Mo_meanLike 116 = .ok (.iload 4, 2) := by decide +kernel
theorem d_Mo_meanLike_118 : decode b_Mo_meanLike 118 = .ok (.ireturn, 1) := by decide +kernel
theorem d_Mo_haveLikeRelocations_0 : decode b_Mo_haveLikeRelocations 0 = .ok (.aload_n 0, 1) := by decide +kernel
theorem d_Mo_haveLikeRelocations_1 : decode b_Mo_haveLikeRelocations 1 = .ok (.iload_n 1, 1) := by decide +kernel
theorem d_Mo_haveLikeRelocations_2 : decode b_Mo_haveLikeRelocations 2 = .ok (.iconst (-1), 1) := by decide +kernel
theorem d_Mo_haveLikeRelocations_3 : decode b_Mo_haveLikeRelocations 3 = .ok (.invokevirtual 210, 3) := by decide +kernel
theorem d_Mo_haveLikeRelocations_6 : decode b_Mo_haveLikeRelocations 6 = .ok (.istore_n 3, 1) := by decide +kernel
theorem d_Mo_haveLikeRelocations_7 : decode b_Mo_haveLikeRelocations 7 = .ok (.aload_n 0, 1) := by decide +kernel
theorem d_Mo_haveLikeRelocations_8 : decode b_Mo_haveLikeRelocations 8 = .ok (.iload_n 2, 1) := by decide +kernel
theorem d_Mo_haveLikeRelocations_9 : decode b_Mo_haveLikeRelocations 9 = .ok (.iconst (-1), 1) := by decide +kernel
theorem d_Mo_haveLikeRelocations_10 : decode b_Mo_haveLikeRelocations 10 = .ok (.invokevirtual 210, 3) := by decide +kernel
theorem d_Mo_haveLikeRelocations_13 : decode b_Mo_haveLikeRelocations 13 = .ok (.istore 4, 2) := by decide +kernel
theorem d_Mo_haveLikeRelocations_15 : decode b_Mo_haveLikeRelocations 15 = .ok (.iload_n 3, 1) := by decide +kernel
theorem d_Mo_haveLikeRelocations_16 : decode b_Mo_haveLikeRelocations 16 = .ok (.aload_n 0, 1) := by decide +kernel
theorem d_Mo_haveLikeRelocations_17 : decode b_Mo_haveLikeRelocations 17 = .ok (.getfield 167, 3) := by decide +kernel
theorem d_Mo_haveLikeRelocations_20 : decode b_Mo_haveLikeRelocations 20 = .ok (.if_icmp .ge 101, 3) := by decide +kernel
theorem d_Mo_haveLikeRelocations_23 : decode b_Mo_haveLikeRelocations 23 = .ok (.iload 4, 2) := by decide +kernel
theorem d_Mo_haveLikeRelocations_25 : decode b_Mo_haveLikeRelocations 25 = .ok (.aload_n 0, 1) := by decide +kernel
theorem d_Mo_haveLikeRelocations_26 : decode b_Mo_haveLikeRelocations 26 = .ok (.getfield 167, 3) := by decide +kernel
theorem d_Mo_haveLikeRelocations_29 : decode b_Mo_haveLikeRelocations 29 = .ok (.if_icmp .ge 92, 3) := by decide +kernel
theorem d_Mo_haveLikeRelocations_32 : decode b_Mo_haveLikeRelocations 32 = .ok (.aload_n 0, 1) := by decide +kernel
theorem d_Mo_haveLikeRelocations_33 : decode b_Mo_haveLikeRelocations 33 = .ok (.getfield 57, 3) := by decide +kernel
theorem d_Mo_haveLikeRelocations_36 : decode b_Mo_haveLikeRelocations 36 = .ok (.iload_n 3, 1) := by decide +kernel
theorem d_Mo_haveLikeRelocations_37 : decode b_Mo_haveLikeRelocations 37 = .ok (.iaload, 1) := by decide +kernel
theorem d_Mo_haveLikeRelocations_38 : decode b_Mo_haveLikeRelocations 38 = .ok (.aload_n 0, 1) := by decide +kernel
theorem d_Mo_haveLikeRelocations_39 : decode b_Mo_haveLikeRelocations 39 = .ok (.getfield 57, 3) := by decide +kernel
theorem d_Mo_haveLikeRelocations_42 : decode b_Mo_haveLikeRelocations 42 = .ok (.iload 4, 2) := by decide +kernel
theorem d_Mo_haveLikeRelocations_44 : decode b_Mo_haveLikeRelocations 44 = .ok (.iaload, 1) := by decide +kernel
theorem d_Mo_haveLikeRelocations_45 : decode b_Mo_haveLikeRelocations 45 = .ok (.if_icmp .ne 55, 3) := by decide +kernel
theorem d_Mo_haveLikeRelocations_48 : decode b_Mo_haveLikeRelocations 48 = .ok (.aload_n 0, 1) := by decide +kernel
theorem d_Mo_haveLikeRelocations_49 : decode b_Mo_haveLikeRelocations 49 = .ok (.getfield 60, 3) := by decide +kernel
theorem d_Mo_haveLikeRelocations_52 : decode b_Mo_haveLikeRelocations 52 = .ok (.iload_n 3, 1) := by decide +kernel
theorem d_Mo_haveLikeRelocations_53 : decode b_Mo_haveLikeRelocations 53 = .ok (.iaload, 1) := by decide +kernel
theorem d_Mo_haveLikeRelocations_54 : decode b_Mo_haveLikeRelocations 54 = .ok (.aload_n 0, 1) := by decide +kernel
theorem d_Mo_haveLikeRelocations_55 : decode b_Mo_haveLikeRelocations 55 = .ok (.getfield 60, 3) := by decide +kernel
theorem d_Mo_haveLikeRelocations_58 : decode b_Mo_haveLikeRelocations 58 = .ok (.iload 4, 2) := by decide +kernel
theorem d_Mo_haveLikeRelocations_60 : decode b_Mo_haveLikeRelocations 60 = .ok (.iaload, 1) := by decide +kernel
theorem d_Mo_haveLikeRelocations_61 : decode b_Mo_haveLikeRelocations 61 = .ok (.if_icmp .ne 39, 3) := by decide +kernel
theorem d_Mo_haveLikeRelocations_64 : decode b_Mo_haveLikeRelocations 64 = .ok (.aload_n 0, 1) := by decide +kernel
theorem d_Mo_haveLikeRelocations_65 : decode b_Mo_haveLikeRelocations 65 = .ok (.getfield 66, 3) := by decide +kernel
theorem d_Mo_haveLikeRelocations_68 : decode b_Mo_haveLikeRelocations 68 = .ok (.iload_n 3, 1) := by decide +kernel
theorem d_Mo_haveLikeRelocations_69 : decode b_Mo_haveLikeRelocations 69 = .ok (.iaload, 1) := by decide +kernel
theorem d_Mo_haveLikeRelocations_70 : decode b_Mo_haveLikeRelocations 70 = .ok (.aload_n 0, 1) := by decide +kernel
theorem d_Mo_haveLikeRelocations_71 : decode b_Mo_haveLikeRelocations 71 = .ok (.getfield 66, 3) := by decide +kernel
theorem d_Mo_haveLikeRelocations_74 : decode b_Mo_haveLikeRelocations 74 = .ok (.iload 4, 2) := by decide +kernel
theorem d_Mo_haveLikeRelocations_76 : decode b_Mo_haveLikeRelocations 76 = .ok (.iaload, 1) := by decide +kernel
theorem d_Mo_haveLikeRelocations_77 : decode b_Mo_haveLikeRelocations 77 = .ok (.if_icmp .ne 23, 3) := by decide +kernel
theorem d_Mo_haveLikeRelocations_80 : decode b_Mo_haveLikeRelocations 80 = .ok (.aload_n 0, 1) := by decide +kernel
theorem d_Mo_haveLikeRelocations_81 : decode b_Mo_haveLikeRelocations 81 = .ok (.aload_n 0, 1) := by decide +kernel
theorem d_Mo_haveLikeRelocations_82 : decode b_Mo_haveLikeRelocations 82 = .ok (.getfield 63, 3) := by decide +kernel
theorem d_Mo_haveLikeRelocations_85 : decode b_Mo_haveLikeRelocations 85 = .ok (.iload_n 3, 1) := by decide +kernel
theorem d_Mo_haveLikeRelocations_86 : decode b_Mo_haveLikeRelocations 86 = .ok (.iaload, 1) := by decide +kernel
theorem d_Mo_haveLikeRelocations_87 : decode b_Mo_haveLikeRelocations 87 = .ok (.aload_n 0, 1) := by decide +kernel
theorem d_Mo_haveLikeRelocations_88 : decode b_Mo_haveLikeRelocations 88 = .ok (.getfield 63, 3) := by decide +kernel
theorem d_Mo_haveLikeRelocations_91 : decode b_Mo_haveLikeRelocations 91 = .ok (.iload 4, 2) := by decide +kernel
theorem d_Mo_haveLikeRelocations_93 : decode b_Mo_haveLikeRelocations 93 = .ok (.iaload, 1) := by decide +kernel
theorem d_Mo_haveLikeRelocations_94 : decode b_Mo_haveLikeRelocations 94 = .ok (.invokevirtual 214, 3) := by decide +kernel
theorem d_Mo_haveLikeRelocations_97 : decode b_Mo_haveLikeRelocations 97 = .ok (.ifCond .ne 5, 3) := by decide +kernel
theorem d_Mo_haveLikeRelocations_100 : decode b_Mo_haveLikeRelocations 100 = .ok (.iconst 0, 1) := by decide +kernel
theorem d_Mo_haveLikeRelocations_101 : decode b_Mo_haveLikeRelocations 101 = .ok (.ireturn, 1) := by decide +kernel
theorem d_Mo_haveLikeRelocations_102 : decode b_Mo_haveLikeRelocations 102 = .ok (.aload_n 0, 1) := by decide +kernel
theorem d_Mo_haveLikeRelocations_103 : decode b_Mo_haveLikeRelocations 103 = .ok (.iload_n 1, 1) := by decide +kernel
theorem d_Mo_haveLikeRelocations_104 : decode b_Mo_haveLikeRelocations 104 = .ok (.iload_n 3, 1) := by decide +kernel
theorem d_Mo_haveLikeRelocations_105 : decode b_Mo_haveLikeRelocations 105 = .ok (.invokevirtual 210, 3) := by decide +kernel
theorem d_Mo_haveLikeRelocations_108 : decode b_Mo_haveLikeRelocations 108 = .ok (.istore_n 3, 1) := by decide +kernel
theorem d_Mo_haveLikeRelocations_109 : decode b_Mo_haveLikeRelocations 109 = .ok (.aload_n 0, 1) := by decide +kernel
theorem d_Mo_haveLikeRelocations_110 : decode b_Mo_haveLikeRelocations 110 = .ok (.iload_n 2, 1) := by decide +kernel
theorem d_Mo_haveLikeRelocations_111 : decode b_Mo_haveLikeRelocations 111 = .ok (.iload 4, 2) := by decide +kernel
theorem d_Mo_haveLikeRelocations_113 : decode b_Mo_haveLikeRelocations 113 = .ok (.invokevirtual 210, 3) := by decide +kernel
theorem d_Mo_haveLikeRelocations_116 : decode b_Mo_haveLikeRelocations 116 = .ok (.istore 4, 2) := by decide +kernel
theorem d_Mo_haveLikeRelocations_118 : decode b_Mo_haveLikeRelocations 118 = .ok (.goto (-103), 3) := by decide +kernel
theorem d_Mo_haveLikeRelocations_121 : decode b_Mo_haveLikeRelocations 121 = .ok (.iload_n 3, 1) := by decide +kernel
theorem d_Mo_haveLikeRelocations_122 : decode b_Mo_haveLikeRelocations 122 = .ok (.aload_n 0, 1) := by decide +kernel
theorem d_Mo_haveLikeRelocations_123 : decode b_Mo_haveLikeRelocations 123 = .ok (.getfield 167, 3) := by decide +kernel
theorem d_Mo_haveLikeRelocations_126 : decode b_Mo_haveLikeRelocations 126 = .ok (.if_icmp .ne 16, 3) := by decide +kernel
theorem d_Mo_haveLikeRelocations_129 : decode b_Mo_haveLikeRelocations 129 = .ok (.iload 4, 2) := by decide +kernel
theorem d_Mo_haveLikeRelocations_131 : decode b_Mo_haveLikeRelocations 131 = .ok (.aload_n 0, 1) := by decide +kernel
theorem d_Mo_haveLikeRelocations_132 : decode b_Mo_haveLikeRelocations 132 = .ok (.getfield 167, 3) := by decide +kernel
theorem d_Mo_haveLikeRelocations_135 : decode b_Mo_haveLikeRelocations 135 = .ok (.if_icmp .ne 7, 3) := by decide +kernel
theorem d_Mo_haveLikeRelocations_138 : decode b_Mo_haveLikeRelocations 138 = .ok (.iconst 1, 1) := by decide +kernel
theorem d_Mo_haveLikeRelocations_139 : decode b_Mo_haveLikeRelocations 139 = .ok (.goto 4, 3) := by decide +kernel
theorem d_Mo_haveLikeRelocations_142 : decode b_Mo_haveLikeRelocations 142 = .ok (.iconst 0, 1) := by decide +kernel
theorem d_Mo_haveLikeRelocations_143 : decode b_Mo_haveLikeRelocations 143 = .ok (.ireturn, 1) := by decide +kernel
