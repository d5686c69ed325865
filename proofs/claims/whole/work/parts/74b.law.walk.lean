set_option maxHeartbeats 4000000 in
set_option maxRecDepth 100000 in
theorem lc_unit {C : YC} {cJ : ClassId} {I : Sto → Sto → Prop} {b LL : Nat} {xs : Nat → Int32} {a a' : Nat → Nat} {o k n : Nat} {f : Nat → Int64} {V M : Sto} {i : Int32} (hC : YF C "LinkYardLaw" code 7 room_1) (G : LG C cJ b LL xs) (hin : ∀ d : Int32, (1 ≤ d ∧ d ≤ 5) → vp_in (i + d) LL) (hkn : k + 2 ≤ 601024 ∧ n + 310000 ≤ 7293034) (hst : StI I cs_Lw_unit (f_Ly_unit V (xs (i + 1).toNatClampNeg)) (f_Mo_unit M (xs (i + 1).toNatClampNeg)) V 0) (kk : LK C cJ I a a' o b i k n V) : Z C 7 k n 132 (lwL i o (a' 0) (a 0) b) [] (wsF C.cI C.cZ a' M 0 shpM ++ (wsF C.cI C.cZ a V 0 shpC ++ [outC cJ o f])) := by
  obtain ⟨hJ, hXT, hNC, hX, hbl, hbA, hN⟩ := G
  refine Z_aload_n (pc := 132) hC d_law_132 rfl 3 rfl ?_
  refine Z_aload_n (pc := 133) hC d_law_133 rfl 4 rfl ?_
  refine Z_iload (pc := 134) hC d_law_134 0 rfl ?_
  refine Z_iconst (pc := 136) hC d_law_136 ki_1 ?_
  refine Z_iadd (pc := 137) hC d_law_137 ?_
  refine Z_sald (pc := 138) hC hX hbl hbA (hin _ in1) d_law_138 ?_
  refine Z_aload_n (pc := 139) hC d_law_139 rfl 1 rfl ?_
  obtain ⟨kc, r, V1, b1, M1, hHO, hy, hth, hrb, hI, hg⟩ := hst
  have hph := phi_le V1
  refine Z_hsX (P := wsF C.cI C.cZ a' M 0 shpM) (pc := 140) hC hJ hXT hNC (h_Lw_unit C.l C.D C.cI C.cZ cJ a o f hN hHO) mh_Lw_80 (by decide) ⟨by omega, by omega⟩ (Nat.le_of_ble_eq_true rfl) rfl d_law_140 (fun w k1 n1 hB hk1 hn1 => ?_)
  obtain ⟨a1, f1, ha1, hf1, rfl⟩ := hB
  refine Z_istore (pc := 143) hC (L' := [(5, .int kc), (4, .int i), (3, .ref o), (2, .ref (a' 0)), (1, .ref (a 0)), (0, .ref b)]) d_law_143 (by decide) rfl ?_
  refine Z_aload_n (pc := 145) hC d_law_145 rfl 3 rfl ?_
  refine Z_aload_n (pc := 146) hC d_law_146 rfl 5 rfl ?_
  refine Z_iload (pc := 147) hC d_law_147 1 rfl ?_
  refine Z_iconst (pc := 149) hC d_law_149 ki_1 ?_
  refine Z_iadd (pc := 150) hC d_law_150 ?_
  refine Z_sald (pc := 151) hC hX hbl hbA (hin _ in1) d_law_151 ?_
  refine Z_vi0 (S := (wsF C.cI C.cZ a1 V1 0 shpC ++ [outC cJ o f1])) (pc := 152) hC (c_Mo_unit C.l C.D C.cI C.cZ a' hy) sm_0 cls_Mo ml_LinkYardLaw_85 mv_Mo_unit ⟨⟨Nat.le_of_ble_eq_true rfl, Nat.le_of_ble_eq_true rfl⟩, rfl, rfl⟩ ⟨by show _ ≤ 601024; omega, by show _ ≤ 7293034; omega⟩ (Nat.le_of_ble_eq_true rfl) rfl d_law_152 ?_
  refine Z_istore (pc := 155) hC (L' := [(6, .int b1), (5, .int kc), (4, .int i), (3, .ref o), (2, .ref (a' 0)), (1, .ref (a 0)), (0, .ref b)]) d_law_155 (by decide) rfl ?_
  refine Z_aload_n (pc := 157) hC d_law_157 rfl 4 rfl ?_
  refine Z_vi0 (S := (wsF C.cI C.cZ a1 V1 0 shpC ++ [outC cJ o f1])) (pc := 158) hC (c_Mo_thrown C.l C.D C.cI C.cZ a' (V := M1) rfl) sm_0 cls_Mo ml_LinkYardLaw_86 mv_Mo_thrown ⟨⟨Nat.le_of_ble_eq_true rfl, Nat.le_of_ble_eq_true rfl⟩, rfl, rfl⟩ ⟨by show _ ≤ 601024; omega, by show _ ≤ 7293034; omega⟩ (Nat.le_of_ble_eq_true rfl) rfl d_law_158 ?_
  refine Z_iload (pc := 161) hC d_law_161 1 rfl ?_
  refine Z_icmp_eq (pc := 163) hC 168 d_law_163 rfl (fun _ => ?_) (fun hne => absurd hth hne)
  refine Z_iload (pc := 168) hC d_law_168 1 rfl ?_
  refine Z_if_ne (pc := 170) hC 185 d_law_170 rfl (fun hne => ?_) (fun hz => ?_)
  · refine Z_goto (pc := 185) hC 1341 d_law_185 rfl ?_
    refine Z_subL [2, 3, 4, 5, 6] (L' := lwL i o (a' 0) (a 0) b) rfl ?_
    exact kk V1 M1 a1 f1 k1 n1 hI ha1 (by omega) (by omega)
  · refine Z_aload_n (pc := 173) hC d_law_173 rfl 3 rfl ?_
    refine Z_iconst (pc := 174) hC d_law_174 ki_0 ?_
    refine Z_lald (pc := 175) hC (X := wsF C.cI C.cZ a' M1 0 shpM ++ wsF C.cI C.cZ a1 V1 0 shpC) hJ d_law_175 ?_
    refine Z_iload (pc := 176) hC d_law_176 0 rfl ?_
    refine Z_i2l (pc := 178) hC d_law_178 ?_
    refine Z_lcmp (pc := 179) hC d_law_179 ?_
    refine Z_if_eq (pc := 180) hC 185 d_law_180 rfl (fun _ => ?_) (fun hne => absurd (lg_eq ((hf1 hz).trans (by rw [hrb hz]))) hne)
    refine Z_goto (pc := 185) hC 1341 d_law_185 rfl ?_
    refine Z_subL [2, 3, 4, 5, 6] (L' := lwL i o (a' 0) (a 0) b) rfl ?_
    exact kk V1 M1 a1 f1 k1 n1 hI ha1 (by omega) (by omega)
set_option maxHeartbeats 4000000 in
set_option maxRecDepth 100000 in
theorem lc_section {C : YC} {cJ : ClassId} {I : Sto → Sto → Prop} {b LL : Nat} {xs : Nat → Int32} {a a' : Nat → Nat} {o k n : Nat} {f : Nat → Int64} {V M : Sto} {i : Int32} (hC : YF C "LinkYardLaw" code 7 room_1) (G : LG C cJ b LL xs) (hin : ∀ d : Int32, (1 ≤ d ∧ d ≤ 5) → vp_in (i + d) LL) (hkn : k + 2 ≤ 601024 ∧ n + 310000 ≤ 7293034) (hst : StS I cs_Lw_section (f_Ly_section V (xs (i + 1).toNatClampNeg) (xs (i + 2).toNatClampNeg) (xs (i + 3).toNatClampNeg) (xs (i + 4).toNatClampNeg)) (f_Mo_section M (xs (i + 1).toNatClampNeg) (xs (i + 2).toNatClampNeg) (xs (i + 3).toNatClampNeg) (xs (i + 4).toNatClampNeg)) V (gsA V (xs (i + 2).toNatClampNeg) (xs (i + 3).toNatClampNeg))) (kk : LK C cJ I a a' o b i k n V) : Z C 7 k n 188 (lwL i o (a' 0) (a 0) b) [] (wsF C.cI C.cZ a' M 0 shpM ++ (wsF C.cI C.cZ a V 0 shpC ++ [outC cJ o f])) := by
  obtain ⟨hJ, hXT, hNC, hX, hbl, hbA, hN⟩ := G
  refine Z_aload_n (pc := 188) hC d_law_188 rfl 3 rfl ?_
  refine Z_aload_n (pc := 189) hC d_law_189 rfl 4 rfl ?_
  refine Z_iload (pc := 190) hC d_law_190 0 rfl ?_
  refine Z_iconst (pc := 192) hC d_law_192 ki_1 ?_
  refine Z_iadd (pc := 193) hC d_law_193 ?_
  refine Z_sald (pc := 194) hC hX hbl hbA (hin _ in1) d_law_194 ?_
  refine Z_aload_n (pc := 195) hC d_law_195 rfl 4 rfl ?_
  refine Z_iload (pc := 196) hC d_law_196 0 rfl ?_
  refine Z_iconst (pc := 198) hC d_law_198 ki_2 ?_
  refine Z_iadd (pc := 199) hC d_law_199 ?_
  refine Z_sald (pc := 200) hC hX hbl hbA (hin _ in2) d_law_200 ?_
  refine Z_aload_n (pc := 201) hC d_law_201 rfl 4 rfl ?_
  refine Z_iload (pc := 202) hC d_law_202 0 rfl ?_
  refine Z_iconst (pc := 204) hC d_law_204 ki_3 ?_
  refine Z_iadd (pc := 205) hC d_law_205 ?_
  refine Z_sald (pc := 206) hC hX hbl hbA (hin _ in3) d_law_206 ?_
  refine Z_aload_n (pc := 207) hC d_law_207 rfl 4 rfl ?_
  refine Z_iload (pc := 208) hC d_law_208 0 rfl ?_
  refine Z_iconst (pc := 210) hC d_law_210 ki_4 ?_
  refine Z_iadd (pc := 211) hC d_law_211 ?_
  refine Z_sald (pc := 212) hC hX hbl hbA (hin _ in4) d_law_212 ?_
  refine Z_aload_n (pc := 213) hC d_law_213 rfl 1 rfl ?_
  obtain ⟨kc, r, V1, b1, M1, hHO, hy, hth, hrb, hI, hg⟩ := hst
  have hph := phi_le V1
  refine Z_hsX (P := wsF C.cI C.cZ a' M 0 shpM) (pc := 214) hC hJ hXT hNC (h_Lw_section C.l C.D C.cI C.cZ cJ a o f hN hHO) mh_Lw_90 (by decide) ⟨by omega, by omega⟩ (Nat.le_of_ble_eq_true rfl) rfl d_law_214 (fun w k1 n1 hB hk1 hn1 => ?_)
  obtain ⟨a1, f1, ha1, hf1, rfl⟩ := hB
  refine Z_istore (pc := 217) hC (L' := [(5, .int kc), (4, .int i), (3, .ref o), (2, .ref (a' 0)), (1, .ref (a 0)), (0, .ref b)]) d_law_217 (by decide) rfl ?_
  refine Z_aload_n (pc := 219) hC d_law_219 rfl 3 rfl ?_
  refine Z_aload_n (pc := 220) hC d_law_220 rfl 5 rfl ?_
  refine Z_iload (pc := 221) hC d_law_221 1 rfl ?_
  refine Z_iconst (pc := 223) hC d_law_223 ki_1 ?_
  refine Z_iadd (pc := 224) hC d_law_224 ?_
  refine Z_sald (pc := 225) hC hX hbl hbA (hin _ in1) d_law_225 ?_
  refine Z_aload_n (pc := 226) hC d_law_226 rfl 5 rfl ?_
  refine Z_iload (pc := 227) hC d_law_227 1 rfl ?_
  refine Z_iconst (pc := 229) hC d_law_229 ki_2 ?_
  refine Z_iadd (pc := 230) hC d_law_230 ?_
  refine Z_sald (pc := 231) hC hX hbl hbA (hin _ in2) d_law_231 ?_
  refine Z_aload_n (pc := 232) hC d_law_232 rfl 5 rfl ?_
  refine Z_iload (pc := 233) hC d_law_233 1 rfl ?_
  refine Z_iconst (pc := 235) hC d_law_235 ki_3 ?_
  refine Z_iadd (pc := 236) hC d_law_236 ?_
  refine Z_sald (pc := 237) hC hX hbl hbA (hin _ in3) d_law_237 ?_
  refine Z_aload_n (pc := 238) hC d_law_238 rfl 5 rfl ?_
  refine Z_iload (pc := 239) hC d_law_239 1 rfl ?_
  refine Z_iconst (pc := 241) hC d_law_241 ki_4 ?_
  refine Z_iadd (pc := 242) hC d_law_242 ?_
  refine Z_sald (pc := 243) hC hX hbl hbA (hin _ in4) d_law_243 ?_
  refine Z_vi0 (S := (wsF C.cI C.cZ a1 V1 0 shpC ++ [outC cJ o f1])) (pc := 244) hC (c_Mo_section C.l C.D C.cI C.cZ a' hy) sm_0 cls_Mo ml_LinkYardLaw_93 mv_Mo_section ⟨⟨Nat.le_of_ble_eq_true rfl, Nat.le_of_ble_eq_true rfl⟩, rfl, rfl⟩ ⟨by show _ ≤ 601024; omega, by show _ ≤ 7293034; omega⟩ (Nat.le_of_ble_eq_true rfl) rfl d_law_244 ?_
  refine Z_istore (pc := 247) hC (L' := [(6, .int b1), (5, .int kc), (4, .int i), (3, .ref o), (2, .ref (a' 0)), (1, .ref (a 0)), (0, .ref b)]) d_law_247 (by decide) rfl ?_
  refine Z_aload_n (pc := 249) hC d_law_249 rfl 4 rfl ?_
  refine Z_vi0 (S := (wsF C.cI C.cZ a1 V1 0 shpC ++ [outC cJ o f1])) (pc := 250) hC (c_Mo_thrown C.l C.D C.cI C.cZ a' (V := M1) rfl) sm_0 cls_Mo ml_LinkYardLaw_86 mv_Mo_thrown ⟨⟨Nat.le_of_ble_eq_true rfl, Nat.le_of_ble_eq_true rfl⟩, rfl, rfl⟩ ⟨by show _ ≤ 601024; omega, by show _ ≤ 7293034; omega⟩ (Nat.le_of_ble_eq_true rfl) rfl d_law_250 ?_
  refine Z_iload (pc := 253) hC d_law_253 1 rfl ?_
  refine Z_icmp_eq (pc := 255) hC 260 d_law_255 rfl (fun _ => ?_) (fun hne => absurd hth hne)
  refine Z_iload (pc := 260) hC d_law_260 1 rfl ?_
  refine Z_if_ne (pc := 262) hC 277 d_law_262 rfl (fun hne => ?_) (fun hz => ?_)
  · refine Z_goto (pc := 277) hC 1341 d_law_277 rfl ?_
    refine Z_subL [2, 3, 4, 5, 6] (L' := lwL i o (a' 0) (a 0) b) rfl ?_
    exact kk V1 M1 a1 f1 k1 n1 hI ha1 (by omega) (by omega)
  · refine Z_aload_n (pc := 265) hC d_law_265 rfl 3 rfl ?_
    refine Z_iconst (pc := 266) hC d_law_266 ki_0 ?_
    refine Z_lald (pc := 267) hC (X := wsF C.cI C.cZ a' M1 0 shpM ++ wsF C.cI C.cZ a1 V1 0 shpC) hJ d_law_267 ?_
    refine Z_iload (pc := 268) hC d_law_268 0 rfl ?_
    refine Z_i2l (pc := 270) hC d_law_270 ?_
    refine Z_lcmp (pc := 271) hC d_law_271 ?_
    refine Z_if_eq (pc := 272) hC 277 d_law_272 rfl (fun _ => ?_) (fun hne => absurd (lg_eq ((hf1 hz).trans (by rw [hrb hz]))) hne)
    refine Z_goto (pc := 277) hC 1341 d_law_277 rfl ?_
    refine Z_subL [2, 3, 4, 5, 6] (L' := lwL i o (a' 0) (a 0) b) rfl ?_
    exact kk V1 M1 a1 f1 k1 n1 hI ha1 (by omega) (by omega)
set_option maxHeartbeats 4000000 in
set_option maxRecDepth 100000 in
theorem lc_word {C : YC} {cJ : ClassId} {I : Sto → Sto → Prop} {b LL : Nat} {xs : Nat → Int32} {a a' : Nat → Nat} {o k n : Nat} {f : Nat → Int64} {V M : Sto} {i : Int32} (hC : YF C "LinkYardLaw" code 7 room_1) (G : LG C cJ b LL xs) (hin : ∀ d : Int32, (1 ≤ d ∧ d ≤ 5) → vp_in (i + d) LL) (hkn : k + 2 ≤ 601024 ∧ n + 310000 ≤ 7293034) (hst : StV I cs_Lw_word (f_Ly_word V (xs (i + 1).toNatClampNeg) (xs (i + 2).toNatClampNeg) (xs (i + 3).toNatClampNeg)) (f_Mo_word M (xs (i + 1).toNatClampNeg) (xs (i + 2).toNatClampNeg) (xs (i + 3).toNatClampNeg)) V) (kk : LK C cJ I a a' o b i k n V) : Z C 7 k n 280 (lwL i o (a' 0) (a 0) b) [] (wsF C.cI C.cZ a' M 0 shpM ++ (wsF C.cI C.cZ a V 0 shpC ++ [outC cJ o f])) := by
  obtain ⟨hJ, hXT, hNC, hX, hbl, hbA, hN⟩ := G
  refine Z_aload_n (pc := 280) hC d_law_280 rfl 3 rfl ?_
  refine Z_aload_n (pc := 281) hC d_law_281 rfl 4 rfl ?_
  refine Z_iload (pc := 282) hC d_law_282 0 rfl ?_
  refine Z_iconst (pc := 284) hC d_law_284 ki_1 ?_
  refine Z_iadd (pc := 285) hC d_law_285 ?_
  refine Z_sald (pc := 286) hC hX hbl hbA (hin _ in1) d_law_286 ?_
  refine Z_aload_n (pc := 287) hC d_law_287 rfl 4 rfl ?_
  refine Z_iload (pc := 288) hC d_law_288 0 rfl ?_
  refine Z_iconst (pc := 290) hC d_law_290 ki_2 ?_
  refine Z_iadd (pc := 291) hC d_law_291 ?_
  refine Z_sald (pc := 292) hC hX hbl hbA (hin _ in2) d_law_292 ?_
  refine Z_aload_n (pc := 293) hC d_law_293 rfl 4 rfl ?_
  refine Z_iload (pc := 294) hC d_law_294 0 rfl ?_
  refine Z_iconst (pc := 296) hC d_law_296 ki_3 ?_
  refine Z_iadd (pc := 297) hC d_law_297 ?_
  refine Z_sald (pc := 298) hC hX hbl hbA (hin _ in3) d_law_298 ?_
  obtain ⟨kc, r, V1, b1, M1, hHO, hy, hth, hrb, hI, hg⟩ := hst
  have hph := phi_le V1
  refine Z_hsX (P := wsF C.cI C.cZ a' M 0 shpM) (pc := 299) hC hJ hXT hNC (h_Lw_word C.l C.D C.cI C.cZ cJ a o f hN hHO) mh_Lw_94 (by decide) ⟨by omega, by omega⟩ (Nat.le_of_ble_eq_true rfl) rfl d_law_299 (fun w k1 n1 hB hk1 hn1 => ?_)
  obtain ⟨a1, f1, ha1, hf1, rfl⟩ := hB
  refine Z_istore (pc := 302) hC (L' := [(5, .int kc), (4, .int i), (3, .ref o), (2, .ref (a' 0)), (1, .ref (a 0)), (0, .ref b)]) d_law_302 (by decide) rfl ?_
  refine Z_aload_n (pc := 304) hC d_law_304 rfl 3 rfl ?_
  refine Z_aload_n (pc := 305) hC d_law_305 rfl 5 rfl ?_
  refine Z_iload (pc := 306) hC d_law_306 1 rfl ?_
  refine Z_iconst (pc := 308) hC d_law_308 ki_1 ?_
  refine Z_iadd (pc := 309) hC d_law_309 ?_
  refine Z_sald (pc := 310) hC hX hbl hbA (hin _ in1) d_law_310 ?_
  refine Z_aload_n (pc := 311) hC d_law_311 rfl 5 rfl ?_
  refine Z_iload (pc := 312) hC d_law_312 1 rfl ?_
  refine Z_iconst (pc := 314) hC d_law_314 ki_2 ?_
  refine Z_iadd (pc := 315) hC d_law_315 ?_
  refine Z_sald (pc := 316) hC hX hbl hbA (hin _ in2) d_law_316 ?_
  refine Z_aload_n (pc := 317) hC d_law_317 rfl 5 rfl ?_
  refine Z_iload (pc := 318) hC d_law_318 1 rfl ?_
  refine Z_iconst (pc := 320) hC d_law_320 ki_3 ?_
  refine Z_iadd (pc := 321) hC d_law_321 ?_
  refine Z_sald (pc := 322) hC hX hbl hbA (hin _ in3) d_law_322 ?_
  refine Z_vv0 (S := (wsF C.cI C.cZ a1 V1 0 shpC ++ [outC cJ o f1])) (pc := 323) hC (c_Mo_word C.l C.D C.cI C.cZ a' hy) sm_0 cls_Mo ml_LinkYardLaw_97 mv_Mo_word ⟨⟨Nat.le_of_ble_eq_true rfl, Nat.le_of_ble_eq_true rfl⟩, rfl, rfl⟩ ⟨by show _ ≤ 601024; omega, by show _ ≤ 7293034; omega⟩ (Nat.le_of_ble_eq_true rfl) rfl d_law_323 ?_
  refine Z_aload_n (pc := 326) hC d_law_326 rfl 3 rfl ?_
  refine Z_vi0 (S := (wsF C.cI C.cZ a1 V1 0 shpC ++ [outC cJ o f1])) (pc := 327) hC (c_Mo_thrown C.l C.D C.cI C.cZ a' (V := M1) rfl) sm_0 cls_Mo ml_LinkYardLaw_86 mv_Mo_thrown ⟨⟨Nat.le_of_ble_eq_true rfl, Nat.le_of_ble_eq_true rfl⟩, rfl, rfl⟩ ⟨by show _ ≤ 601024; omega, by show _ ≤ 7293034; omega⟩ (Nat.le_of_ble_eq_true rfl) rfl d_law_327 ?_
  refine Z_iload (pc := 330) hC d_law_330 0 rfl ?_
  refine Z_icmp_eq (pc := 332) hC 337 d_law_332 rfl (fun _ => ?_) (fun hne => absurd hth hne)
  refine Z_goto (pc := 337) hC 1341 d_law_337 rfl ?_
  refine Z_subL [1, 2, 3, 4, 5] (L' := lwL i o (a' 0) (a 0) b) rfl ?_
  exact kk V1 M1 a1 f1 k1 n1 hI ha1 (by omega) (by omega)
set_option maxHeartbeats 4000000 in
set_option maxRecDepth 100000 in
theorem lc_symbol {C : YC} {cJ : ClassId} {I : Sto → Sto → Prop} {b LL : Nat} {xs : Nat → Int32} {a a' : Nat → Nat} {o k n : Nat} {f : Nat → Int64} {V M : Sto} {i : Int32} (hC : YF C "LinkYardLaw" code 7 room_1) (G : LG C cJ b LL xs) (hin : ∀ d : Int32, (1 ≤ d ∧ d ≤ 5) → vp_in (i + d) LL) (hkn : k + 2 ≤ 601024 ∧ n + 310000 ≤ 7293034) (hst : StI I cs_Lw_symbol (f_Ly_symbol V (xs (i + 1).toNatClampNeg) (xs (i + 2).toNatClampNeg) (xs (i + 3).toNatClampNeg) (xs (i + 4).toNatClampNeg)) (f_Mo_symbol M (xs (i + 1).toNatClampNeg) (xs (i + 2).toNatClampNeg) (xs (i + 3).toNatClampNeg) (xs (i + 4).toNatClampNeg)) V 0) (kk : LK C cJ I a a' o b i k n V) : Z C 7 k n 340 (lwL i o (a' 0) (a 0) b) [] (wsF C.cI C.cZ a' M 0 shpM ++ (wsF C.cI C.cZ a V 0 shpC ++ [outC cJ o f])) := by
  obtain ⟨hJ, hXT, hNC, hX, hbl, hbA, hN⟩ := G
  refine Z_aload_n (pc := 340) hC d_law_340 rfl 3 rfl ?_
  refine Z_aload_n (pc := 341) hC d_law_341 rfl 4 rfl ?_
  refine Z_iload (pc := 342) hC d_law_342 0 rfl ?_
  refine Z_iconst (pc := 344) hC d_law_344 ki_1 ?_
  refine Z_iadd (pc := 345) hC d_law_345 ?_
  refine Z_sald (pc := 346) hC hX hbl hbA (hin _ in1) d_law_346 ?_
  refine Z_aload_n (pc := 347) hC d_law_347 rfl 4 rfl ?_
  refine Z_iload (pc := 348) hC d_law_348 0 rfl ?_
  refine Z_iconst (pc := 350) hC d_law_350 ki_2 ?_
  refine Z_iadd (pc := 351) hC d_law_351 ?_
  refine Z_sald (pc := 352) hC hX hbl hbA (hin _ in2) d_law_352 ?_
  refine Z_aload_n (pc := 353) hC d_law_353 rfl 4 rfl ?_
  refine Z_iload (pc := 354) hC d_law_354 0 rfl ?_
  refine Z_iconst (pc := 356) hC d_law_356 ki_3 ?_
  refine Z_iadd (pc := 357) hC d_law_357 ?_
  refine Z_sald (pc := 358) hC hX hbl hbA (hin _ in3) d_law_358 ?_
  refine Z_aload_n (pc := 359) hC d_law_359 rfl 4 rfl ?_
  refine Z_iload (pc := 360) hC d_law_360 0 rfl ?_
  refine Z_iconst (pc := 362) hC d_law_362 ki_4 ?_
  refine Z_iadd (pc := 363) hC d_law_363 ?_
  refine Z_sald (pc := 364) hC hX hbl hbA (hin _ in4) d_law_364 ?_
  refine Z_aload_n (pc := 365) hC d_law_365 rfl 1 rfl ?_
  obtain ⟨kc, r, V1, b1, M1, hHO, hy, hth, hrb, hI, hg⟩ := hst
  have hph := phi_le V1
  refine Z_hsX (P := wsF C.cI C.cZ a' M 0 shpM) (pc := 366) hC hJ hXT hNC (h_Lw_symbol C.l C.D C.cI C.cZ cJ a o f hN hHO) mh_Lw_98 (by decide) ⟨by omega, by omega⟩ (Nat.le_of_ble_eq_true rfl) rfl d_law_366 (fun w k1 n1 hB hk1 hn1 => ?_)
  obtain ⟨a1, f1, ha1, hf1, rfl⟩ := hB
  refine Z_istore (pc := 369) hC (L' := [(5, .int kc), (4, .int i), (3, .ref o), (2, .ref (a' 0)), (1, .ref (a 0)), (0, .ref b)]) d_law_369 (by decide) rfl ?_
  refine Z_aload_n (pc := 371) hC d_law_371 rfl 3 rfl ?_
  refine Z_aload_n (pc := 372) hC d_law_372 rfl 5 rfl ?_
  refine Z_iload (pc := 373) hC d_law_373 1 rfl ?_
  refine Z_iconst (pc := 375) hC d_law_375 ki_1 ?_
  refine Z_iadd (pc := 376) hC d_law_376 ?_
  refine Z_sald (pc := 377) hC hX hbl hbA (hin _ in1) d_law_377 ?_
  refine Z_aload_n (pc := 378) hC d_law_378 rfl 5 rfl ?_
  refine Z_iload (pc := 379) hC d_law_379 1 rfl ?_
  refine Z_iconst (pc := 381) hC d_law_381 ki_2 ?_
  refine Z_iadd (pc := 382) hC d_law_382 ?_
  refine Z_sald (pc := 383) hC hX hbl hbA (hin _ in2) d_law_383 ?_
  refine Z_aload_n (pc := 384) hC d_law_384 rfl 5 rfl ?_
  refine Z_iload (pc := 385) hC d_law_385 1 rfl ?_
  refine Z_iconst (pc := 387) hC d_law_387 ki_3 ?_
  refine Z_iadd (pc := 388) hC d_law_388 ?_
  refine Z_sald (pc := 389) hC hX hbl hbA (hin _ in3) d_law_389 ?_
  refine Z_aload_n (pc := 390) hC d_law_390 rfl 5 rfl ?_
  refine Z_iload (pc := 391) hC d_law_391 1 rfl ?_
  refine Z_iconst (pc := 393) hC d_law_393 ki_4 ?_
  refine Z_iadd (pc := 394) hC d_law_394 ?_
  refine Z_sald (pc := 395) hC hX hbl hbA (hin _ in4) d_law_395 ?_
  refine Z_vi0 (S := (wsF C.cI C.cZ a1 V1 0 shpC ++ [outC cJ o f1])) (pc := 396) hC (c_Mo_symbol C.l C.D C.cI C.cZ a' hy) sm_0 cls_Mo ml_LinkYardLaw_100 mv_Mo_symbol ⟨⟨Nat.le_of_ble_eq_true rfl, Nat.le_of_ble_eq_true rfl⟩, rfl, rfl⟩ ⟨by show _ ≤ 601024; omega, by show _ ≤ 7293034; omega⟩ (Nat.le_of_ble_eq_true rfl) rfl d_law_396 ?_
  refine Z_istore (pc := 399) hC (L' := [(6, .int b1), (5, .int kc), (4, .int i), (3, .ref o), (2, .ref (a' 0)), (1, .ref (a 0)), (0, .ref b)]) d_law_399 (by decide) rfl ?_
  refine Z_aload_n (pc := 401) hC d_law_401 rfl 4 rfl ?_
  refine Z_vi0 (S := (wsF C.cI C.cZ a1 V1 0 shpC ++ [outC cJ o f1])) (pc := 402) hC (c_Mo_thrown C.l C.D C.cI C.cZ a' (V := M1) rfl) sm_0 cls_Mo ml_LinkYardLaw_86 mv_Mo_thrown ⟨⟨Nat.le_of_ble_eq_true rfl, Nat.le_of_ble_eq_true rfl⟩, rfl, rfl⟩ ⟨by show _ ≤ 601024; omega, by show _ ≤ 7293034; omega⟩ (Nat.le_of_ble_eq_true rfl) rfl d_law_402 ?_
  refine Z_iload (pc := 405) hC d_law_405 1 rfl ?_
  refine Z_icmp_eq (pc := 407) hC 412 d_law_407 rfl (fun _ => ?_) (fun hne => absurd hth hne)
  refine Z_iload (pc := 412) hC d_law_412 1 rfl ?_
  refine Z_if_ne (pc := 414) hC 429 d_law_414 rfl (fun hne => ?_) (fun hz => ?_)
  · refine Z_goto (pc := 429) hC 1341 d_law_429 rfl ?_
    refine Z_subL [2, 3, 4, 5, 6] (L' := lwL i o (a' 0) (a 0) b) rfl ?_
    exact kk V1 M1 a1 f1 k1 n1 hI ha1 (by omega) (by omega)
  · refine Z_aload_n (pc := 417) hC d_law_417 rfl 3 rfl ?_
    refine Z_iconst (pc := 418) hC d_law_418 ki_0 ?_
    refine Z_lald (pc := 419) hC (X := wsF C.cI C.cZ a' M1 0 shpM ++ wsF C.cI C.cZ a1 V1 0 shpC) hJ d_law_419 ?_
    refine Z_iload (pc := 420) hC d_law_420 0 rfl ?_
    refine Z_i2l (pc := 422) hC d_law_422 ?_
    refine Z_lcmp (pc := 423) hC d_law_423 ?_
    refine Z_if_eq (pc := 424) hC 429 d_law_424 rfl (fun _ => ?_) (fun hne => absurd (lg_eq ((hf1 hz).trans (by rw [hrb hz]))) hne)
    refine Z_goto (pc := 429) hC 1341 d_law_429 rfl ?_
    refine Z_subL [2, 3, 4, 5, 6] (L' := lwL i o (a' 0) (a 0) b) rfl ?_
    exact kk V1 M1 a1 f1 k1 n1 hI ha1 (by omega) (by omega)
set_option maxHeartbeats 4000000 in
set_option maxRecDepth 100000 in
theorem lc_other {C : YC} {cJ : ClassId} {I : Sto → Sto → Prop} {b LL : Nat} {xs : Nat → Int32} {a a' : Nat → Nat} {o k n : Nat} {f : Nat → Int64} {V M : Sto} {i : Int32} (hC : YF C "LinkYardLaw" code 7 room_1) (G : LG C cJ b LL xs) (hin : ∀ d : Int32, (1 ≤ d ∧ d ≤ 5) → vp_in (i + d) LL) (hkn : k + 2 ≤ 601024 ∧ n + 310000 ≤ 7293034) (hst : StI I cs_Lw_other (f_Ly_other V (xs (i + 1).toNatClampNeg) (xs (i + 2).toNatClampNeg) (xs (i + 3).toNatClampNeg) (xs (i + 4).toNatClampNeg) (xs (i + 5).toNatClampNeg)) (f_Mo_other M (xs (i + 1).toNatClampNeg) (xs (i + 2).toNatClampNeg) (xs (i + 3).toNatClampNeg) (xs (i + 4).toNatClampNeg) (xs (i + 5).toNatClampNeg)) V 0) (kk : LK C cJ I a a' o b i k n V) : Z C 7 k n 432 (lwL i o (a' 0) (a 0) b) [] (wsF C.cI C.cZ a' M 0 shpM ++ (wsF C.cI C.cZ a V 0 shpC ++ [outC cJ o f])) := by
  obtain ⟨hJ, hXT, hNC, hX, hbl, hbA, hN⟩ := G
  refine Z_aload_n (pc := 432) hC d_law_432 rfl 3 rfl ?_
  refine Z_aload_n (pc := 433) hC d_law_433 rfl 4 rfl ?_
  refine Z_iload (pc := 434) hC d_law_434 0 rfl ?_
  refine Z_iconst (pc := 436) hC d_law_436 ki_1 ?_
  refine Z_iadd (pc := 437) hC d_law_437 ?_
  refine Z_sald (pc := 438) hC hX hbl hbA (hin _ in1) d_law_438 ?_
  refine Z_aload_n (pc := 439) hC d_law_439 rfl 4 rfl ?_
  refine Z_iload (pc := 440) hC d_law_440 0 rfl ?_
  refine Z_iconst (pc := 442) hC d_law_442 ki_2 ?_
  refine Z_iadd (pc := 443) hC d_law_443 ?_
  refine Z_sald (pc := 444) hC hX hbl hbA (hin _ in2) d_law_444 ?_
  refine Z_aload_n (pc := 445) hC d_law_445 rfl 4 rfl ?_
  refine Z_iload (pc := 446) hC d_law_446 0 rfl ?_
  refine Z_iconst (pc := 448) hC d_law_448 ki_3 ?_
  refine Z_iadd (pc := 449) hC d_law_449 ?_
  refine Z_sald (pc := 450) hC hX hbl hbA (hin _ in3) d_law_450 ?_
  refine Z_aload_n (pc := 451) hC d_law_451 rfl 4 rfl ?_
  refine Z_iload (pc := 452) hC d_law_452 0 rfl ?_
  refine Z_iconst (pc := 454) hC d_law_454 ki_4 ?_
  refine Z_iadd (pc := 455) hC d_law_455 ?_
  refine Z_sald (pc := 456) hC hX hbl hbA (hin _ in4) d_law_456 ?_
  refine Z_aload_n (pc := 457) hC d_law_457 rfl 4 rfl ?_
  refine Z_iload (pc := 458) hC d_law_458 0 rfl ?_
  refine Z_iconst (pc := 460) hC d_law_460 ki_5 ?_
  refine Z_iadd (pc := 461) hC d_law_461 ?_
  refine Z_sald (pc := 462) hC hX hbl hbA (hin _ in5) d_law_462 ?_
  refine Z_aload_n (pc := 463) hC d_law_463 rfl 1 rfl ?_
  obtain ⟨kc, r, V1, b1, M1, hHO, hy, hth, hrb, hI, hg⟩ := hst
  have hph := phi_le V1
  refine Z_hsX (P := wsF C.cI C.cZ a' M 0 shpM) (pc := 464) hC hJ hXT hNC (h_Lw_other C.l C.D C.cI C.cZ cJ a o f hN hHO) mh_Lw_101 (by decide) ⟨by omega, by omega⟩ (Nat.le_of_ble_eq_true rfl) rfl d_law_464 (fun w k1 n1 hB hk1 hn1 => ?_)
  obtain ⟨a1, f1, ha1, hf1, rfl⟩ := hB
  refine Z_istore (pc := 467) hC (L' := [(5, .int kc), (4, .int i), (3, .ref o), (2, .ref (a' 0)), (1, .ref (a 0)), (0, .ref b)]) d_law_467 (by decide) rfl ?_
  refine Z_aload_n (pc := 469) hC d_law_469 rfl 3 rfl ?_
  refine Z_aload_n (pc := 470) hC d_law_470 rfl 5 rfl ?_
  refine Z_iload (pc := 471) hC d_law_471 1 rfl ?_
  refine Z_iconst (pc := 473) hC d_law_473 ki_1 ?_
  refine Z_iadd (pc := 474) hC d_law_474 ?_
  refine Z_sald (pc := 475) hC hX hbl hbA (hin _ in1) d_law_475 ?_
  refine Z_aload_n (pc := 476) hC d_law_476 rfl 5 rfl ?_
  refine Z_iload (pc := 477) hC d_law_477 1 rfl ?_
  refine Z_iconst (pc := 479) hC d_law_479 ki_2 ?_
  refine Z_iadd (pc := 480) hC d_law_480 ?_
  refine Z_sald (pc := 481) hC hX hbl hbA (hin _ in2) d_law_481 ?_
  refine Z_aload_n (pc := 482) hC d_law_482 rfl 5 rfl ?_
  refine Z_iload (pc := 483) hC d_law_483 1 rfl ?_
  refine Z_iconst (pc := 485) hC d_law_485 ki_3 ?_
  refine Z_iadd (pc := 486) hC d_law_486 ?_
  refine Z_sald (pc := 487) hC hX hbl hbA (hin _ in3) d_law_487 ?_
  refine Z_aload_n (pc := 488) hC d_law_488 rfl 5 rfl ?_
  refine Z_iload (pc := 489) hC d_law_489 1 rfl ?_
  refine Z_iconst (pc := 491) hC d_law_491 ki_4 ?_
  refine Z_iadd (pc := 492) hC d_law_492 ?_
  refine Z_sald (pc := 493) hC hX hbl hbA (hin _ in4) d_law_493 ?_
  refine Z_aload_n (pc := 494) hC d_law_494 rfl 5 rfl ?_
  refine Z_iload (pc := 495) hC d_law_495 1 rfl ?_
  refine Z_iconst (pc := 497) hC d_law_497 ki_5 ?_
  refine Z_iadd (pc := 498) hC d_law_498 ?_
  refine Z_sald (pc := 499) hC hX hbl hbA (hin _ in5) d_law_499 ?_
  refine Z_vi0 (S := (wsF C.cI C.cZ a1 V1 0 shpC ++ [outC cJ o f1])) (pc := 500) hC (c_Mo_other C.l C.D C.cI C.cZ a' hy) sm_0 cls_Mo ml_LinkYardLaw_104 mv_Mo_other ⟨⟨Nat.le_of_ble_eq_true rfl, Nat.le_of_ble_eq_true rfl⟩, rfl, rfl⟩ ⟨by show _ ≤ 601024; omega, by show _ ≤ 7293034; omega⟩ (Nat.le_of_ble_eq_true rfl) rfl d_law_500 ?_
  refine Z_istore (pc := 503) hC (L' := [(6, .int b1), (5, .int kc), (4, .int i), (3, .ref o), (2, .ref (a' 0)), (1, .ref (a 0)), (0, .ref b)]) d_law_503 (by decide) rfl ?_
  refine Z_aload_n (pc := 505) hC d_law_505 rfl 4 rfl ?_
  refine Z_vi0 (S := (wsF C.cI C.cZ a1 V1 0 shpC ++ [outC cJ o f1])) (pc := 506) hC (c_Mo_thrown C.l C.D C.cI C.cZ a' (V := M1) rfl) sm_0 cls_Mo ml_LinkYardLaw_86 mv_Mo_thrown ⟨⟨Nat.le_of_ble_eq_true rfl, Nat.le_of_ble_eq_true rfl⟩, rfl, rfl⟩ ⟨by show _ ≤ 601024; omega, by show _ ≤ 7293034; omega⟩ (Nat.le_of_ble_eq_true rfl) rfl d_law_506 ?_
  refine Z_iload (pc := 509) hC d_law_509 1 rfl ?_
  refine Z_icmp_eq (pc := 511) hC 516 d_law_511 rfl (fun _ => ?_) (fun hne => absurd hth hne)
  refine Z_iload (pc := 516) hC d_law_516 1 rfl ?_
  refine Z_if_ne (pc := 518) hC 533 d_law_518 rfl (fun hne => ?_) (fun hz => ?_)
  · refine Z_goto (pc := 533) hC 1341 d_law_533 rfl ?_
    refine Z_subL [2, 3, 4, 5, 6] (L' := lwL i o (a' 0) (a 0) b) rfl ?_
    exact kk V1 M1 a1 f1 k1 n1 hI ha1 (by omega) (by omega)
  · refine Z_aload_n (pc := 521) hC d_law_521 rfl 3 rfl ?_
    refine Z_iconst (pc := 522) hC d_law_522 ki_0 ?_
    refine Z_lald (pc := 523) hC (X := wsF C.cI C.cZ a' M1 0 shpM ++ wsF C.cI C.cZ a1 V1 0 shpC) hJ d_law_523 ?_
    refine Z_iload (pc := 524) hC d_law_524 0 rfl ?_
    refine Z_i2l (pc := 526) hC d_law_526 ?_
    refine Z_lcmp (pc := 527) hC d_law_527 ?_
    refine Z_if_eq (pc := 528) hC 533 d_law_528 rfl (fun _ => ?_) (fun hne => absurd (lg_eq ((hf1 hz).trans (by rw [hrb hz]))) hne)
    refine Z_goto (pc := 533) hC 1341 d_law_533 rfl ?_
    refine Z_subL [2, 3, 4, 5, 6] (L' := lwL i o (a' 0) (a 0) b) rfl ?_
    exact kk V1 M1 a1 f1 k1 n1 hI ha1 (by omega) (by omega)
set_option maxHeartbeats 4000000 in
set_option maxRecDepth 100000 in
theorem lc_relocation {C : YC} {cJ : ClassId} {I : Sto → Sto → Prop} {b LL : Nat} {xs : Nat → Int32} {a a' : Nat → Nat} {o k n : Nat} {f : Nat → Int64} {V M : Sto} {i : Int32} (hC : YF C "LinkYardLaw" code 7 room_1) (G : LG C cJ b LL xs) (hin : ∀ d : Int32, (1 ≤ d ∧ d ≤ 5) → vp_in (i + d) LL) (hkn : k + 2 ≤ 601024 ∧ n + 310000 ≤ 7293034) (hst : StI I cs_Lw_relocation (f_Ly_relocation V (xs (i + 1).toNatClampNeg) (xs (i + 2).toNatClampNeg) (xs (i + 3).toNatClampNeg) (xs (i + 4).toNatClampNeg) (xs (i + 5).toNatClampNeg)) (f_Mo_relocation M (xs (i + 1).toNatClampNeg) (xs (i + 2).toNatClampNeg) (xs (i + 3).toNatClampNeg) (xs (i + 4).toNatClampNeg) (xs (i + 5).toNatClampNeg)) V 0) (kk : LK C cJ I a a' o b i k n V) : Z C 7 k n 536 (lwL i o (a' 0) (a 0) b) [] (wsF C.cI C.cZ a' M 0 shpM ++ (wsF C.cI C.cZ a V 0 shpC ++ [outC cJ o f])) := by
  obtain ⟨hJ, hXT, hNC, hX, hbl, hbA, hN⟩ := G
  refine Z_aload_n (pc := 536) hC d_law_536 rfl 3 rfl ?_
  refine Z_aload_n (pc := 537) hC d_law_537 rfl 4 rfl ?_
  refine Z_iload (pc := 538) hC d_law_538 0 rfl ?_
  refine Z_iconst (pc := 540) hC d_law_540 ki_1 ?_
  refine Z_iadd (pc := 541) hC d_law_541 ?_
  refine Z_sald (pc := 542) hC hX hbl hbA (hin _ in1) d_law_542 ?_
  refine Z_aload_n (pc := 543) hC d_law_543 rfl 4 rfl ?_
  refine Z_iload (pc := 544) hC d_law_544 0 rfl ?_
  refine Z_iconst (pc := 546) hC d_law_546 ki_2 ?_
  refine Z_iadd (pc := 547) hC d_law_547 ?_
  refine Z_sald (pc := 548) hC hX hbl hbA (hin _ in2) d_law_548 ?_
  refine Z_aload_n (pc := 549) hC d_law_549 rfl 4 rfl ?_
  refine Z_iload (pc := 550) hC d_law_550 0 rfl ?_
  refine Z_iconst (pc := 552) hC d_law_552 ki_3 ?_
  refine Z_iadd (pc := 553) hC d_law_553 ?_
  refine Z_sald (pc := 554) hC hX hbl hbA (hin _ in3) d_law_554 ?_
  refine Z_aload_n (pc := 555) hC d_law_555 rfl 4 rfl ?_
  refine Z_iload (pc := 556) hC d_law_556 0 rfl ?_
  refine Z_iconst (pc := 558) hC d_law_558 ki_4 ?_
  refine Z_iadd (pc := 559) hC d_law_559 ?_
  refine Z_sald (pc := 560) hC hX hbl hbA (hin _ in4) d_law_560 ?_
  refine Z_aload_n (pc := 561) hC d_law_561 rfl 4 rfl ?_
  refine Z_iload (pc := 562) hC d_law_562 0 rfl ?_
  refine Z_iconst (pc := 564) hC d_law_564 ki_5 ?_
  refine Z_iadd (pc := 565) hC d_law_565 ?_
  refine Z_sald (pc := 566) hC hX hbl hbA (hin _ in5) d_law_566 ?_
  refine Z_aload_n (pc := 567) hC d_law_567 rfl 1 rfl ?_
  obtain ⟨kc, r, V1, b1, M1, hHO, hy, hth, hrb, hI, hg⟩ := hst
  have hph := phi_le V1
  refine Z_hsX (P := wsF C.cI C.cZ a' M 0 shpM) (pc := 568) hC hJ hXT hNC (h_Lw_relocation C.l C.D C.cI C.cZ cJ a o f hN hHO) mh_Lw_105 (by decide) ⟨by omega, by omega⟩ (Nat.le_of_ble_eq_true rfl) rfl d_law_568 (fun w k1 n1 hB hk1 hn1 => ?_)
  obtain ⟨a1, f1, ha1, hf1, rfl⟩ := hB
  refine Z_istore (pc := 571) hC (L' := [(5, .int kc), (4, .int i), (3, .ref o), (2, .ref (a' 0)), (1, .ref (a 0)), (0, .ref b)]) d_law_571 (by decide) rfl ?_
  refine Z_aload_n (pc := 573) hC d_law_573 rfl 3 rfl ?_
  refine Z_aload_n (pc := 574) hC d_law_574 rfl 5 rfl ?_
  refine Z_iload (pc := 575) hC d_law_575 1 rfl ?_
  refine Z_iconst (pc := 577) hC d_law_577 ki_1 ?_
  refine Z_iadd (pc := 578) hC d_law_578 ?_
  refine Z_sald (pc := 579) hC hX hbl hbA (hin _ in1) d_law_579 ?_
  refine Z_aload_n (pc := 580) hC d_law_580 rfl 5 rfl ?_
  refine Z_iload (pc := 581) hC d_law_581 1 rfl ?_
  refine Z_iconst (pc := 583) hC d_law_583 ki_2 ?_
  refine Z_iadd (pc := 584) hC d_law_584 ?_
  refine Z_sald (pc := 585) hC hX hbl hbA (hin _ in2) d_law_585 ?_
  refine Z_aload_n (pc := 586) hC d_law_586 rfl 5 rfl ?_
  refine Z_iload (pc := 587) hC d_law_587 1 rfl ?_
  refine Z_iconst (pc := 589) hC d_law_589 ki_3 ?_
  refine Z_iadd (pc := 590) hC d_law_590 ?_
  refine Z_sald (pc := 591) hC hX hbl hbA (hin _ in3) d_law_591 ?_
  refine Z_aload_n (pc := 592) hC d_law_592 rfl 5 rfl ?_
  refine Z_iload (pc := 593) hC d_law_593 1 rfl ?_
  refine Z_iconst (pc := 595) hC d_law_595 ki_4 ?_
  refine Z_iadd (pc := 596) hC d_law_596 ?_
  refine Z_sald (pc := 597) hC hX hbl hbA (hin _ in4) d_law_597 ?_
  refine Z_aload_n (pc := 598) hC d_law_598 rfl 5 rfl ?_
  refine Z_iload (pc := 599) hC d_law_599 1 rfl ?_
  refine Z_iconst (pc := 601) hC d_law_601 ki_5 ?_
  refine Z_iadd (pc := 602) hC d_law_602 ?_
  refine Z_sald (pc := 603) hC hX hbl hbA (hin _ in5) d_law_603 ?_
  refine Z_vi0 (S := (wsF C.cI C.cZ a1 V1 0 shpC ++ [outC cJ o f1])) (pc := 604) hC (c_Mo_relocation C.l C.D C.cI C.cZ a' hy) sm_0 cls_Mo ml_LinkYardLaw_107 mv_Mo_relocation ⟨⟨Nat.le_of_ble_eq_true rfl, Nat.le_of_ble_eq_true rfl⟩, rfl, rfl⟩ ⟨by show _ ≤ 601024; omega, by show _ ≤ 7293034; omega⟩ (Nat.le_of_ble_eq_true rfl) rfl d_law_604 ?_
  refine Z_istore (pc := 607) hC (L' := [(6, .int b1), (5, .int kc), (4, .int i), (3, .ref o), (2, .ref (a' 0)), (1, .ref (a 0)), (0, .ref b)]) d_law_607 (by decide) rfl ?_
  refine Z_aload_n (pc := 609) hC d_law_609 rfl 4 rfl ?_
  refine Z_vi0 (S := (wsF C.cI C.cZ a1 V1 0 shpC ++ [outC cJ o f1])) (pc := 610) hC (c_Mo_thrown C.l C.D C.cI C.cZ a' (V := M1) rfl) sm_0 cls_Mo ml_LinkYardLaw_86 mv_Mo_thrown ⟨⟨Nat.le_of_ble_eq_true rfl, Nat.le_of_ble_eq_true rfl⟩, rfl, rfl⟩ ⟨by show _ ≤ 601024; omega, by show _ ≤ 7293034; omega⟩ (Nat.le_of_ble_eq_true rfl) rfl d_law_610 ?_
  refine Z_iload (pc := 613) hC d_law_613 1 rfl ?_
  refine Z_icmp_eq (pc := 615) hC 620 d_law_615 rfl (fun _ => ?_) (fun hne => absurd hth hne)
  refine Z_iload (pc := 620) hC d_law_620 1 rfl ?_
  refine Z_if_ne (pc := 622) hC 637 d_law_622 rfl (fun hne => ?_) (fun hz => ?_)
  · refine Z_goto (pc := 637) hC 1341 d_law_637 rfl ?_
    refine Z_subL [2, 3, 4, 5, 6] (L' := lwL i o (a' 0) (a 0) b) rfl ?_
    exact kk V1 M1 a1 f1 k1 n1 hI ha1 (by omega) (by omega)
  · refine Z_aload_n (pc := 625) hC d_law_625 rfl 3 rfl ?_
    refine Z_iconst (pc := 626) hC d_law_626 ki_0 ?_
    refine Z_lald (pc := 627) hC (X := wsF C.cI C.cZ a' M1 0 shpM ++ wsF C.cI C.cZ a1 V1 0 shpC) hJ d_law_627 ?_
    refine Z_iload (pc := 628) hC d_law_628 0 rfl ?_
    refine Z_i2l (pc := 630) hC d_law_630 ?_
    refine Z_lcmp (pc := 631) hC d_law_631 ?_
    refine Z_if_eq (pc := 632) hC 637 d_law_632 rfl (fun _ => ?_) (fun hne => absurd (lg_eq ((hf1 hz).trans (by rw [hrb hz]))) hne)
    refine Z_goto (pc := 637) hC 1341 d_law_637 rfl ?_
    refine Z_subL [2, 3, 4, 5, 6] (L' := lwL i o (a' 0) (a 0) b) rfl ?_
    exact kk V1 M1 a1 f1 k1 n1 hI ha1 (by omega) (by omega)
set_option maxHeartbeats 4000000 in
set_option maxRecDepth 100000 in
theorem lc_entry {C : YC} {cJ : ClassId} {I : Sto → Sto → Prop} {b LL : Nat} {xs : Nat → Int32} {a a' : Nat → Nat} {o k n : Nat} {f : Nat → Int64} {V M : Sto} {i : Int32} (hC : YF C "LinkYardLaw" code 7 room_1) (G : LG C cJ b LL xs) (hin : ∀ d : Int32, (1 ≤ d ∧ d ≤ 5) → vp_in (i + d) LL) (hkn : k + 2 ≤ 601024 ∧ n + 310000 ≤ 7293034) (hst : StV I cs_Lw_entry (f_Ly_entry V (xs (i + 1).toNatClampNeg)) (f_Mo_entry M (xs (i + 1).toNatClampNeg)) V) (kk : LK C cJ I a a' o b i k n V) : Z C 7 k n 640 (lwL i o (a' 0) (a 0) b) [] (wsF C.cI C.cZ a' M 0 shpM ++ (wsF C.cI C.cZ a V 0 shpC ++ [outC cJ o f])) := by
  obtain ⟨hJ, hXT, hNC, hX, hbl, hbA, hN⟩ := G
  refine Z_aload_n (pc := 640) hC d_law_640 rfl 3 rfl ?_
  refine Z_aload_n (pc := 641) hC d_law_641 rfl 4 rfl ?_
  refine Z_iload (pc := 642) hC d_law_642 0 rfl ?_
  refine Z_iconst (pc := 644) hC d_law_644 ki_1 ?_
  refine Z_iadd (pc := 645) hC d_law_645 ?_
  refine Z_sald (pc := 646) hC hX hbl hbA (hin _ in1) d_law_646 ?_
  obtain ⟨kc, r, V1, b1, M1, hHO, hy, hth, hrb, hI, hg⟩ := hst
  have hph := phi_le V1
  refine Z_hsX (P := wsF C.cI C.cZ a' M 0 shpM) (pc := 647) hC hJ hXT hNC (h_Lw_entry C.l C.D C.cI C.cZ cJ a o f hN hHO) mh_Lw_108 (by decide) ⟨by omega, by omega⟩ (Nat.le_of_ble_eq_true rfl) rfl d_law_647 (fun w k1 n1 hB hk1 hn1 => ?_)
  obtain ⟨a1, f1, ha1, hf1, rfl⟩ := hB
  refine Z_istore (pc := 650) hC (L' := [(5, .int kc), (4, .int i), (3, .ref o), (2, .ref (a' 0)), (1, .ref (a 0)), (0, .ref b)]) d_law_650 (by decide) rfl ?_
  refine Z_aload_n (pc := 652) hC d_law_652 rfl 3 rfl ?_
  refine Z_aload_n (pc := 653) hC d_law_653 rfl 5 rfl ?_
  refine Z_iload (pc := 654) hC d_law_654 1 rfl ?_
  refine Z_iconst (pc := 656) hC d_law_656 ki_1 ?_
  refine Z_iadd (pc := 657) hC d_law_657 ?_
  refine Z_sald (pc := 658) hC hX hbl hbA (hin _ in1) d_law_658 ?_
  refine Z_vv0 (S := (wsF C.cI C.cZ a1 V1 0 shpC ++ [outC cJ o f1])) (pc := 659) hC (c_Mo_entry C.l C.D C.cI C.cZ a' hy) sm_0 cls_Mo ml_LinkYardLaw_111 mv_Mo_entry ⟨⟨Nat.le_of_ble_eq_true rfl, Nat.le_of_ble_eq_true rfl⟩, rfl, rfl⟩ ⟨by show _ ≤ 601024; omega, by show _ ≤ 7293034; omega⟩ (Nat.le_of_ble_eq_true rfl) rfl d_law_659 ?_
  refine Z_aload_n (pc := 662) hC d_law_662 rfl 3 rfl ?_
  refine Z_vi0 (S := (wsF C.cI C.cZ a1 V1 0 shpC ++ [outC cJ o f1])) (pc := 663) hC (c_Mo_thrown C.l C.D C.cI C.cZ a' (V := M1) rfl) sm_0 cls_Mo ml_LinkYardLaw_86 mv_Mo_thrown ⟨⟨Nat.le_of_ble_eq_true rfl, Nat.le_of_ble_eq_true rfl⟩, rfl, rfl⟩ ⟨by show _ ≤ 601024; omega, by show _ ≤ 7293034; omega⟩ (Nat.le_of_ble_eq_true rfl) rfl d_law_663 ?_
  refine Z_iload (pc := 666) hC d_law_666 0 rfl ?_
  refine Z_icmp_eq (pc := 668) hC 673 d_law_668 rfl (fun _ => ?_) (fun hne => absurd hth hne)
  refine Z_goto (pc := 673) hC 1341 d_law_673 rfl ?_
  refine Z_subL [1, 2, 3, 4, 5] (L' := lwL i o (a' 0) (a 0) b) rfl ?_
  exact kk V1 M1 a1 f1 k1 n1 hI ha1 (by omega) (by omega)
set_option maxHeartbeats 4000000 in
set_option maxRecDepth 100000 in
theorem lc_keep {C : YC} {cJ : ClassId} {I : Sto → Sto → Prop} {b LL : Nat} {xs : Nat → Int32} {a a' : Nat → Nat} {o k n : Nat} {f : Nat → Int64} {V M : Sto} {i : Int32} (hC : YF C "LinkYardLaw" code 7 room_1) (G : LG C cJ b LL xs) (hin : ∀ d : Int32, (1 ≤ d ∧ d ≤ 5) → vp_in (i + d) LL) (hkn : k + 2 ≤ 601024 ∧ n + 310000 ≤ 7293034) (hst : ∀ p2, bb p2 = true → StV I cs_Lw_keep (f_Ly_keep V (xs (i + 1).toNatClampNeg) p2) (f_Mo_keep M (xs (i + 1).toNatClampNeg) p2) V) (kk : LK C cJ I a a' o b i k n V) : Z C 7 k n 676 (lwL i o (a' 0) (a 0) b) [] (wsF C.cI C.cZ a' M 0 shpM ++ (wsF C.cI C.cZ a V 0 shpC ++ [outC cJ o f])) := by
  obtain ⟨hJ, hXT, hNC, hX, hbl, hbA, hN⟩ := G
  refine Z_aload_n (pc := 676) hC d_law_676 rfl 3 rfl ?_
  refine Z_aload_n (pc := 677) hC d_law_677 rfl 4 rfl ?_
  refine Z_iload (pc := 678) hC d_law_678 0 rfl ?_
  refine Z_iconst (pc := 680) hC d_law_680 ki_1 ?_
  refine Z_iadd (pc := 681) hC d_law_681 ?_
  refine Z_sald (pc := 682) hC hX hbl hbA (hin _ in1) d_law_682 ?_
  refine Z_aload_n (pc := 683) hC d_law_683 rfl 4 rfl ?_
  refine Z_iload (pc := 684) hC d_law_684 0 rfl ?_
  refine Z_iconst (pc := 686) hC d_law_686 ki_2 ?_
  refine Z_iadd (pc := 687) hC d_law_687 ?_
  refine Z_sald (pc := 688) hC hX hbl hbA (hin _ in2) d_law_688 ?_
  refine Z_if_eq (pc := 689) hC 696 d_law_689 rfl (fun hq0 => ?_) (fun hq0 => ?_)
  · refine Z_iconst (pc := 696) hC d_law_696 ki_0 ?_
    obtain ⟨kc, r, V1, b1, M1, hHO, hy, hth, hrb, hI, hg⟩ := hst 0 rfl
    have hph := phi_le V1
    refine Z_hsX (P := wsF C.cI C.cZ a' M 0 shpM) (pc := 697) hC hJ hXT hNC (h_Lw_keep C.l C.D C.cI C.cZ cJ a o f hN hHO) mh_Lw_112 (by decide) ⟨by omega, by omega⟩ (Nat.le_of_ble_eq_true rfl) rfl d_law_697 (fun w k1 n1 hB hk1 hn1 => ?_)
    obtain ⟨a1, f1, ha1, hf1, rfl⟩ := hB
    refine Z_istore (pc := 700) hC (L' := [(5, .int kc), (4, .int i), (3, .ref o), (2, .ref (a' 0)), (1, .ref (a 0)), (0, .ref b)]) d_law_700 (by decide) rfl ?_
    refine Z_aload_n (pc := 702) hC d_law_702 rfl 3 rfl ?_
    refine Z_aload_n (pc := 703) hC d_law_703 rfl 5 rfl ?_
    refine Z_iload (pc := 704) hC d_law_704 1 rfl ?_
    refine Z_iconst (pc := 706) hC d_law_706 ki_1 ?_
    refine Z_iadd (pc := 707) hC d_law_707 ?_
    refine Z_sald (pc := 708) hC hX hbl hbA (hin _ in1) d_law_708 ?_
    refine Z_aload_n (pc := 709) hC d_law_709 rfl 5 rfl ?_
    refine Z_iload (pc := 710) hC d_law_710 1 rfl ?_
    refine Z_iconst (pc := 712) hC d_law_712 ki_2 ?_
    refine Z_iadd (pc := 713) hC d_law_713 ?_
    refine Z_sald (pc := 714) hC hX hbl hbA (hin _ in2) d_law_714 ?_
    refine Z_if_eq (pc := 715) hC 722 d_law_715 rfl (fun _ => ?_) (fun hne => absurd hq0 hne)
    refine Z_iconst (pc := 722) hC d_law_722 ki_0 ?_
    refine Z_vv0 (S := (wsF C.cI C.cZ a1 V1 0 shpC ++ [outC cJ o f1])) (pc := 723) hC (c_Mo_keep C.l C.D C.cI C.cZ a' hy) sm_0 cls_Mo ml_LinkYardLaw_115 mv_Mo_keep ⟨⟨Nat.le_of_ble_eq_true rfl, Nat.le_of_ble_eq_true rfl⟩, rfl, rfl⟩ ⟨by show _ ≤ 601024; omega, by show _ ≤ 7293034; omega⟩ (Nat.le_of_ble_eq_true rfl) rfl d_law_723 ?_
    refine Z_aload_n (pc := 726) hC d_law_726 rfl 3 rfl ?_
    refine Z_vi0 (S := (wsF C.cI C.cZ a1 V1 0 shpC ++ [outC cJ o f1])) (pc := 727) hC (c_Mo_thrown C.l C.D C.cI C.cZ a' (V := M1) rfl) sm_0 cls_Mo ml_LinkYardLaw_86 mv_Mo_thrown ⟨⟨Nat.le_of_ble_eq_true rfl, Nat.le_of_ble_eq_true rfl⟩, rfl, rfl⟩ ⟨by show _ ≤ 601024; omega, by show _ ≤ 7293034; omega⟩ (Nat.le_of_ble_eq_true rfl) rfl d_law_727 ?_
    refine Z_iload (pc := 730) hC d_law_730 0 rfl ?_
    refine Z_icmp_eq (pc := 732) hC 737 d_law_732 rfl (fun _ => ?_) (fun hne => absurd hth hne)
    refine Z_goto (pc := 737) hC 1341 d_law_737 rfl ?_
    refine Z_subL [1, 2, 3, 4, 5] (L' := lwL i o (a' 0) (a 0) b) rfl ?_
    exact kk V1 M1 a1 f1 k1 n1 hI ha1 (by omega) (by omega)
  · refine Z_iconst (pc := 692) hC d_law_692 ki_1 ?_
    refine Z_goto (pc := 693) hC 697 d_law_693 rfl ?_
    obtain ⟨kc, r, V1, b1, M1, hHO, hy, hth, hrb, hI, hg⟩ := hst 1 rfl
    have hph := phi_le V1
    refine Z_hsX (P := wsF C.cI C.cZ a' M 0 shpM) (pc := 697) hC hJ hXT hNC (h_Lw_keep C.l C.D C.cI C.cZ cJ a o f hN hHO) mh_Lw_112 (by decide) ⟨by omega, by omega⟩ (Nat.le_of_ble_eq_true rfl) rfl d_law_697 (fun w k1 n1 hB hk1 hn1 => ?_)
    obtain ⟨a1, f1, ha1, hf1, rfl⟩ := hB
    refine Z_istore (pc := 700) hC (L' := [(5, .int kc), (4, .int i), (3, .ref o), (2, .ref (a' 0)), (1, .ref (a 0)), (0, .ref b)]) d_law_700 (by decide) rfl ?_
    refine Z_aload_n (pc := 702) hC d_law_702 rfl 3 rfl ?_
    refine Z_aload_n (pc := 703) hC d_law_703 rfl 5 rfl ?_
    refine Z_iload (pc := 704) hC d_law_704 1 rfl ?_
    refine Z_iconst (pc := 706) hC d_law_706 ki_1 ?_
    refine Z_iadd (pc := 707) hC d_law_707 ?_
    refine Z_sald (pc := 708) hC hX hbl hbA (hin _ in1) d_law_708 ?_
    refine Z_aload_n (pc := 709) hC d_law_709 rfl 5 rfl ?_
    refine Z_iload (pc := 710) hC d_law_710 1 rfl ?_
    refine Z_iconst (pc := 712) hC d_law_712 ki_2 ?_
    refine Z_iadd (pc := 713) hC d_law_713 ?_
    refine Z_sald (pc := 714) hC hX hbl hbA (hin _ in2) d_law_714 ?_
    refine Z_if_eq (pc := 715) hC 722 d_law_715 rfl (fun he => absurd he hq0) (fun _ => ?_)
    refine Z_iconst (pc := 718) hC d_law_718 ki_1 ?_
    refine Z_goto (pc := 719) hC 723 d_law_719 rfl ?_
    refine Z_vv0 (S := (wsF C.cI C.cZ a1 V1 0 shpC ++ [outC cJ o f1])) (pc := 723) hC (c_Mo_keep C.l C.D C.cI C.cZ a' hy) sm_0 cls_Mo ml_LinkYardLaw_115 mv_Mo_keep ⟨⟨Nat.le_of_ble_eq_true rfl, Nat.le_of_ble_eq_true rfl⟩, rfl, rfl⟩ ⟨by show _ ≤ 601024; omega, by show _ ≤ 7293034; omega⟩ (Nat.le_of_ble_eq_true rfl) rfl d_law_723 ?_
    refine Z_aload_n (pc := 726) hC d_law_726 rfl 3 rfl ?_
    refine Z_vi0 (S := (wsF C.cI C.cZ a1 V1 0 shpC ++ [outC cJ o f1])) (pc := 727) hC (c_Mo_thrown C.l C.D C.cI C.cZ a' (V := M1) rfl) sm_0 cls_Mo ml_LinkYardLaw_86 mv_Mo_thrown ⟨⟨Nat.le_of_ble_eq_true rfl, Nat.le_of_ble_eq_true rfl⟩, rfl, rfl⟩ ⟨by show _ ≤ 601024; omega, by show _ ≤ 7293034; omega⟩ (Nat.le_of_ble_eq_true rfl) rfl d_law_727 ?_
    refine Z_iload (pc := 730) hC d_law_730 0 rfl ?_
    refine Z_icmp_eq (pc := 732) hC 737 d_law_732 rfl (fun _ => ?_) (fun hne => absurd hth hne)
    refine Z_goto (pc := 737) hC 1341 d_law_737 rfl ?_
    refine Z_subL [1, 2, 3, 4, 5] (L' := lwL i o (a' 0) (a 0) b) rfl ?_
    exact kk V1 M1 a1 f1 k1 n1 hI ha1 (by omega) (by omega)
set_option maxHeartbeats 4000000 in
set_option maxRecDepth 100000 in
theorem lc_fold {C : YC} {cJ : ClassId} {I : Sto → Sto → Prop} {b LL : Nat} {xs : Nat → Int32} {a a' : Nat → Nat} {o k n : Nat} {f : Nat → Int64} {V M : Sto} {i : Int32} (hC : YF C "LinkYardLaw" code 7 room_1) (G : LG C cJ b LL xs) (hin : ∀ d : Int32, (1 ≤ d ∧ d ≤ 5) → vp_in (i + d) LL) (hkn : k + 2 ≤ 601024 ∧ n + 310000 ≤ 7293034) (hst : ∀ p1 p2, bb p1 = true → bb p2 = true → StF I (f_Ly_fold V p1 p2) (f_Mo_fold M p1 p2) V) (kk : LK C cJ I a a' o b i k n V) : Z C 7 k n 740 (lwL i o (a' 0) (a 0) b) [] (wsF C.cI C.cZ a' M 0 shpM ++ (wsF C.cI C.cZ a V 0 shpC ++ [outC cJ o f])) := by
  obtain ⟨hJ, hXT, hNC, hX, hbl, hbA, hN⟩ := G
  refine Z_aload_n (pc := 740) hC d_law_740 rfl 3 rfl ?_
  refine Z_aload_n (pc := 741) hC d_law_741 rfl 4 rfl ?_
  refine Z_iload (pc := 742) hC d_law_742 0 rfl ?_
  refine Z_iconst (pc := 744) hC d_law_744 ki_1 ?_
  refine Z_iadd (pc := 745) hC d_law_745 ?_
  refine Z_sald (pc := 746) hC hX hbl hbA (hin _ in1) d_law_746 ?_
  refine Z_if_eq (pc := 747) hC 754 d_law_747 rfl (fun hq0 => ?_) (fun hq0 => ?_)
  · refine Z_iconst (pc := 754) hC d_law_754 ki_0 ?_
    refine Z_aload_n (pc := 755) hC d_law_755 rfl 4 rfl ?_
    refine Z_iload (pc := 756) hC d_law_756 0 rfl ?_
    refine Z_iconst (pc := 758) hC d_law_758 ki_2 ?_
    refine Z_iadd (pc := 759) hC d_law_759 ?_
    refine Z_sald (pc := 760) hC hX hbl hbA (hin _ in2) d_law_760 ?_
    refine Z_if_eq (pc := 761) hC 768 d_law_761 rfl (fun hq1 => ?_) (fun hq1 => ?_)
    · refine Z_iconst (pc := 768) hC d_law_768 ki_0 ?_
      obtain ⟨r, V1, b1, M1, hx, hy, hI, hg⟩ := hst 0 0 rfl rfl
      refine Z_vv (P := wsF C.cI C.cZ a' M 0 shpM) (S := [outC cJ o f]) (pc := 769) hC (c_Ly_fold C.l C.D C.cI C.cZ a hx) sc_0 cls_Ly ml_LinkYardLaw_116 mv_Ly_fold ⟨⟨Nat.le_of_ble_eq_true rfl, Nat.le_of_ble_eq_true rfl⟩, rfl, rfl⟩ ⟨by show _ ≤ 601024; omega, by show _ ≤ 7293034; omega⟩ (Nat.le_of_ble_eq_true rfl) rfl d_law_769 ?_
      refine Z_aload_n (pc := 772) hC d_law_772 rfl 2 rfl ?_
      refine Z_aload_n (pc := 773) hC d_law_773 rfl 4 rfl ?_
      refine Z_iload (pc := 774) hC d_law_774 0 rfl ?_
      refine Z_iconst (pc := 776) hC d_law_776 ki_1 ?_
      refine Z_iadd (pc := 777) hC d_law_777 ?_
      refine Z_sald (pc := 778) hC hX hbl hbA (hin _ in1) d_law_778 ?_
      refine Z_if_eq (pc := 779) hC 786 d_law_779 rfl (fun _ => ?_) (fun hne => absurd hq0 hne)
      refine Z_iconst (pc := 786) hC d_law_786 ki_0 ?_
      refine Z_aload_n (pc := 787) hC d_law_787 rfl 4 rfl ?_
      refine Z_iload (pc := 788) hC d_law_788 0 rfl ?_
      refine Z_iconst (pc := 790) hC d_law_790 ki_2 ?_
      refine Z_iadd (pc := 791) hC d_law_791 ?_
      refine Z_sald (pc := 792) hC hX hbl hbA (hin _ in2) d_law_792 ?_
      refine Z_if_eq (pc := 793) hC 800 d_law_793 rfl (fun _ => ?_) (fun hne => absurd hq1 hne)
      refine Z_iconst (pc := 800) hC d_law_800 ki_0 ?_
      refine Z_vv0 (S := (wsF C.cI C.cZ a V1 0 shpC ++ [outC cJ o f])) (pc := 801) hC (c_Mo_fold C.l C.D C.cI C.cZ a' hy) sm_0 cls_Mo ml_LinkYardLaw_120 mv_Mo_fold ⟨⟨Nat.le_of_ble_eq_true rfl, Nat.le_of_ble_eq_true rfl⟩, rfl, rfl⟩ ⟨by show _ ≤ 601024; omega, by show _ ≤ 7293034; omega⟩ (Nat.le_of_ble_eq_true rfl) rfl d_law_801 ?_
      refine Z_goto (pc := 804) hC 1341 d_law_804 rfl ?_
      refine Z_subL [0, 1, 2, 3, 4] (L' := lwL i o (a' 0) (a 0) b) rfl ?_
      exact kk V1 M1 a f k n hI rfl (by omega) (by omega)
    · refine Z_iconst (pc := 764) hC d_law_764 ki_1 ?_
      refine Z_goto (pc := 765) hC 769 d_law_765 rfl ?_
      obtain ⟨r, V1, b1, M1, hx, hy, hI, hg⟩ := hst 0 1 rfl rfl
      refine Z_vv (P := wsF C.cI C.cZ a' M 0 shpM) (S := [outC cJ o f]) (pc := 769) hC (c_Ly_fold C.l C.D C.cI C.cZ a hx) sc_0 cls_Ly ml_LinkYardLaw_116 mv_Ly_fold ⟨⟨Nat.le_of_ble_eq_true rfl, Nat.le_of_ble_eq_true rfl⟩, rfl, rfl⟩ ⟨by show _ ≤ 601024; omega, by show _ ≤ 7293034; omega⟩ (Nat.le_of_ble_eq_true rfl) rfl d_law_769 ?_
      refine Z_aload_n (pc := 772) hC d_law_772 rfl 2 rfl ?_
      refine Z_aload_n (pc := 773) hC d_law_773 rfl 4 rfl ?_
      refine Z_iload (pc := 774) hC d_law_774 0 rfl ?_
      refine Z_iconst (pc := 776) hC d_law_776 ki_1 ?_
      refine Z_iadd (pc := 777) hC d_law_777 ?_
      refine Z_sald (pc := 778) hC hX hbl hbA (hin _ in1) d_law_778 ?_
      refine Z_if_eq (pc := 779) hC 786 d_law_779 rfl (fun _ => ?_) (fun hne => absurd hq0 hne)
      refine Z_iconst (pc := 786) hC d_law_786 ki_0 ?_
      refine Z_aload_n (pc := 787) hC d_law_787 rfl 4 rfl ?_
      refine Z_iload (pc := 788) hC d_law_788 0 rfl ?_
      refine Z_iconst (pc := 790) hC d_law_790 ki_2 ?_
      refine Z_iadd (pc := 791) hC d_law_791 ?_
      refine Z_sald (pc := 792) hC hX hbl hbA (hin _ in2) d_law_792 ?_
      refine Z_if_eq (pc := 793) hC 800 d_law_793 rfl (fun he => absurd he hq1) (fun _ => ?_)
      refine Z_iconst (pc := 796) hC d_law_796 ki_1 ?_
      refine Z_goto (pc := 797) hC 801 d_law_797 rfl ?_
      refine Z_vv0 (S := (wsF C.cI C.cZ a V1 0 shpC ++ [outC cJ o f])) (pc := 801) hC (c_Mo_fold C.l C.D C.cI C.cZ a' hy) sm_0 cls_Mo ml_LinkYardLaw_120 mv_Mo_fold ⟨⟨Nat.le_of_ble_eq_true rfl, Nat.le_of_ble_eq_true rfl⟩, rfl, rfl⟩ ⟨by show _ ≤ 601024; omega, by show _ ≤ 7293034; omega⟩ (Nat.le_of_ble_eq_true rfl) rfl d_law_801 ?_
      refine Z_goto (pc := 804) hC 1341 d_law_804 rfl ?_
      refine Z_subL [0, 1, 2, 3, 4] (L' := lwL i o (a' 0) (a 0) b) rfl ?_
      exact kk V1 M1 a f k n hI rfl (by omega) (by omega)
  · refine Z_iconst (pc := 750) hC d_law_750 ki_1 ?_
    refine Z_goto (pc := 751) hC 755 d_law_751 rfl ?_
    refine Z_aload_n (pc := 755) hC d_law_755 rfl 4 rfl ?_
    refine Z_iload (pc := 756) hC d_law_756 0 rfl ?_
    refine Z_iconst (pc := 758) hC d_law_758 ki_2 ?_
    refine Z_iadd (pc := 759) hC d_law_759 ?_
    refine Z_sald (pc := 760) hC hX hbl hbA (hin _ in2) d_law_760 ?_
    refine Z_if_eq (pc := 761) hC 768 d_law_761 rfl (fun hq1 => ?_) (fun hq1 => ?_)
    · refine Z_iconst (pc := 768) hC d_law_768 ki_0 ?_
      obtain ⟨r, V1, b1, M1, hx, hy, hI, hg⟩ := hst 1 0 rfl rfl
      refine Z_vv (P := wsF C.cI C.cZ a' M 0 shpM) (S := [outC cJ o f]) (pc := 769) hC (c_Ly_fold C.l C.D C.cI C.cZ a hx) sc_0 cls_Ly ml_LinkYardLaw_116 mv_Ly_fold ⟨⟨Nat.le_of_ble_eq_true rfl, Nat.le_of_ble_eq_true rfl⟩, rfl, rfl⟩ ⟨by show _ ≤ 601024; omega, by show _ ≤ 7293034; omega⟩ (Nat.le_of_ble_eq_true rfl) rfl d_law_769 ?_
      refine Z_aload_n (pc := 772) hC d_law_772 rfl 2 rfl ?_
      refine Z_aload_n (pc := 773) hC d_law_773 rfl 4 rfl ?_
      refine Z_iload (pc := 774) hC d_law_774 0 rfl ?_
      refine Z_iconst (pc := 776) hC d_law_776 ki_1 ?_
      refine Z_iadd (pc := 777) hC d_law_777 ?_
      refine Z_sald (pc := 778) hC hX hbl hbA (hin _ in1) d_law_778 ?_
      refine Z_if_eq (pc := 779) hC 786 d_law_779 rfl (fun he => absurd he hq0) (fun _ => ?_)
      refine Z_iconst (pc := 782) hC d_law_782 ki_1 ?_
      refine Z_goto (pc := 783) hC 787 d_law_783 rfl ?_
      refine Z_aload_n (pc := 787) hC d_law_787 rfl 4 rfl ?_
      refine Z_iload (pc := 788) hC d_law_788 0 rfl ?_
      refine Z_iconst (pc := 790) hC d_law_790 ki_2 ?_
      refine Z_iadd (pc := 791) hC d_law_791 ?_
      refine Z_sald (pc := 792) hC hX hbl hbA (hin _ in2) d_law_792 ?_
      refine Z_if_eq (pc := 793) hC 800 d_law_793 rfl (fun _ => ?_) (fun hne => absurd hq1 hne)
      refine Z_iconst (pc := 800) hC d_law_800 ki_0 ?_
      refine Z_vv0 (S := (wsF C.cI C.cZ a V1 0 shpC ++ [outC cJ o f])) (pc := 801) hC (c_Mo_fold C.l C.D C.cI C.cZ a' hy) sm_0 cls_Mo ml_LinkYardLaw_120 mv_Mo_fold ⟨⟨Nat.le_of_ble_eq_true rfl, Nat.le_of_ble_eq_true rfl⟩, rfl, rfl⟩ ⟨by show _ ≤ 601024; omega, by show _ ≤ 7293034; omega⟩ (Nat.le_of_ble_eq_true rfl) rfl d_law_801 ?_
      refine Z_goto (pc := 804) hC 1341 d_law_804 rfl ?_
      refine Z_subL [0, 1, 2, 3, 4] (L' := lwL i o (a' 0) (a 0) b) rfl ?_
      exact kk V1 M1 a f k n hI rfl (by omega) (by omega)
    · refine Z_iconst (pc := 764) hC d_law_764 ki_1 ?_
      refine Z_goto (pc := 765) hC 769 d_law_765 rfl ?_
      obtain ⟨r, V1, b1, M1, hx, hy, hI, hg⟩ := hst 1 1 rfl rfl
      refine Z_vv (P := wsF C.cI C.cZ a' M 0 shpM) (S := [outC cJ o f]) (pc := 769) hC (c_Ly_fold C.l C.D C.cI C.cZ a hx) sc_0 cls_Ly ml_LinkYardLaw_116 mv_Ly_fold ⟨⟨Nat.le_of_ble_eq_true rfl, Nat.le_of_ble_eq_true rfl⟩, rfl, rfl⟩ ⟨by show _ ≤ 601024; omega, by show _ ≤ 7293034; omega⟩ (Nat.le_of_ble_eq_true rfl) rfl d_law_769 ?_
      refine Z_aload_n (pc := 772) hC d_law_772 rfl 2 rfl ?_
      refine Z_aload_n (pc := 773) hC d_law_773 rfl 4 rfl ?_
      refine Z_iload (pc := 774) hC d_law_774 0 rfl ?_
      refine Z_iconst (pc := 776) hC d_law_776 ki_1 ?_
      refine Z_iadd (pc := 777) hC d_law_777 ?_
      refine Z_sald (pc := 778) hC hX hbl hbA (hin _ in1) d_law_778 ?_
      refine Z_if_eq (pc := 779) hC 786 d_law_779 rfl (fun he => absurd he hq0) (fun _ => ?_)
      refine Z_iconst (pc := 782) hC d_law_782 ki_1 ?_
      refine Z_goto (pc := 783) hC 787 d_law_783 rfl ?_
      refine Z_aload_n (pc := 787) hC d_law_787 rfl 4 rfl ?_
      refine Z_iload (pc := 788) hC d_law_788 0 rfl ?_
      refine Z_iconst (pc := 790) hC d_law_790 ki_2 ?_
      refine Z_iadd (pc := 791) hC d_law_791 ?_
      refine Z_sald (pc := 792) hC hX hbl hbA (hin _ in2) d_law_792 ?_
      refine Z_if_eq (pc := 793) hC 800 d_law_793 rfl (fun he => absurd he hq1) (fun _ => ?_)
      refine Z_iconst (pc := 796) hC d_law_796 ki_1 ?_
      refine Z_goto (pc := 797) hC 801 d_law_797 rfl ?_
      refine Z_vv0 (S := (wsF C.cI C.cZ a V1 0 shpC ++ [outC cJ o f])) (pc := 801) hC (c_Mo_fold C.l C.D C.cI C.cZ a' hy) sm_0 cls_Mo ml_LinkYardLaw_120 mv_Mo_fold ⟨⟨Nat.le_of_ble_eq_true rfl, Nat.le_of_ble_eq_true rfl⟩, rfl, rfl⟩ ⟨by show _ ≤ 601024; omega, by show _ ≤ 7293034; omega⟩ (Nat.le_of_ble_eq_true rfl) rfl d_law_801 ?_
      refine Z_goto (pc := 804) hC 1341 d_law_804 rfl ?_
      refine Z_subL [0, 1, 2, 3, 4] (L' := lwL i o (a' 0) (a 0) b) rfl ?_
      exact kk V1 M1 a f k n hI rfl (by omega) (by omega)
set_option maxHeartbeats 4000000 in
set_option maxRecDepth 100000 in
theorem lc_clear {C : YC} {cJ : ClassId} {I : Sto → Sto → Prop} {b LL : Nat} {xs : Nat → Int32} {a a' : Nat → Nat} {o k n : Nat} {f : Nat → Int64} {V M : Sto} {i : Int32} (hC : YF C "LinkYardLaw" code 7 room_1) (G : LG C cJ b LL xs) (hin : ∀ d : Int32, (1 ≤ d ∧ d ≤ 5) → vp_in (i + d) LL) (hkn : k + 2 ≤ 601024 ∧ n + 310000 ≤ 7293034) (hst : StF I (f_Ly_clear V) (f_Mo_clear M) V) (kk : LK C cJ I a a' o b i k n V) : Z C 7 k n 807 (lwL i o (a' 0) (a 0) b) [] (wsF C.cI C.cZ a' M 0 shpM ++ (wsF C.cI C.cZ a V 0 shpC ++ [outC cJ o f])) := by
  obtain ⟨hJ, hXT, hNC, hX, hbl, hbA, hN⟩ := G
  refine Z_aload_n (pc := 807) hC d_law_807 rfl 3 rfl ?_
  obtain ⟨r, V1, b1, M1, hx, hy, hI, hg⟩ := hst
  refine Z_vv (P := wsF C.cI C.cZ a' M 0 shpM) (S := [outC cJ o f]) (pc := 808) hC (c_Ly_clear C.l C.D C.cI C.cZ a hx) sc_0 cls_Ly ml_LinkYardLaw_121 mv_Ly_clear ⟨⟨Nat.le_of_ble_eq_true rfl, Nat.le_of_ble_eq_true rfl⟩, rfl, rfl⟩ ⟨by show _ ≤ 601024; omega, by show _ ≤ 7293034; omega⟩ (Nat.le_of_ble_eq_true rfl) rfl d_law_808 ?_
  refine Z_aload_n (pc := 811) hC d_law_811 rfl 2 rfl ?_
  refine Z_vv0 (S := (wsF C.cI C.cZ a V1 0 shpC ++ [outC cJ o f])) (pc := 812) hC (c_Mo_clear C.l C.D C.cI C.cZ a' hy) sm_0 cls_Mo ml_LinkYardLaw_124 mv_Mo_clear ⟨⟨Nat.le_of_ble_eq_true rfl, Nat.le_of_ble_eq_true rfl⟩, rfl, rfl⟩ ⟨by show _ ≤ 601024; omega, by show _ ≤ 7293034; omega⟩ (Nat.le_of_ble_eq_true rfl) rfl d_law_812 ?_
  refine Z_goto (pc := 815) hC 1341 d_law_815 rfl ?_
  refine Z_subL [0, 1, 2, 3, 4] (L' := lwL i o (a' 0) (a 0) b) rfl ?_
  exact kk V1 M1 a f k n hI rfl (by omega) (by omega)
set_option maxHeartbeats 4000000 in
set_option maxRecDepth 100000 in
theorem lc_link {C : YC} {cJ : ClassId} {I : Sto → Sto → Prop} {b LL : Nat} {xs : Nat → Int32} {a a' : Nat → Nat} {o k n : Nat} {f : Nat → Int64} {V M : Sto} {i : Int32} (hC : YF C "LinkYardLaw" code 7 room_1) (G : LG C cJ b LL xs) (hin : ∀ d : Int32, (1 ≤ d ∧ d ≤ 5) → vp_in (i + d) LL) (hkn : k + 2 ≤ 601024 ∧ n + 310000 ≤ 7293034) (hst : StI I cs_Lw_link (f_Ly_link V (xs (i + 1).toNatClampNeg)) (f_Mo_link M (xs (i + 1).toNatClampNeg)) V 0) (kk : LK C cJ I a a' o b i k n V) : Z C 7 k n 818 (lwL i o (a' 0) (a 0) b) [] (wsF C.cI C.cZ a' M 0 shpM ++ (wsF C.cI C.cZ a V 0 shpC ++ [outC cJ o f])) := by
  obtain ⟨hJ, hXT, hNC, hX, hbl, hbA, hN⟩ := G
  refine Z_aload_n (pc := 818) hC d_law_818 rfl 3 rfl ?_
  refine Z_aload_n (pc := 819) hC d_law_819 rfl 4 rfl ?_
  refine Z_iload (pc := 820) hC d_law_820 0 rfl ?_
  refine Z_iconst (pc := 822) hC d_law_822 ki_1 ?_
  refine Z_iadd (pc := 823) hC d_law_823 ?_
  refine Z_sald (pc := 824) hC hX hbl hbA (hin _ in1) d_law_824 ?_
  refine Z_aload_n (pc := 825) hC d_law_825 rfl 1 rfl ?_
  obtain ⟨kc, r, V1, b1, M1, hHO, hy, hth, hrb, hI, hg⟩ := hst
  have hph := phi_le V1
  refine Z_hsX (P := wsF C.cI C.cZ a' M 0 shpM) (pc := 826) hC hJ hXT hNC (h_Lw_link C.l C.D C.cI C.cZ cJ a o f hN hHO) mh_Lw_125 (by decide) ⟨by omega, by omega⟩ (Nat.le_of_ble_eq_true rfl) rfl d_law_826 (fun w k1 n1 hB hk1 hn1 => ?_)
  obtain ⟨a1, f1, ha1, hf1, rfl⟩ := hB
  refine Z_istore (pc := 829) hC (L' := [(5, .int kc), (4, .int i), (3, .ref o), (2, .ref (a' 0)), (1, .ref (a 0)), (0, .ref b)]) d_law_829 (by decide) rfl ?_
  refine Z_aload_n (pc := 831) hC d_law_831 rfl 3 rfl ?_
  refine Z_aload_n (pc := 832) hC d_law_832 rfl 5 rfl ?_
  refine Z_iload (pc := 833) hC d_law_833 1 rfl ?_
  refine Z_iconst (pc := 835) hC d_law_835 ki_1 ?_
  refine Z_iadd (pc := 836) hC d_law_836 ?_
  refine Z_sald (pc := 837) hC hX hbl hbA (hin _ in1) d_law_837 ?_
  refine Z_vi0 (S := (wsF C.cI C.cZ a1 V1 0 shpC ++ [outC cJ o f1])) (pc := 838) hC (c_Mo_link C.l C.D C.cI C.cZ a' hy) sm_0 cls_Mo ml_LinkYardLaw_127 mv_Mo_link ⟨⟨Nat.le_of_ble_eq_true rfl, Nat.le_of_ble_eq_true rfl⟩, rfl, rfl⟩ ⟨by show _ ≤ 601024; omega, by show _ ≤ 7293034; omega⟩ (Nat.le_of_ble_eq_true rfl) rfl d_law_838 ?_
  refine Z_istore (pc := 841) hC (L' := [(6, .int b1), (5, .int kc), (4, .int i), (3, .ref o), (2, .ref (a' 0)), (1, .ref (a 0)), (0, .ref b)]) d_law_841 (by decide) rfl ?_
  refine Z_aload_n (pc := 843) hC d_law_843 rfl 4 rfl ?_
  refine Z_vi0 (S := (wsF C.cI C.cZ a1 V1 0 shpC ++ [outC cJ o f1])) (pc := 844) hC (c_Mo_thrown C.l C.D C.cI C.cZ a' (V := M1) rfl) sm_0 cls_Mo ml_LinkYardLaw_86 mv_Mo_thrown ⟨⟨Nat.le_of_ble_eq_true rfl, Nat.le_of_ble_eq_true rfl⟩, rfl, rfl⟩ ⟨by show _ ≤ 601024; omega, by show _ ≤ 7293034; omega⟩ (Nat.le_of_ble_eq_true rfl) rfl d_law_844 ?_
  refine Z_iload (pc := 847) hC d_law_847 1 rfl ?_
  refine Z_icmp_eq (pc := 849) hC 854 d_law_849 rfl (fun _ => ?_) (fun hne => absurd hth hne)
  refine Z_iload (pc := 854) hC d_law_854 1 rfl ?_
  refine Z_if_ne (pc := 856) hC 871 d_law_856 rfl (fun hne => ?_) (fun hz => ?_)
  · refine Z_goto (pc := 871) hC 1341 d_law_871 rfl ?_
    refine Z_subL [2, 3, 4, 5, 6] (L' := lwL i o (a' 0) (a 0) b) rfl ?_
    exact kk V1 M1 a1 f1 k1 n1 hI ha1 (by omega) (by omega)
  · refine Z_aload_n (pc := 859) hC d_law_859 rfl 3 rfl ?_
    refine Z_iconst (pc := 860) hC d_law_860 ki_0 ?_
    refine Z_lald (pc := 861) hC (X := wsF C.cI C.cZ a' M1 0 shpM ++ wsF C.cI C.cZ a1 V1 0 shpC) hJ d_law_861 ?_
    refine Z_iload (pc := 862) hC d_law_862 0 rfl ?_
    refine Z_i2l (pc := 864) hC d_law_864 ?_
    refine Z_lcmp (pc := 865) hC d_law_865 ?_
    refine Z_if_eq (pc := 866) hC 871 d_law_866 rfl (fun _ => ?_) (fun hne => absurd (lg_eq ((hf1 hz).trans (by rw [hrb hz]))) hne)
    refine Z_goto (pc := 871) hC 1341 d_law_871 rfl ?_
    refine Z_subL [2, 3, 4, 5, 6] (L' := lwL i o (a' 0) (a 0) b) rfl ?_
    exact kk V1 M1 a1 f1 k1 n1 hI ha1 (by omega) (by omega)
set_option maxHeartbeats 4000000 in
set_option maxRecDepth 100000 in
theorem lc_fault {C : YC} {cJ : ClassId} {I : Sto → Sto → Prop} {b LL : Nat} {xs : Nat → Int32} {a a' : Nat → Nat} {o k n : Nat} {f : Nat → Int64} {V M : Sto} {i : Int32} (hC : YF C "LinkYardLaw" code 7 room_1) (G : LG C cJ b LL xs) (hin : ∀ d : Int32, (1 ≤ d ∧ d ≤ 5) → vp_in (i + d) LL) (hkn : k + 2 ≤ 601024 ∧ n + 310000 ≤ 7293034) (hst : StI I cs_Lw_fault (f_Ly_fault V (xs (i + 1).toNatClampNeg)) (f_Mo_fault M (xs (i + 1).toNatClampNeg)) V 0) (kk : LK C cJ I a a' o b i k n V) : Z C 7 k n 874 (lwL i o (a' 0) (a 0) b) [] (wsF C.cI C.cZ a' M 0 shpM ++ (wsF C.cI C.cZ a V 0 shpC ++ [outC cJ o f])) := by
  obtain ⟨hJ, hXT, hNC, hX, hbl, hbA, hN⟩ := G
  refine Z_aload_n (pc := 874) hC d_law_874 rfl 3 rfl ?_
  refine Z_aload_n (pc := 875) hC d_law_875 rfl 4 rfl ?_
  refine Z_iload (pc := 876) hC d_law_876 0 rfl ?_
  refine Z_iconst (pc := 878) hC d_law_878 ki_1 ?_
  refine Z_iadd (pc := 879) hC d_law_879 ?_
  refine Z_sald (pc := 880) hC hX hbl hbA (hin _ in1) d_law_880 ?_
  refine Z_aload_n (pc := 881) hC d_law_881 rfl 1 rfl ?_
  obtain ⟨kc, r, V1, b1, M1, hHO, hy, hth, hrb, hI, hg⟩ := hst
  have hph := phi_le V1
  refine Z_hsX (P := wsF C.cI C.cZ a' M 0 shpM) (pc := 882) hC hJ hXT hNC (h_Lw_fault C.l C.D C.cI C.cZ cJ a o f hN hHO) mh_Lw_128 (by decide) ⟨by omega, by omega⟩ (Nat.le_of_ble_eq_true rfl) rfl d_law_882 (fun w k1 n1 hB hk1 hn1 => ?_)
  obtain ⟨a1, f1, ha1, hf1, rfl⟩ := hB
  refine Z_istore (pc := 885) hC (L' := [(5, .int kc), (4, .int i), (3, .ref o), (2, .ref (a' 0)), (1, .ref (a 0)), (0, .ref b)]) d_law_885 (by decide) rfl ?_
  refine Z_aload_n (pc := 887) hC d_law_887 rfl 3 rfl ?_
  refine Z_aload_n (pc := 888) hC d_law_888 rfl 5 rfl ?_
  refine Z_iload (pc := 889) hC d_law_889 1 rfl ?_
  refine Z_iconst (pc := 891) hC d_law_891 ki_1 ?_
  refine Z_iadd (pc := 892) hC d_law_892 ?_
  refine Z_sald (pc := 893) hC hX hbl hbA (hin _ in1) d_law_893 ?_
  refine Z_vi0 (S := (wsF C.cI C.cZ a1 V1 0 shpC ++ [outC cJ o f1])) (pc := 894) hC (c_Mo_fault C.l C.D C.cI C.cZ a' hy) sm_0 cls_Mo ml_LinkYardLaw_130 mv_Mo_fault ⟨⟨Nat.le_of_ble_eq_true rfl, Nat.le_of_ble_eq_true rfl⟩, rfl, rfl⟩ ⟨by show _ ≤ 601024; omega, by show _ ≤ 7293034; omega⟩ (Nat.le_of_ble_eq_true rfl) rfl d_law_894 ?_
  refine Z_istore (pc := 897) hC (L' := [(6, .int b1), (5, .int kc), (4, .int i), (3, .ref o), (2, .ref (a' 0)), (1, .ref (a 0)), (0, .ref b)]) d_law_897 (by decide) rfl ?_
  refine Z_aload_n (pc := 899) hC d_law_899 rfl 4 rfl ?_
  refine Z_vi0 (S := (wsF C.cI C.cZ a1 V1 0 shpC ++ [outC cJ o f1])) (pc := 900) hC (c_Mo_thrown C.l C.D C.cI C.cZ a' (V := M1) rfl) sm_0 cls_Mo ml_LinkYardLaw_86 mv_Mo_thrown ⟨⟨Nat.le_of_ble_eq_true rfl, Nat.le_of_ble_eq_true rfl⟩, rfl, rfl⟩ ⟨by show _ ≤ 601024; omega, by show _ ≤ 7293034; omega⟩ (Nat.le_of_ble_eq_true rfl) rfl d_law_900 ?_
  refine Z_iload (pc := 903) hC d_law_903 1 rfl ?_
  refine Z_icmp_eq (pc := 905) hC 910 d_law_905 rfl (fun _ => ?_) (fun hne => absurd hth hne)
  refine Z_iload (pc := 910) hC d_law_910 1 rfl ?_
  refine Z_if_ne (pc := 912) hC 927 d_law_912 rfl (fun hne => ?_) (fun hz => ?_)
  · refine Z_goto (pc := 927) hC 1341 d_law_927 rfl ?_
    refine Z_subL [2, 3, 4, 5, 6] (L' := lwL i o (a' 0) (a 0) b) rfl ?_
    exact kk V1 M1 a1 f1 k1 n1 hI ha1 (by omega) (by omega)
  · refine Z_aload_n (pc := 915) hC d_law_915 rfl 3 rfl ?_
    refine Z_iconst (pc := 916) hC d_law_916 ki_0 ?_
    refine Z_lald (pc := 917) hC (X := wsF C.cI C.cZ a' M1 0 shpM ++ wsF C.cI C.cZ a1 V1 0 shpC) hJ d_law_917 ?_
    refine Z_iload (pc := 918) hC d_law_918 0 rfl ?_
    refine Z_i2l (pc := 920) hC d_law_920 ?_
    refine Z_lcmp (pc := 921) hC d_law_921 ?_
    refine Z_if_eq (pc := 922) hC 927 d_law_922 rfl (fun _ => ?_) (fun hne => absurd (lg_eq ((hf1 hz).trans (by rw [hrb hz]))) hne)
    refine Z_goto (pc := 927) hC 1341 d_law_927 rfl ?_
    refine Z_subL [2, 3, 4, 5, 6] (L' := lwL i o (a' 0) (a 0) b) rfl ?_
    exact kk V1 M1 a1 f1 k1 n1 hI ha1 (by omega) (by omega)
set_option maxHeartbeats 4000000 in
set_option maxRecDepth 100000 in
theorem lc_isIn {C : YC} {cJ : ClassId} {I : Sto → Sto → Prop} {b LL : Nat} {xs : Nat → Int32} {a a' : Nat → Nat} {o k n : Nat} {f : Nat → Int64} {V M : Sto} {i : Int32} (hC : YF C "LinkYardLaw" code 7 room_1) (G : LG C cJ b LL xs) (hin : ∀ d : Int32, (1 ≤ d ∧ d ≤ 5) → vp_in (i + d) LL) (hkn : k + 2 ≤ 601024 ∧ n + 310000 ≤ 7293034) (hst : StI I cs_Lw_isIn (f_Ly_isIn V (xs (i + 1).toNatClampNeg)) (f_Mo_isIn M (xs (i + 1).toNatClampNeg)) V 0) (kk : LK C cJ I a a' o b i k n V) : Z C 7 k n 930 (lwL i o (a' 0) (a 0) b) [] (wsF C.cI C.cZ a' M 0 shpM ++ (wsF C.cI C.cZ a V 0 shpC ++ [outC cJ o f])) := by
  obtain ⟨hJ, hXT, hNC, hX, hbl, hbA, hN⟩ := G
  refine Z_aload_n (pc := 930) hC d_law_930 rfl 3 rfl ?_
  refine Z_aload_n (pc := 931) hC d_law_931 rfl 4 rfl ?_
  refine Z_iload (pc := 932) hC d_law_932 0 rfl ?_
  refine Z_iconst (pc := 934) hC d_law_934 ki_1 ?_
  refine Z_iadd (pc := 935) hC d_law_935 ?_
  refine Z_sald (pc := 936) hC hX hbl hbA (hin _ in1) d_law_936 ?_
  refine Z_aload_n (pc := 937) hC d_law_937 rfl 1 rfl ?_
  obtain ⟨kc, r, V1, b1, M1, hHO, hy, hth, hrb, hI, hg⟩ := hst
  have hph := phi_le V1
  refine Z_hsX (P := wsF C.cI C.cZ a' M 0 shpM) (pc := 938) hC hJ hXT hNC (h_Lw_isIn C.l C.D C.cI C.cZ cJ a o f hN hHO) mh_Lw_131 (by decide) ⟨by omega, by omega⟩ (Nat.le_of_ble_eq_true rfl) rfl d_law_938 (fun w k1 n1 hB hk1 hn1 => ?_)
  obtain ⟨a1, f1, ha1, hf1, rfl⟩ := hB
  refine Z_istore (pc := 941) hC (L' := [(5, .int kc), (4, .int i), (3, .ref o), (2, .ref (a' 0)), (1, .ref (a 0)), (0, .ref b)]) d_law_941 (by decide) rfl ?_
  refine Z_aload_n (pc := 943) hC d_law_943 rfl 3 rfl ?_
  refine Z_aload_n (pc := 944) hC d_law_944 rfl 5 rfl ?_
  refine Z_iload (pc := 945) hC d_law_945 1 rfl ?_
  refine Z_iconst (pc := 947) hC d_law_947 ki_1 ?_
  refine Z_iadd (pc := 948) hC d_law_948 ?_
  refine Z_sald (pc := 949) hC hX hbl hbA (hin _ in1) d_law_949 ?_
  refine Z_vi0 (S := (wsF C.cI C.cZ a1 V1 0 shpC ++ [outC cJ o f1])) (pc := 950) hC (c_Mo_isIn C.l C.D C.cI C.cZ a' hy) sm_0 cls_Mo ml_LinkYardLaw_133 mv_Mo_isIn ⟨⟨Nat.le_of_ble_eq_true rfl, Nat.le_of_ble_eq_true rfl⟩, rfl, rfl⟩ ⟨by show _ ≤ 601024; omega, by show _ ≤ 7293034; omega⟩ (Nat.le_of_ble_eq_true rfl) rfl d_law_950 ?_
  refine Z_istore (pc := 953) hC (L' := [(6, .int b1), (5, .int kc), (4, .int i), (3, .ref o), (2, .ref (a' 0)), (1, .ref (a 0)), (0, .ref b)]) d_law_953 (by decide) rfl ?_
  refine Z_aload_n (pc := 955) hC d_law_955 rfl 4 rfl ?_
  refine Z_vi0 (S := (wsF C.cI C.cZ a1 V1 0 shpC ++ [outC cJ o f1])) (pc := 956) hC (c_Mo_thrown C.l C.D C.cI C.cZ a' (V := M1) rfl) sm_0 cls_Mo ml_LinkYardLaw_86 mv_Mo_thrown ⟨⟨Nat.le_of_ble_eq_true rfl, Nat.le_of_ble_eq_true rfl⟩, rfl, rfl⟩ ⟨by show _ ≤ 601024; omega, by show _ ≤ 7293034; omega⟩ (Nat.le_of_ble_eq_true rfl) rfl d_law_956 ?_
  refine Z_iload (pc := 959) hC d_law_959 1 rfl ?_
  refine Z_icmp_eq (pc := 961) hC 966 d_law_961 rfl (fun _ => ?_) (fun hne => absurd hth hne)
  refine Z_iload (pc := 966) hC d_law_966 1 rfl ?_
  refine Z_if_ne (pc := 968) hC 990 d_law_968 rfl (fun hne => ?_) (fun hz => ?_)
  · refine Z_goto (pc := 990) hC 1341 d_law_990 rfl ?_
    refine Z_subL [2, 3, 4, 5, 6] (L' := lwL i o (a' 0) (a 0) b) rfl ?_
    exact kk V1 M1 a1 f1 k1 n1 hI ha1 (by omega) (by omega)
  · refine Z_aload_n (pc := 971) hC d_law_971 rfl 3 rfl ?_
    refine Z_iconst (pc := 972) hC d_law_972 ki_0 ?_
    refine Z_lald (pc := 973) hC (X := wsF C.cI C.cZ a' M1 0 shpM ++ wsF C.cI C.cZ a1 V1 0 shpC) hJ d_law_973 ?_
    refine Z_iload (pc := 974) hC d_law_974 0 rfl ?_
    refine Z_if_eq (pc := 976) hC 983 d_law_976 rfl (fun hq0 => ?_) (fun hq0 => ?_)
    · refine Z_lconst (pc := 983) hC d_law_983 (v := 0) rfl ?_
      refine Z_lcmp (pc := 984) hC d_law_984 ?_
      refine Z_if_eq (pc := 985) hC 990 d_law_985 rfl (fun _ => ?_) (fun hne => absurd (lg_eq ((hf1 hz).trans (by rw [hrb hz, if_pos hq0]))) hne)
      refine Z_goto (pc := 990) hC 1341 d_law_990 rfl ?_
      refine Z_subL [2, 3, 4, 5, 6] (L' := lwL i o (a' 0) (a 0) b) rfl ?_
      exact kk V1 M1 a1 f1 k1 n1 hI ha1 (by omega) (by omega)
    · refine Z_lconst (pc := 979) hC d_law_979 (v := 1) rfl ?_
      refine Z_goto (pc := 980) hC 984 d_law_980 rfl ?_
      refine Z_lcmp (pc := 984) hC d_law_984 ?_
      refine Z_if_eq (pc := 985) hC 990 d_law_985 rfl (fun _ => ?_) (fun hne => absurd (lg_eq ((hf1 hz).trans (by rw [hrb hz, if_neg hq0]))) hne)
      refine Z_goto (pc := 990) hC 1341 d_law_990 rfl ?_
      refine Z_subL [2, 3, 4, 5, 6] (L' := lwL i o (a' 0) (a 0) b) rfl ?_
      exact kk V1 M1 a1 f1 k1 n1 hI ha1 (by omega) (by omega)
set_option maxHeartbeats 4000000 in
set_option maxRecDepth 100000 in
theorem lc_address {C : YC} {cJ : ClassId} {I : Sto → Sto → Prop} {b LL : Nat} {xs : Nat → Int32} {a a' : Nat → Nat} {o k n : Nat} {f : Nat → Int64} {V M : Sto} {i : Int32} (hC : YF C "LinkYardLaw" code 7 room_1) (G : LG C cJ b LL xs) (hin : ∀ d : Int32, (1 ≤ d ∧ d ≤ 5) → vp_in (i + d) LL) (hkn : k + 2 ≤ 601024 ∧ n + 310000 ≤ 7293034) (hst : StI I cs_Lw_address (f_Ly_address V (xs (i + 1).toNatClampNeg)) (f_Mo_address M (xs (i + 1).toNatClampNeg)) V 0) (kk : LK C cJ I a a' o b i k n V) : Z C 7 k n 993 (lwL i o (a' 0) (a 0) b) [] (wsF C.cI C.cZ a' M 0 shpM ++ (wsF C.cI C.cZ a V 0 shpC ++ [outC cJ o f])) := by
  obtain ⟨hJ, hXT, hNC, hX, hbl, hbA, hN⟩ := G
  refine Z_aload_n (pc := 993) hC d_law_993 rfl 3 rfl ?_
  refine Z_aload_n (pc := 994) hC d_law_994 rfl 4 rfl ?_
  refine Z_iload (pc := 995) hC d_law_995 0 rfl ?_
  refine Z_iconst (pc := 997) hC d_law_997 ki_1 ?_
  refine Z_iadd (pc := 998) hC d_law_998 ?_
  refine Z_sald (pc := 999) hC hX hbl hbA (hin _ in1) d_law_999 ?_
  refine Z_aload_n (pc := 1000) hC d_law_1000 rfl 1 rfl ?_
  obtain ⟨kc, r, V1, b1, M1, hHO, hy, hth, hrb, hI, hg⟩ := hst
  have hph := phi_le V1
  refine Z_hsX (P := wsF C.cI C.cZ a' M 0 shpM) (pc := 1001) hC hJ hXT hNC (h_Lw_address C.l C.D C.cI C.cZ cJ a o f hN hHO) mh_Lw_134 (by decide) ⟨by omega, by omega⟩ (Nat.le_of_ble_eq_true rfl) rfl d_law_1001 (fun w k1 n1 hB hk1 hn1 => ?_)
  obtain ⟨a1, f1, ha1, hf1, rfl⟩ := hB
  refine Z_istore (pc := 1004) hC (L' := [(5, .int kc), (4, .int i), (3, .ref o), (2, .ref (a' 0)), (1, .ref (a 0)), (0, .ref b)]) d_law_1004 (by decide) rfl ?_
  refine Z_aload_n (pc := 1006) hC d_law_1006 rfl 3 rfl ?_
  refine Z_aload_n (pc := 1007) hC d_law_1007 rfl 5 rfl ?_
  refine Z_iload (pc := 1008) hC d_law_1008 1 rfl ?_
  refine Z_iconst (pc := 1010) hC d_law_1010 ki_1 ?_
  refine Z_iadd (pc := 1011) hC d_law_1011 ?_
  refine Z_sald (pc := 1012) hC hX hbl hbA (hin _ in1) d_law_1012 ?_
  refine Z_vi0 (S := (wsF C.cI C.cZ a1 V1 0 shpC ++ [outC cJ o f1])) (pc := 1013) hC (c_Mo_address C.l C.D C.cI C.cZ a' hy) sm_0 cls_Mo ml_LinkYardLaw_136 mv_Mo_address ⟨⟨Nat.le_of_ble_eq_true rfl, Nat.le_of_ble_eq_true rfl⟩, rfl, rfl⟩ ⟨by show _ ≤ 601024; omega, by show _ ≤ 7293034; omega⟩ (Nat.le_of_ble_eq_true rfl) rfl d_law_1013 ?_
  refine Z_istore (pc := 1016) hC (L' := [(6, .int b1), (5, .int kc), (4, .int i), (3, .ref o), (2, .ref (a' 0)), (1, .ref (a 0)), (0, .ref b)]) d_law_1016 (by decide) rfl ?_
  refine Z_aload_n (pc := 1018) hC d_law_1018 rfl 4 rfl ?_
  refine Z_vi0 (S := (wsF C.cI C.cZ a1 V1 0 shpC ++ [outC cJ o f1])) (pc := 1019) hC (c_Mo_thrown C.l C.D C.cI C.cZ a' (V := M1) rfl) sm_0 cls_Mo ml_LinkYardLaw_86 mv_Mo_thrown ⟨⟨Nat.le_of_ble_eq_true rfl, Nat.le_of_ble_eq_true rfl⟩, rfl, rfl⟩ ⟨by show _ ≤ 601024; omega, by show _ ≤ 7293034; omega⟩ (Nat.le_of_ble_eq_true rfl) rfl d_law_1019 ?_
  refine Z_iload (pc := 1022) hC d_law_1022 1 rfl ?_
  refine Z_icmp_eq (pc := 1024) hC 1029 d_law_1024 rfl (fun _ => ?_) (fun hne => absurd hth hne)
  refine Z_iload (pc := 1029) hC d_law_1029 1 rfl ?_
  refine Z_if_ne (pc := 1031) hC 1046 d_law_1031 rfl (fun hne => ?_) (fun hz => ?_)
  · refine Z_goto (pc := 1046) hC 1341 d_law_1046 rfl ?_
    refine Z_subL [2, 3, 4, 5, 6] (L' := lwL i o (a' 0) (a 0) b) rfl ?_
    exact kk V1 M1 a1 f1 k1 n1 hI ha1 (by omega) (by omega)
  · refine Z_aload_n (pc := 1034) hC d_law_1034 rfl 3 rfl ?_
    refine Z_iconst (pc := 1035) hC d_law_1035 ki_0 ?_
    refine Z_lald (pc := 1036) hC (X := wsF C.cI C.cZ a' M1 0 shpM ++ wsF C.cI C.cZ a1 V1 0 shpC) hJ d_law_1036 ?_
    refine Z_iload (pc := 1037) hC d_law_1037 0 rfl ?_
    refine Z_i2l (pc := 1039) hC d_law_1039 ?_
    refine Z_lcmp (pc := 1040) hC d_law_1040 ?_
    refine Z_if_eq (pc := 1041) hC 1046 d_law_1041 rfl (fun _ => ?_) (fun hne => absurd (lg_eq ((hf1 hz).trans (by rw [hrb hz]))) hne)
    refine Z_goto (pc := 1046) hC 1341 d_law_1046 rfl ?_
    refine Z_subL [2, 3, 4, 5, 6] (L' := lwL i o (a' 0) (a 0) b) rfl ?_
    exact kk V1 M1 a1 f1 k1 n1 hI ha1 (by omega) (by omega)
set_option maxHeartbeats 4000000 in
set_option maxRecDepth 100000 in
theorem lc_like {C : YC} {cJ : ClassId} {I : Sto → Sto → Prop} {b LL : Nat} {xs : Nat → Int32} {a a' : Nat → Nat} {o k n : Nat} {f : Nat → Int64} {V M : Sto} {i : Int32} (hC : YF C "LinkYardLaw" code 7 room_1) (G : LG C cJ b LL xs) (hin : ∀ d : Int32, (1 ≤ d ∧ d ≤ 5) → vp_in (i + d) LL) (hkn : k + 2 ≤ 601024 ∧ n + 310000 ≤ 7293034) (hst : StI I cs_Lw_like (f_Ly_like V (xs (i + 1).toNatClampNeg)) (f_Mo_like M (xs (i + 1).toNatClampNeg)) V 0) (kk : LK C cJ I a a' o b i k n V) : Z C 7 k n 1049 (lwL i o (a' 0) (a 0) b) [] (wsF C.cI C.cZ a' M 0 shpM ++ (wsF C.cI C.cZ a V 0 shpC ++ [outC cJ o f])) := by
  obtain ⟨hJ, hXT, hNC, hX, hbl, hbA, hN⟩ := G
  refine Z_aload_n (pc := 1049) hC d_law_1049 rfl 3 rfl ?_
  refine Z_aload_n (pc := 1050) hC d_law_1050 rfl 4 rfl ?_
  refine Z_iload (pc := 1051) hC d_law_1051 0 rfl ?_
  refine Z_iconst (pc := 1053) hC d_law_1053 ki_1 ?_
  refine Z_iadd (pc := 1054) hC d_law_1054 ?_
  refine Z_sald (pc := 1055) hC hX hbl hbA (hin _ in1) d_law_1055 ?_
  refine Z_aload_n (pc := 1056) hC d_law_1056 rfl 1 rfl ?_
  obtain ⟨kc, r, V1, b1, M1, hHO, hy, hth, hrb, hI, hg⟩ := hst
  have hph := phi_le V1
  refine Z_hsX (P := wsF C.cI C.cZ a' M 0 shpM) (pc := 1057) hC hJ hXT hNC (h_Lw_like C.l C.D C.cI C.cZ cJ a o f hN hHO) mh_Lw_137 (by decide) ⟨by omega, by omega⟩ (Nat.le_of_ble_eq_true rfl) rfl d_law_1057 (fun w k1 n1 hB hk1 hn1 => ?_)
  obtain ⟨a1, f1, ha1, hf1, rfl⟩ := hB
  refine Z_istore (pc := 1060) hC (L' := [(5, .int kc), (4, .int i), (3, .ref o), (2, .ref (a' 0)), (1, .ref (a 0)), (0, .ref b)]) d_law_1060 (by decide) rfl ?_
  refine Z_aload_n (pc := 1062) hC d_law_1062 rfl 3 rfl ?_
  refine Z_aload_n (pc := 1063) hC d_law_1063 rfl 5 rfl ?_
  refine Z_iload (pc := 1064) hC d_law_1064 1 rfl ?_
  refine Z_iconst (pc := 1066) hC d_law_1066 ki_1 ?_
  refine Z_iadd (pc := 1067) hC d_law_1067 ?_
  refine Z_sald (pc := 1068) hC hX hbl hbA (hin _ in1) d_law_1068 ?_
  refine Z_vi0 (S := (wsF C.cI C.cZ a1 V1 0 shpC ++ [outC cJ o f1])) (pc := 1069) hC (c_Mo_like C.l C.D C.cI C.cZ a' hy) sm_0 cls_Mo ml_LinkYardLaw_139 mv_Mo_like ⟨⟨Nat.le_of_ble_eq_true rfl, Nat.le_of_ble_eq_true rfl⟩, rfl, rfl⟩ ⟨by show _ ≤ 601024; omega, by show _ ≤ 7293034; omega⟩ (Nat.le_of_ble_eq_true rfl) rfl d_law_1069 ?_
  refine Z_istore (pc := 1072) hC (L' := [(6, .int b1), (5, .int kc), (4, .int i), (3, .ref o), (2, .ref (a' 0)), (1, .ref (a 0)), (0, .ref b)]) d_law_1072 (by decide) rfl ?_
  refine Z_aload_n (pc := 1074) hC d_law_1074 rfl 4 rfl ?_
  refine Z_vi0 (S := (wsF C.cI C.cZ a1 V1 0 shpC ++ [outC cJ o f1])) (pc := 1075) hC (c_Mo_thrown C.l C.D C.cI C.cZ a' (V := M1) rfl) sm_0 cls_Mo ml_LinkYardLaw_86 mv_Mo_thrown ⟨⟨Nat.le_of_ble_eq_true rfl, Nat.le_of_ble_eq_true rfl⟩, rfl, rfl⟩ ⟨by show _ ≤ 601024; omega, by show _ ≤ 7293034; omega⟩ (Nat.le_of_ble_eq_true rfl) rfl d_law_1075 ?_
  refine Z_iload (pc := 1078) hC d_law_1078 1 rfl ?_
  refine Z_icmp_eq (pc := 1080) hC 1085 d_law_1080 rfl (fun _ => ?_) (fun hne => absurd hth hne)
  refine Z_iload (pc := 1085) hC d_law_1085 1 rfl ?_
  refine Z_if_ne (pc := 1087) hC 1102 d_law_1087 rfl (fun hne => ?_) (fun hz => ?_)
  · refine Z_goto (pc := 1102) hC 1341 d_law_1102 rfl ?_
    refine Z_subL [2, 3, 4, 5, 6] (L' := lwL i o (a' 0) (a 0) b) rfl ?_
    exact kk V1 M1 a1 f1 k1 n1 hI ha1 (by omega) (by omega)
  · refine Z_aload_n (pc := 1090) hC d_law_1090 rfl 3 rfl ?_
    refine Z_iconst (pc := 1091) hC d_law_1091 ki_0 ?_
    refine Z_lald (pc := 1092) hC (X := wsF C.cI C.cZ a' M1 0 shpM ++ wsF C.cI C.cZ a1 V1 0 shpC) hJ d_law_1092 ?_
    refine Z_iload (pc := 1093) hC d_law_1093 0 rfl ?_
    refine Z_i2l (pc := 1095) hC d_law_1095 ?_
    refine Z_lcmp (pc := 1096) hC d_law_1096 ?_
    refine Z_if_eq (pc := 1097) hC 1102 d_law_1097 rfl (fun _ => ?_) (fun hne => absurd (lg_eq ((hf1 hz).trans (by rw [hrb hz]))) hne)
    refine Z_goto (pc := 1102) hC 1341 d_law_1102 rfl ?_
    refine Z_subL [2, 3, 4, 5, 6] (L' := lwL i o (a' 0) (a 0) b) rfl ?_
    exact kk V1 M1 a1 f1 k1 n1 hI ha1 (by omega) (by omega)
set_option maxHeartbeats 4000000 in
set_option maxRecDepth 100000 in
theorem lc_means {C : YC} {cJ : ClassId} {I : Sto → Sto → Prop} {b LL : Nat} {xs : Nat → Int32} {a a' : Nat → Nat} {o k n : Nat} {f : Nat → Int64} {V M : Sto} {i : Int32} (hC : YF C "LinkYardLaw" code 7 room_1) (G : LG C cJ b LL xs) (hin : ∀ d : Int32, (1 ≤ d ∧ d ≤ 5) → vp_in (i + d) LL) (hkn : k + 2 ≤ 601024 ∧ n + 310000 ≤ 7293034) (hst : StI I cs_Lw_means (f_Ly_means V (xs (i + 1).toNatClampNeg) (xs (i + 2).toNatClampNeg)) (f_Mo_means M (xs (i + 1).toNatClampNeg) (xs (i + 2).toNatClampNeg)) V 0) (kk : LK C cJ I a a' o b i k n V) : Z C 7 k n 1105 (lwL i o (a' 0) (a 0) b) [] (wsF C.cI C.cZ a' M 0 shpM ++ (wsF C.cI C.cZ a V 0 shpC ++ [outC cJ o f])) := by
  obtain ⟨hJ, hXT, hNC, hX, hbl, hbA, hN⟩ := G
  refine Z_aload_n (pc := 1105) hC d_law_1105 rfl 3 rfl ?_
  refine Z_aload_n (pc := 1106) hC d_law_1106 rfl 4 rfl ?_
  refine Z_iload (pc := 1107) hC d_law_1107 0 rfl ?_
  refine Z_iconst (pc := 1109) hC d_law_1109 ki_1 ?_
  refine Z_iadd (pc := 1110) hC d_law_1110 ?_
  refine Z_sald (pc := 1111) hC hX hbl hbA (hin _ in1) d_law_1111 ?_
  refine Z_aload_n (pc := 1112) hC d_law_1112 rfl 4 rfl ?_
  refine Z_iload (pc := 1113) hC d_law_1113 0 rfl ?_
  refine Z_iconst (pc := 1115) hC d_law_1115 ki_2 ?_
  refine Z_iadd (pc := 1116) hC d_law_1116 ?_
  refine Z_sald (pc := 1117) hC hX hbl hbA (hin _ in2) d_law_1117 ?_
  refine Z_aload_n (pc := 1118) hC d_law_1118 rfl 1 rfl ?_
  obtain ⟨kc, r, V1, b1, M1, hHO, hy, hth, hrb, hI, hg⟩ := hst
  have hph := phi_le V1
  refine Z_hsX (P := wsF C.cI C.cZ a' M 0 shpM) (pc := 1119) hC hJ hXT hNC (h_Lw_means C.l C.D C.cI C.cZ cJ a o f hN hHO) mh_Lw_140 (by decide) ⟨by omega, by omega⟩ (Nat.le_of_ble_eq_true rfl) rfl d_law_1119 (fun w k1 n1 hB hk1 hn1 => ?_)
  obtain ⟨a1, f1, ha1, hf1, rfl⟩ := hB
  refine Z_istore (pc := 1122) hC (L' := [(5, .int kc), (4, .int i), (3, .ref o), (2, .ref (a' 0)), (1, .ref (a 0)), (0, .ref b)]) d_law_1122 (by decide) rfl ?_
  refine Z_aload_n (pc := 1124) hC d_law_1124 rfl 3 rfl ?_
  refine Z_aload_n (pc := 1125) hC d_law_1125 rfl 5 rfl ?_
  refine Z_iload (pc := 1126) hC d_law_1126 1 rfl ?_
  refine Z_iconst (pc := 1128) hC d_law_1128 ki_1 ?_
  refine Z_iadd (pc := 1129) hC d_law_1129 ?_
  refine Z_sald (pc := 1130) hC hX hbl hbA (hin _ in1) d_law_1130 ?_
  refine Z_aload_n (pc := 1131) hC d_law_1131 rfl 5 rfl ?_
  refine Z_iload (pc := 1132) hC d_law_1132 1 rfl ?_
  refine Z_iconst (pc := 1134) hC d_law_1134 ki_2 ?_
  refine Z_iadd (pc := 1135) hC d_law_1135 ?_
  refine Z_sald (pc := 1136) hC hX hbl hbA (hin _ in2) d_law_1136 ?_
  refine Z_vi0 (S := (wsF C.cI C.cZ a1 V1 0 shpC ++ [outC cJ o f1])) (pc := 1137) hC (c_Mo_means C.l C.D C.cI C.cZ a' hy) sm_0 cls_Mo ml_LinkYardLaw_143 mv_Mo_means ⟨⟨Nat.le_of_ble_eq_true rfl, Nat.le_of_ble_eq_true rfl⟩, rfl, rfl⟩ ⟨by show _ ≤ 601024; omega, by show _ ≤ 7293034; omega⟩ (Nat.le_of_ble_eq_true rfl) rfl d_law_1137 ?_
  refine Z_istore (pc := 1140) hC (L' := [(6, .int b1), (5, .int kc), (4, .int i), (3, .ref o), (2, .ref (a' 0)), (1, .ref (a 0)), (0, .ref b)]) d_law_1140 (by decide) rfl ?_
  refine Z_aload_n (pc := 1142) hC d_law_1142 rfl 4 rfl ?_
  refine Z_vi0 (S := (wsF C.cI C.cZ a1 V1 0 shpC ++ [outC cJ o f1])) (pc := 1143) hC (c_Mo_thrown C.l C.D C.cI C.cZ a' (V := M1) rfl) sm_0 cls_Mo ml_LinkYardLaw_86 mv_Mo_thrown ⟨⟨Nat.le_of_ble_eq_true rfl, Nat.le_of_ble_eq_true rfl⟩, rfl, rfl⟩ ⟨by show _ ≤ 601024; omega, by show _ ≤ 7293034; omega⟩ (Nat.le_of_ble_eq_true rfl) rfl d_law_1143 ?_
  refine Z_iload (pc := 1146) hC d_law_1146 1 rfl ?_
  refine Z_icmp_eq (pc := 1148) hC 1153 d_law_1148 rfl (fun _ => ?_) (fun hne => absurd hth hne)
  refine Z_iload (pc := 1153) hC d_law_1153 1 rfl ?_
  refine Z_if_ne (pc := 1155) hC 1170 d_law_1155 rfl (fun hne => ?_) (fun hz => ?_)
  · refine Z_goto (pc := 1170) hC 1341 d_law_1170 rfl ?_
    refine Z_subL [2, 3, 4, 5, 6] (L' := lwL i o (a' 0) (a 0) b) rfl ?_
    exact kk V1 M1 a1 f1 k1 n1 hI ha1 (by omega) (by omega)
  · refine Z_aload_n (pc := 1158) hC d_law_1158 rfl 3 rfl ?_
    refine Z_iconst (pc := 1159) hC d_law_1159 ki_0 ?_
    refine Z_lald (pc := 1160) hC (X := wsF C.cI C.cZ a' M1 0 shpM ++ wsF C.cI C.cZ a1 V1 0 shpC) hJ d_law_1160 ?_
    refine Z_iload (pc := 1161) hC d_law_1161 0 rfl ?_
    refine Z_i2l (pc := 1163) hC d_law_1163 ?_
    refine Z_lcmp (pc := 1164) hC d_law_1164 ?_
    refine Z_if_eq (pc := 1165) hC 1170 d_law_1165 rfl (fun _ => ?_) (fun hne => absurd (lg_eq ((hf1 hz).trans (by rw [hrb hz]))) hne)
    refine Z_goto (pc := 1170) hC 1341 d_law_1170 rfl ?_
    refine Z_subL [2, 3, 4, 5, 6] (L' := lwL i o (a' 0) (a 0) b) rfl ?_
    exact kk V1 M1 a1 f1 k1 n1 hI ha1 (by omega) (by omega)
set_option maxHeartbeats 4000000 in
set_option maxRecDepth 100000 in
theorem lc_common {C : YC} {cJ : ClassId} {I : Sto → Sto → Prop} {b LL : Nat} {xs : Nat → Int32} {a a' : Nat → Nat} {o k n : Nat} {f : Nat → Int64} {V M : Sto} {i : Int32} (hC : YF C "LinkYardLaw" code 7 room_1) (G : LG C cJ b LL xs) (hin : ∀ d : Int32, (1 ≤ d ∧ d ≤ 5) → vp_in (i + d) LL) (hkn : k + 2 ≤ 601024 ∧ n + 310000 ≤ 7293034) (hst : StI I cs_Lw_common (f_Ly_common V (xs (i + 1).toNatClampNeg)) (f_Mo_common M (xs (i + 1).toNatClampNeg)) V 0) (kk : LK C cJ I a a' o b i k n V) : Z C 7 k n 1173 (lwL i o (a' 0) (a 0) b) [] (wsF C.cI C.cZ a' M 0 shpM ++ (wsF C.cI C.cZ a V 0 shpC ++ [outC cJ o f])) := by
  obtain ⟨hJ, hXT, hNC, hX, hbl, hbA, hN⟩ := G
  refine Z_aload_n (pc := 1173) hC d_law_1173 rfl 3 rfl ?_
  refine Z_aload_n (pc := 1174) hC d_law_1174 rfl 4 rfl ?_
  refine Z_iload (pc := 1175) hC d_law_1175 0 rfl ?_
  refine Z_iconst (pc := 1177) hC d_law_1177 ki_1 ?_
  refine Z_iadd (pc := 1178) hC d_law_1178 ?_
  refine Z_sald (pc := 1179) hC hX hbl hbA (hin _ in1) d_law_1179 ?_
  refine Z_aload_n (pc := 1180) hC d_law_1180 rfl 1 rfl ?_
  obtain ⟨kc, r, V1, b1, M1, hHO, hy, hth, hrb, hI, hg⟩ := hst
  have hph := phi_le V1
  refine Z_hsX (P := wsF C.cI C.cZ a' M 0 shpM) (pc := 1181) hC hJ hXT hNC (h_Lw_common C.l C.D C.cI C.cZ cJ a o f hN hHO) mh_Lw_144 (by decide) ⟨by omega, by omega⟩ (Nat.le_of_ble_eq_true rfl) rfl d_law_1181 (fun w k1 n1 hB hk1 hn1 => ?_)
  obtain ⟨a1, f1, ha1, hf1, rfl⟩ := hB
  refine Z_istore (pc := 1184) hC (L' := [(5, .int kc), (4, .int i), (3, .ref o), (2, .ref (a' 0)), (1, .ref (a 0)), (0, .ref b)]) d_law_1184 (by decide) rfl ?_
  refine Z_aload_n (pc := 1186) hC d_law_1186 rfl 3 rfl ?_
  refine Z_aload_n (pc := 1187) hC d_law_1187 rfl 5 rfl ?_
  refine Z_iload (pc := 1188) hC d_law_1188 1 rfl ?_
  refine Z_iconst (pc := 1190) hC d_law_1190 ki_1 ?_
  refine Z_iadd (pc := 1191) hC d_law_1191 ?_
  refine Z_sald (pc := 1192) hC hX hbl hbA (hin _ in1) d_law_1192 ?_
  refine Z_vi0 (S := (wsF C.cI C.cZ a1 V1 0 shpC ++ [outC cJ o f1])) (pc := 1193) hC (c_Mo_common C.l C.D C.cI C.cZ a' hy) sm_0 cls_Mo ml_LinkYardLaw_146 mv_Mo_common ⟨⟨Nat.le_of_ble_eq_true rfl, Nat.le_of_ble_eq_true rfl⟩, rfl, rfl⟩ ⟨by show _ ≤ 601024; omega, by show _ ≤ 7293034; omega⟩ (Nat.le_of_ble_eq_true rfl) rfl d_law_1193 ?_
  refine Z_istore (pc := 1196) hC (L' := [(6, .int b1), (5, .int kc), (4, .int i), (3, .ref o), (2, .ref (a' 0)), (1, .ref (a 0)), (0, .ref b)]) d_law_1196 (by decide) rfl ?_
  refine Z_aload_n (pc := 1198) hC d_law_1198 rfl 4 rfl ?_
  refine Z_vi0 (S := (wsF C.cI C.cZ a1 V1 0 shpC ++ [outC cJ o f1])) (pc := 1199) hC (c_Mo_thrown C.l C.D C.cI C.cZ a' (V := M1) rfl) sm_0 cls_Mo ml_LinkYardLaw_86 mv_Mo_thrown ⟨⟨Nat.le_of_ble_eq_true rfl, Nat.le_of_ble_eq_true rfl⟩, rfl, rfl⟩ ⟨by show _ ≤ 601024; omega, by show _ ≤ 7293034; omega⟩ (Nat.le_of_ble_eq_true rfl) rfl d_law_1199 ?_
  refine Z_iload (pc := 1202) hC d_law_1202 1 rfl ?_
  refine Z_icmp_eq (pc := 1204) hC 1209 d_law_1204 rfl (fun _ => ?_) (fun hne => absurd hth hne)
  refine Z_iload (pc := 1209) hC d_law_1209 1 rfl ?_
  refine Z_if_ne (pc := 1211) hC 1226 d_law_1211 rfl (fun hne => ?_) (fun hz => ?_)
  · refine Z_goto (pc := 1226) hC 1341 d_law_1226 rfl ?_
    refine Z_subL [2, 3, 4, 5, 6] (L' := lwL i o (a' 0) (a 0) b) rfl ?_
    exact kk V1 M1 a1 f1 k1 n1 hI ha1 (by omega) (by omega)
  · refine Z_aload_n (pc := 1214) hC d_law_1214 rfl 3 rfl ?_
    refine Z_iconst (pc := 1215) hC d_law_1215 ki_0 ?_
    refine Z_lald (pc := 1216) hC (X := wsF C.cI C.cZ a' M1 0 shpM ++ wsF C.cI C.cZ a1 V1 0 shpC) hJ d_law_1216 ?_
    refine Z_iload (pc := 1217) hC d_law_1217 0 rfl ?_
    refine Z_i2l (pc := 1219) hC d_law_1219 ?_
    refine Z_lcmp (pc := 1220) hC d_law_1220 ?_
    refine Z_if_eq (pc := 1221) hC 1226 d_law_1221 rfl (fun _ => ?_) (fun hne => absurd (lg_eq ((hf1 hz).trans (by rw [hrb hz]))) hne)
    refine Z_goto (pc := 1226) hC 1341 d_law_1226 rfl ?_
    refine Z_subL [2, 3, 4, 5, 6] (L' := lwL i o (a' 0) (a 0) b) rfl ?_
    exact kk V1 M1 a1 f1 k1 n1 hI ha1 (by omega) (by omega)
set_option maxHeartbeats 4000000 in
set_option maxRecDepth 100000 in
theorem lc_at {C : YC} {cJ : ClassId} {I : Sto → Sto → Prop} {b LL : Nat} {xs : Nat → Int32} {a a' : Nat → Nat} {o k n : Nat} {f : Nat → Int64} {V M : Sto} {i : Int32} (hC : YF C "LinkYardLaw" code 7 room_1) (G : LG C cJ b LL xs) (hin : ∀ d : Int32, (1 ≤ d ∧ d ≤ 5) → vp_in (i + d) LL) (hkn : k + 2 ≤ 601024 ∧ n + 310000 ≤ 7293034) (hst : StI I cs_Lw_at (f_Ly_at V (xs (i + 1).toNatClampNeg)) (f_Mo_at M (xs (i + 1).toNatClampNeg)) V 0) (kk : LK C cJ I a a' o b i k n V) : Z C 7 k n 1229 (lwL i o (a' 0) (a 0) b) [] (wsF C.cI C.cZ a' M 0 shpM ++ (wsF C.cI C.cZ a V 0 shpC ++ [outC cJ o f])) := by
  obtain ⟨hJ, hXT, hNC, hX, hbl, hbA, hN⟩ := G
  refine Z_aload_n (pc := 1229) hC d_law_1229 rfl 3 rfl ?_
  refine Z_aload_n (pc := 1230) hC d_law_1230 rfl 4 rfl ?_
  refine Z_iload (pc := 1231) hC d_law_1231 0 rfl ?_
  refine Z_iconst (pc := 1233) hC d_law_1233 ki_1 ?_
  refine Z_iadd (pc := 1234) hC d_law_1234 ?_
  refine Z_sald (pc := 1235) hC hX hbl hbA (hin _ in1) d_law_1235 ?_
  refine Z_aload_n (pc := 1236) hC d_law_1236 rfl 1 rfl ?_
  obtain ⟨kc, r, V1, b1, M1, hHO, hy, hth, hrb, hI, hg⟩ := hst
  have hph := phi_le V1
  refine Z_hsX (P := wsF C.cI C.cZ a' M 0 shpM) (pc := 1237) hC hJ hXT hNC (h_Lw_at C.l C.D C.cI C.cZ cJ a o f hN hHO) mh_Lw_147 (by decide) ⟨by omega, by omega⟩ (Nat.le_of_ble_eq_true rfl) rfl d_law_1237 (fun w k1 n1 hB hk1 hn1 => ?_)
  obtain ⟨a1, f1, ha1, hf1, rfl⟩ := hB
  refine Z_istore (pc := 1240) hC (L' := [(5, .int kc), (4, .int i), (3, .ref o), (2, .ref (a' 0)), (1, .ref (a 0)), (0, .ref b)]) d_law_1240 (by decide) rfl ?_
  refine Z_aload_n (pc := 1242) hC d_law_1242 rfl 3 rfl ?_
  refine Z_aload_n (pc := 1243) hC d_law_1243 rfl 5 rfl ?_
  refine Z_iload (pc := 1244) hC d_law_1244 1 rfl ?_
  refine Z_iconst (pc := 1246) hC d_law_1246 ki_1 ?_
  refine Z_iadd (pc := 1247) hC d_law_1247 ?_
  refine Z_sald (pc := 1248) hC hX hbl hbA (hin _ in1) d_law_1248 ?_
  refine Z_vi0 (S := (wsF C.cI C.cZ a1 V1 0 shpC ++ [outC cJ o f1])) (pc := 1249) hC (c_Mo_at C.l C.D C.cI C.cZ a' hy) sm_0 cls_Mo ml_LinkYardLaw_149 mv_Mo_at ⟨⟨Nat.le_of_ble_eq_true rfl, Nat.le_of_ble_eq_true rfl⟩, rfl, rfl⟩ ⟨by show _ ≤ 601024; omega, by show _ ≤ 7293034; omega⟩ (Nat.le_of_ble_eq_true rfl) rfl d_law_1249 ?_
  refine Z_istore (pc := 1252) hC (L' := [(6, .int b1), (5, .int kc), (4, .int i), (3, .ref o), (2, .ref (a' 0)), (1, .ref (a 0)), (0, .ref b)]) d_law_1252 (by decide) rfl ?_
  refine Z_aload_n (pc := 1254) hC d_law_1254 rfl 4 rfl ?_
  refine Z_vi0 (S := (wsF C.cI C.cZ a1 V1 0 shpC ++ [outC cJ o f1])) (pc := 1255) hC (c_Mo_thrown C.l C.D C.cI C.cZ a' (V := M1) rfl) sm_0 cls_Mo ml_LinkYardLaw_86 mv_Mo_thrown ⟨⟨Nat.le_of_ble_eq_true rfl, Nat.le_of_ble_eq_true rfl⟩, rfl, rfl⟩ ⟨by show _ ≤ 601024; omega, by show _ ≤ 7293034; omega⟩ (Nat.le_of_ble_eq_true rfl) rfl d_law_1255 ?_
  refine Z_iload (pc := 1258) hC d_law_1258 1 rfl ?_
  refine Z_icmp_eq (pc := 1260) hC 1265 d_law_1260 rfl (fun _ => ?_) (fun hne => absurd hth hne)
  refine Z_iload (pc := 1265) hC d_law_1265 1 rfl ?_
  refine Z_if_ne (pc := 1267) hC 1282 d_law_1267 rfl (fun hne => ?_) (fun hz => ?_)
  · refine Z_goto (pc := 1282) hC 1341 d_law_1282 rfl ?_
    refine Z_subL [2, 3, 4, 5, 6] (L' := lwL i o (a' 0) (a 0) b) rfl ?_
    exact kk V1 M1 a1 f1 k1 n1 hI ha1 (by omega) (by omega)
  · refine Z_aload_n (pc := 1270) hC d_law_1270 rfl 3 rfl ?_
    refine Z_iconst (pc := 1271) hC d_law_1271 ki_0 ?_
    refine Z_lald (pc := 1272) hC (X := wsF C.cI C.cZ a' M1 0 shpM ++ wsF C.cI C.cZ a1 V1 0 shpC) hJ d_law_1272 ?_
    refine Z_iload (pc := 1273) hC d_law_1273 0 rfl ?_
    refine Z_i2l (pc := 1275) hC d_law_1275 ?_
    refine Z_lcmp (pc := 1276) hC d_law_1276 ?_
    refine Z_if_eq (pc := 1277) hC 1282 d_law_1277 rfl (fun _ => ?_) (fun hne => absurd (lg_eq ((hf1 hz).trans (by rw [hrb hz]))) hne)
    refine Z_goto (pc := 1282) hC 1341 d_law_1282 rfl ?_
    refine Z_subL [2, 3, 4, 5, 6] (L' := lwL i o (a' 0) (a 0) b) rfl ?_
    exact kk V1 M1 a1 f1 k1 n1 hI ha1 (by omega) (by omega)
set_option maxHeartbeats 4000000 in
set_option maxRecDepth 100000 in
theorem lc_about {C : YC} {cJ : ClassId} {I : Sto → Sto → Prop} {b LL : Nat} {xs : Nat → Int32} {a a' : Nat → Nat} {o k n : Nat} {f : Nat → Int64} {V M : Sto} {i : Int32} (hC : YF C "LinkYardLaw" code 7 room_1) (G : LG C cJ b LL xs) (hin : ∀ d : Int32, (1 ≤ d ∧ d ≤ 5) → vp_in (i + d) LL) (hkn : k + 2 ≤ 601024 ∧ n + 310000 ≤ 7293034) (hst : StI I cs_Lw_about (f_Ly_about V (xs (i + 1).toNatClampNeg)) (f_Mo_about M (xs (i + 1).toNatClampNeg)) V 0) (kk : LK C cJ I a a' o b i k n V) : Z C 7 k n 1285 (lwL i o (a' 0) (a 0) b) [] (wsF C.cI C.cZ a' M 0 shpM ++ (wsF C.cI C.cZ a V 0 shpC ++ [outC cJ o f])) := by
  obtain ⟨hJ, hXT, hNC, hX, hbl, hbA, hN⟩ := G
  refine Z_aload_n (pc := 1285) hC d_law_1285 rfl 3 rfl ?_
  refine Z_aload_n (pc := 1286) hC d_law_1286 rfl 4 rfl ?_
  refine Z_iload (pc := 1287) hC d_law_1287 0 rfl ?_
  refine Z_iconst (pc := 1289) hC d_law_1289 ki_1 ?_
  refine Z_iadd (pc := 1290) hC d_law_1290 ?_
  refine Z_sald (pc := 1291) hC hX hbl hbA (hin _ in1) d_law_1291 ?_
  refine Z_aload_n (pc := 1292) hC d_law_1292 rfl 1 rfl ?_
  obtain ⟨kc, r, V1, b1, M1, hHO, hy, hth, hrb, hI, hg⟩ := hst
  have hph := phi_le V1
  refine Z_hsX (P := wsF C.cI C.cZ a' M 0 shpM) (pc := 1293) hC hJ hXT hNC (h_Lw_about C.l C.D C.cI C.cZ cJ a o f hN hHO) mh_Lw_150 (by decide) ⟨by omega, by omega⟩ (Nat.le_of_ble_eq_true rfl) rfl d_law_1293 (fun w k1 n1 hB hk1 hn1 => ?_)
  obtain ⟨a1, f1, ha1, hf1, rfl⟩ := hB
  refine Z_istore (pc := 1296) hC (L' := [(5, .int kc), (4, .int i), (3, .ref o), (2, .ref (a' 0)), (1, .ref (a 0)), (0, .ref b)]) d_law_1296 (by decide) rfl ?_
  refine Z_aload_n (pc := 1298) hC d_law_1298 rfl 3 rfl ?_
  refine Z_aload_n (pc := 1299) hC d_law_1299 rfl 5 rfl ?_
  refine Z_iload (pc := 1300) hC d_law_1300 1 rfl ?_
  refine Z_iconst (pc := 1302) hC d_law_1302 ki_1 ?_
  refine Z_iadd (pc := 1303) hC d_law_1303 ?_
  refine Z_sald (pc := 1304) hC hX hbl hbA (hin _ in1) d_law_1304 ?_
  refine Z_vi0 (S := (wsF C.cI C.cZ a1 V1 0 shpC ++ [outC cJ o f1])) (pc := 1305) hC (c_Mo_about C.l C.D C.cI C.cZ a' hy) sm_0 cls_Mo ml_LinkYardLaw_152 mv_Mo_about ⟨⟨Nat.le_of_ble_eq_true rfl, Nat.le_of_ble_eq_true rfl⟩, rfl, rfl⟩ ⟨by show _ ≤ 601024; omega, by show _ ≤ 7293034; omega⟩ (Nat.le_of_ble_eq_true rfl) rfl d_law_1305 ?_
  refine Z_istore (pc := 1308) hC (L' := [(6, .int b1), (5, .int kc), (4, .int i), (3, .ref o), (2, .ref (a' 0)), (1, .ref (a 0)), (0, .ref b)]) d_law_1308 (by decide) rfl ?_
  refine Z_aload_n (pc := 1310) hC d_law_1310 rfl 4 rfl ?_
  refine Z_vi0 (S := (wsF C.cI C.cZ a1 V1 0 shpC ++ [outC cJ o f1])) (pc := 1311) hC (c_Mo_thrown C.l C.D C.cI C.cZ a' (V := M1) rfl) sm_0 cls_Mo ml_LinkYardLaw_86 mv_Mo_thrown ⟨⟨Nat.le_of_ble_eq_true rfl, Nat.le_of_ble_eq_true rfl⟩, rfl, rfl⟩ ⟨by show _ ≤ 601024; omega, by show _ ≤ 7293034; omega⟩ (Nat.le_of_ble_eq_true rfl) rfl d_law_1311 ?_
  refine Z_iload (pc := 1314) hC d_law_1314 1 rfl ?_
  refine Z_icmp_eq (pc := 1316) hC 1321 d_law_1316 rfl (fun _ => ?_) (fun hne => absurd hth hne)
  refine Z_iload (pc := 1321) hC d_law_1321 1 rfl ?_
  refine Z_if_ne (pc := 1323) hC 1338 d_law_1323 rfl (fun hne => ?_) (fun hz => ?_)
  · refine Z_goto (pc := 1338) hC 1341 d_law_1338 rfl ?_
    refine Z_subL [2, 3, 4, 5, 6] (L' := lwL i o (a' 0) (a 0) b) rfl ?_
    exact kk V1 M1 a1 f1 k1 n1 hI ha1 (by omega) (by omega)
  · refine Z_aload_n (pc := 1326) hC d_law_1326 rfl 3 rfl ?_
    refine Z_iconst (pc := 1327) hC d_law_1327 ki_0 ?_
    refine Z_lald (pc := 1328) hC (X := wsF C.cI C.cZ a' M1 0 shpM ++ wsF C.cI C.cZ a1 V1 0 shpC) hJ d_law_1328 ?_
    refine Z_iload (pc := 1329) hC d_law_1329 0 rfl ?_
    refine Z_i2l (pc := 1331) hC d_law_1331 ?_
    refine Z_lcmp (pc := 1332) hC d_law_1332 ?_
    refine Z_if_eq (pc := 1333) hC 1338 d_law_1333 rfl (fun _ => ?_) (fun hne => absurd (lg_eq ((hf1 hz).trans (by rw [hrb hz]))) hne)
    refine Z_goto (pc := 1338) hC 1341 d_law_1338 rfl ?_
    refine Z_subL [2, 3, 4, 5, 6] (L' := lwL i o (a' 0) (a 0) b) rfl ?_
    exact kk V1 M1 a1 f1 k1 n1 hI ha1 (by omega) (by omega)
