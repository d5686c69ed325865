set_option maxHeartbeats 4000000 in
set_option maxRecDepth 100000 in
theorem c_Mo_mendOne (l : Launch) (D : va_G) (cI cZ : ClassId) (a : Nat → Nat) {V : Sto} {p1 : Int32} {r : Int32} {V' : Sto} (h : f_Mo_mendOne V p1 = some (r, V')) : YMi l D cI cZ a shpM y_Mo_mendOne b_Mo_mendOne 6 (some .boolean) rm_Mo_mendOne true [.ref (a 0), .int p1] V r V' := by
  refine YMi_of (by decide) (Nat.le_of_ble_eq_true rfl) ?_
  intro C hl hDD hcI hcZ ha hC hw hE
  subst hl hDD hcI hcZ ha
  show Y C shpM 6 0 [(0, .ref (C.a 0)), (1, .int p1)] [] V
  have hw := hw rfl
  rw [f_Mo_mendOne] at h
  refine Y_aload_n (pc := 0) hC d_Mo_mendOne_0 rfl 0 rfl ?_
  refine Y_getR (pc := 1) hC sm_0 fl_Mo_25 rfl d_Mo_mendOne_1 ?_
  refine Y_aload_n (pc := 4) hC d_Mo_mendOne_4 rfl 0 rfl ?_
  refine Y_getR (pc := 5) hC sm_0 fl_Mo_54 rfl d_Mo_mendOne_5 ?_
  refine Y_iload_n (pc := 8) hC d_Mo_mendOne_8 rfl 1 rfl ?_
  obtain ⟨hi, h⟩ := ck_some h
  refine Y_iald (pc := 9) hC sm_15 rfl hi d_Mo_mendOne_9 ?_
  obtain ⟨hi, h⟩ := ck_some h
  refine Y_iald (pc := 10) hC sm_6 rfl hi d_Mo_mendOne_10 ?_
  refine Y_aload_n (pc := 11) hC d_Mo_mendOne_11 rfl 0 rfl ?_
  refine Y_getR (pc := 12) hC sm_0 fl_Mo_57 rfl d_Mo_mendOne_12 ?_
  refine Y_iload_n (pc := 15) hC d_Mo_mendOne_15 rfl 1 rfl ?_
  obtain ⟨hi, h⟩ := ck_some h
  refine Y_iald (pc := 16) hC sm_16 rfl hi d_Mo_mendOne_16 ?_
  refine Y_iconst (pc := 17) hC d_Mo_mendOne_17 ki_4 ?_
  refine Y_idiv (pc := 18) hC d_Mo_mendOne_18 (by decide) ?_
  refine Y_iadd (pc := 19) hC d_Mo_mendOne_19 ?_
  refine Y_istore_n (pc := 20) hC (L' := [(2, .int ((V 6 (V 15 p1.toNatClampNeg).toNatClampNeg) + ((V 16 p1.toNatClampNeg) / 4))), (0, .ref (C.a 0)), (1, .int p1)]) d_Mo_mendOne_20 rfl (by decide) rfl ?_
  refine Y_aload_n (pc := 21) hC d_Mo_mendOne_21 rfl 1 rfl ?_
  refine Y_getR (pc := 22) hC sm_0 fl_Mo_106 rfl d_Mo_mendOne_22 ?_
  refine Y_iload_n (pc := 25) hC d_Mo_mendOne_25 rfl 0 rfl ?_
  obtain ⟨hi, h⟩ := ck_some h
  refine Y_iald (pc := 26) hC sm_29 rfl hi d_Mo_mendOne_26 ?_
  refine Y_istore_n (pc := 27) hC (L' := [(3, .int (V 29 ((V 6 (V 15 p1.toNatClampNeg).toNatClampNeg) + ((V 16 p1.toNatClampNeg) / 4)).toNatClampNeg)), (2, .int ((V 6 (V 15 p1.toNatClampNeg).toNatClampNeg) + ((V 16 p1.toNatClampNeg) / 4))), (0, .ref (C.a 0)), (1, .int p1)]) d_Mo_mendOne_27 rfl (by decide) rfl ?_
  refine Y_aload_n (pc := 28) hC d_Mo_mendOne_28 rfl 2 rfl ?_
  refine Y_aload_n (pc := 29) hC d_Mo_mendOne_29 rfl 2 rfl ?_
  refine Y_getR (pc := 30) hC sm_0 fl_Mo_63 rfl d_Mo_mendOne_30 ?_
  refine Y_iload_n (pc := 33) hC d_Mo_mendOne_33 rfl 3 rfl ?_
  obtain ⟨hi, h⟩ := ck_some h
  refine Y_iald (pc := 34) hC sm_18 rfl hi d_Mo_mendOne_34 ?_
  obtain ⟨r1, V1, hc_r1, h⟩ := cl_some h
  refine Y_callV (pc := 35) hC (c_Mo_meaning C.l C.D C.cI C.cZ C.a hc_r1) (fun q => nomatch q) sm_0 cls_Mo ml_Mo_256 mv_Mo_meaning (by decide) (Nat.le_of_ble_eq_true rfl) rfl d_Mo_mendOne_35 ?_
  refine Y_aload_n (pc := 38) hC d_Mo_mendOne_38 rfl 2 rfl ?_
  refine Y_getR (pc := 39) hC sm_0 fl_Mo_66 rfl d_Mo_mendOne_39 ?_
  refine Y_iload_n (pc := 42) hC d_Mo_mendOne_42 rfl 3 rfl ?_
  obtain ⟨hi, h⟩ := ck_some h
  refine Y_iald (pc := 43) hC sm_19 rfl hi d_Mo_mendOne_43 ?_
  refine Y_iadd (pc := 44) hC d_Mo_mendOne_44 ?_
  refine Y_istore (pc := 45) hC (L' := [(4, .int (r1 + (V1 19 p1.toNatClampNeg))), (3, .int (V 29 ((V 6 (V 15 p1.toNatClampNeg).toNatClampNeg) + ((V 16 p1.toNatClampNeg) / 4)).toNatClampNeg)), (2, .int ((V 6 (V 15 p1.toNatClampNeg).toNatClampNeg) + ((V 16 p1.toNatClampNeg) / 4))), (0, .ref (C.a 0)), (1, .int p1)]) d_Mo_mendOne_45 (by decide) rfl ?_
  refine Y_aload_n (pc := 47) hC d_Mo_mendOne_47 rfl 3 rfl ?_
  refine Y_getR (pc := 48) hC sm_0 fl_Mo_60 rfl d_Mo_mendOne_48 ?_
  refine Y_iload_n (pc := 51) hC d_Mo_mendOne_51 rfl 4 rfl ?_
  obtain ⟨hi, h⟩ := ck_some h
  refine Y_iald (pc := 52) hC sm_17 rfl hi d_Mo_mendOne_52 ?_
  by_cases cs_53_0 : (V1 17 p1.toNatClampNeg) = 0
  · have h := ifp cs_53_0 h
    refine Y_tableIn (pc := 53) hC (off := 35) 88 d_Mo_mendOne_53 (by rw [cs_53_0]; decide) (by rw [cs_53_0]; decide) (by rw [cs_53_0]; try rfl) rfl ?_
    refine Y_aload_n (pc := 88) hC d_Mo_mendOne_88 rfl 3 rfl ?_
    refine Y_getR (pc := 89) hC sm_0 fl_Mo_106 rfl d_Mo_mendOne_89 ?_
    refine Y_iload_n (pc := 92) hC d_Mo_mendOne_92 rfl 2 rfl ?_
    refine Y_iload_n (pc := 93) hC d_Mo_mendOne_93 rfl 1 rfl ?_
    refine Y_iload (pc := 94) hC d_Mo_mendOne_94 0 rfl ?_
    refine Y_iadd (pc := 96) hC d_Mo_mendOne_96 ?_
    obtain ⟨hi, h⟩ := ck_some h
    obtain ⟨V2, hV2, h⟩ := nm_some h
    refine Y_iast (pc := 97) hC sm_29 (by decide) rfl hi hw rfl hV2 d_Mo_mendOne_97 ?_
    refine Y_goto (pc := 98) hC 258 d_Mo_mendOne_98 rfl ?_
    refine Y_iconst (pc := 258) hC d_Mo_mendOne_258 ki_1 ?_
    exact Y_zret (pc := 259) hC hE d_Mo_mendOne_259 rfl h
  · have h := ifn cs_53_0 h
    by_cases cs_53_1 : (V1 17 p1.toNatClampNeg) = 1
    · have h := ifp cs_53_1 h
      refine Y_tableIn (pc := 53) hC (off := 48) 101 d_Mo_mendOne_53 (by rw [cs_53_1]; decide) (by rw [cs_53_1]; decide) (by rw [cs_53_1]; try rfl) rfl ?_
      refine Y_aload_n (pc := 101) hC d_Mo_mendOne_101 rfl 3 rfl ?_
      refine Y_getR (pc := 102) hC sm_0 fl_Mo_106 rfl d_Mo_mendOne_102 ?_
      refine Y_iload_n (pc := 105) hC d_Mo_mendOne_105 rfl 2 rfl ?_
      refine Y_iload_n (pc := 106) hC d_Mo_mendOne_106 rfl 1 rfl ?_
      refine Y_iload (pc := 107) hC d_Mo_mendOne_107 0 rfl ?_
      refine Y_iadd (pc := 109) hC d_Mo_mendOne_109 ?_
      refine Y_aload_n (pc := 110) hC d_Mo_mendOne_110 rfl 3 rfl ?_
      refine Y_iload_n (pc := 111) hC d_Mo_mendOne_111 rfl 4 rfl ?_
      obtain ⟨r2, V3, hc_r2, h⟩ := cl_some h
      refine Y_callV (pc := 112) hC (c_Mo_placeAt C.l C.D C.cI C.cZ C.a hc_r2) (fun q => nomatch q) sm_0 cls_Mo ml_Mo_259 mv_Mo_placeAt (by decide) (Nat.le_of_ble_eq_true rfl) rfl d_Mo_mendOne_112 ?_
      refine Y_isub (pc := 115) hC d_Mo_mendOne_115 ?_
      obtain ⟨hi, h⟩ := ck_some h
      obtain ⟨V4, hV4, h⟩ := nm_some h
      refine Y_iast (pc := 116) hC sm_29 (by decide) rfl hi hw rfl hV4 d_Mo_mendOne_116 ?_
      refine Y_goto (pc := 117) hC 258 d_Mo_mendOne_117 rfl ?_
      refine Y_iconst (pc := 258) hC d_Mo_mendOne_258 ki_1 ?_
      exact Y_zret (pc := 259) hC hE d_Mo_mendOne_259 rfl h
    · have h := ifn cs_53_1 h
      by_cases cs_53_2 : (V1 17 p1.toNatClampNeg) = 2
      · have h := ifp cs_53_2 h
        refine Y_tableIn (pc := 53) hC (off := 67) 120 d_Mo_mendOne_53 (by rw [cs_53_2]; decide) (by rw [cs_53_2]; decide) (by rw [cs_53_2]; try rfl) rfl ?_
        refine Y_aload_n (pc := 120) hC d_Mo_mendOne_120 rfl 3 rfl ?_
        refine Y_getR (pc := 121) hC sm_0 fl_Mo_106 rfl d_Mo_mendOne_121 ?_
        refine Y_iload_n (pc := 124) hC d_Mo_mendOne_124 rfl 2 rfl ?_
        refine Y_iload_n (pc := 125) hC d_Mo_mendOne_125 rfl 1 rfl ?_
        refine Y_ldcw (pc := 126) hC kc_Mo_285 d_Mo_mendOne_126 ?_
        refine Y_iand (pc := 129) hC d_Mo_mendOne_129 ?_
        refine Y_iload (pc := 130) hC d_Mo_mendOne_130 0 rfl ?_
        refine Y_ldcw (pc := 132) hC kc_Mo_286 d_Mo_mendOne_132 ?_
        refine Y_iadd (pc := 135) hC d_Mo_mendOne_135 ?_
        refine Y_bipush (pc := 136) hC d_Mo_mendOne_136 kb_16 ?_
        refine Y_iushr (pc := 138) hC d_Mo_mendOne_138 rfl ?_
        refine Y_ior (pc := 139) hC d_Mo_mendOne_139 ?_
        obtain ⟨hi, h⟩ := ck_some h
        obtain ⟨V5, hV5, h⟩ := nm_some h
        refine Y_iast (pc := 140) hC sm_29 (by decide) rfl hi hw rfl hV5 d_Mo_mendOne_140 ?_
        refine Y_goto (pc := 141) hC 258 d_Mo_mendOne_141 rfl ?_
        refine Y_iconst (pc := 258) hC d_Mo_mendOne_258 ki_1 ?_
        exact Y_zret (pc := 259) hC hE d_Mo_mendOne_259 rfl h
      · have h := ifn cs_53_2 h
        by_cases cs_53_3 : (V1 17 p1.toNatClampNeg) = 3
        · have h := ifp cs_53_3 h
          refine Y_tableIn (pc := 53) hC (off := 91) 144 d_Mo_mendOne_53 (by rw [cs_53_3]; decide) (by rw [cs_53_3]; decide) (by rw [cs_53_3]; try rfl) rfl ?_
          refine Y_aload_n (pc := 144) hC d_Mo_mendOne_144 rfl 3 rfl ?_
          refine Y_getR (pc := 145) hC sm_0 fl_Mo_106 rfl d_Mo_mendOne_145 ?_
          refine Y_iload_n (pc := 148) hC d_Mo_mendOne_148 rfl 2 rfl ?_
          refine Y_iload_n (pc := 149) hC d_Mo_mendOne_149 rfl 1 rfl ?_
          refine Y_ldcw (pc := 150) hC kc_Mo_285 d_Mo_mendOne_150 ?_
          refine Y_iand (pc := 153) hC d_Mo_mendOne_153 ?_
          refine Y_iload (pc := 154) hC d_Mo_mendOne_154 0 rfl ?_
          refine Y_ldcw (pc := 156) hC kc_Mo_287 d_Mo_mendOne_156 ?_
          refine Y_iand (pc := 159) hC d_Mo_mendOne_159 ?_
          refine Y_ior (pc := 160) hC d_Mo_mendOne_160 ?_
          obtain ⟨hi, h⟩ := ck_some h
          obtain ⟨V6, hV6, h⟩ := nm_some h
          refine Y_iast (pc := 161) hC sm_29 (by decide) rfl hi hw rfl hV6 d_Mo_mendOne_161 ?_
          refine Y_goto (pc := 162) hC 258 d_Mo_mendOne_162 rfl ?_
          refine Y_iconst (pc := 258) hC d_Mo_mendOne_258 ki_1 ?_
          exact Y_zret (pc := 259) hC hE d_Mo_mendOne_259 rfl h
        · have h := ifn cs_53_3 h
          by_cases cs_53_4 : (V1 17 p1.toNatClampNeg) = 4
          · have h := ifp cs_53_4 h
            refine Y_tableIn (pc := 53) hC (off := 112) 165 d_Mo_mendOne_53 (by rw [cs_53_4]; decide) (by rw [cs_53_4]; decide) (by rw [cs_53_4]; try rfl) rfl ?_
            refine Y_aload_n (pc := 165) hC d_Mo_mendOne_165 rfl 3 rfl ?_
            refine Y_getR (pc := 166) hC sm_0 fl_Mo_109 rfl d_Mo_mendOne_166 ?_
            refine Y_iload_n (pc := 169) hC d_Mo_mendOne_169 rfl 4 rfl ?_
            obtain ⟨hi, h⟩ := ck_some h
            refine Y_iald (pc := 170) hC sm_30 rfl hi d_Mo_mendOne_170 ?_
            refine Y_iconst (pc := 171) hC d_Mo_mendOne_171 ki_m1 ?_
            obtain ⟨j1, hj1, h⟩ := jn_some h
            have kj1 : ∀ (z1 : Int32) (V8 : Sto), j1 z1 V8 = some (r, V') → Y C shpM 6 190 [(0, .ref (C.a 0)), (1, .int p1), (2, .int ((V 6 (V 15 p1.toNatClampNeg).toNatClampNeg) + ((V 16 p1.toNatClampNeg) / 4))), (3, .int (V 29 ((V 6 (V 15 p1.toNatClampNeg).toNatClampNeg) + ((V 16 p1.toNatClampNeg) / 4)).toNatClampNeg))] [.int z1] V8 := by
              intro z1 V8 h
              subst hj1
              dsimp only at h
              refine Y_istore (pc := 190) hC (L' := [(5, .int z1), (0, .ref (C.a 0)), (1, .int p1), (2, .int ((V 6 (V 15 p1.toNatClampNeg).toNatClampNeg) + ((V 16 p1.toNatClampNeg) / 4))), (3, .int (V 29 ((V 6 (V 15 p1.toNatClampNeg).toNatClampNeg) + ((V 16 p1.toNatClampNeg) / 4)).toNatClampNeg))]) d_Mo_mendOne_190 (by decide) rfl ?_
              refine Y_aload_n (pc := 192) hC d_Mo_mendOne_192 rfl 1 rfl ?_
              refine Y_getR (pc := 193) hC sm_0 fl_Mo_106 rfl d_Mo_mendOne_193 ?_
              refine Y_iload_n (pc := 196) hC d_Mo_mendOne_196 rfl 3 rfl ?_
              refine Y_iload_n (pc := 197) hC d_Mo_mendOne_197 rfl 4 rfl ?_
              refine Y_ldcw (pc := 198) hC kc_Mo_285 d_Mo_mendOne_198 ?_
              refine Y_iand (pc := 201) hC d_Mo_mendOne_201 ?_
              refine Y_iload (pc := 202) hC d_Mo_mendOne_202 0 rfl ?_
              refine Y_aload_n (pc := 204) hC d_Mo_mendOne_204 rfl 1 rfl ?_
              refine Y_iload_n (pc := 205) hC d_Mo_mendOne_205 rfl 2 rfl ?_
              obtain ⟨r4, V9, hc_r4, h⟩ := cl_some h
              refine Y_callV (pc := 206) hC (c_Mo_placeAt C.l C.D C.cI C.cZ C.a hc_r4) (fun q => nomatch q) sm_0 cls_Mo ml_Mo_259 mv_Mo_placeAt (by decide) (Nat.le_of_ble_eq_true rfl) rfl d_Mo_mendOne_206 ?_
              refine Y_isub (pc := 209) hC d_Mo_mendOne_209 ?_
              refine Y_iconst (pc := 210) hC d_Mo_mendOne_210 ki_4 ?_
              refine Y_isub (pc := 211) hC d_Mo_mendOne_211 ?_
              refine Y_iconst (pc := 212) hC d_Mo_mendOne_212 ki_4 ?_
              refine Y_idiv (pc := 213) hC d_Mo_mendOne_213 (by decide) ?_
              refine Y_ldcw (pc := 214) hC kc_Mo_287 d_Mo_mendOne_214 ?_
              refine Y_iand (pc := 217) hC d_Mo_mendOne_217 ?_
              refine Y_ior (pc := 218) hC d_Mo_mendOne_218 ?_
              obtain ⟨hi, h⟩ := ck_some h
              obtain ⟨V10, hV10, h⟩ := nm_some h
              refine Y_iast (pc := 219) hC sm_29 (by decide) rfl hi hw rfl hV10 d_Mo_mendOne_219 ?_
              refine Y_goto (pc := 220) hC 258 d_Mo_mendOne_220 rfl ?_
              refine Y_iconst (pc := 258) hC d_Mo_mendOne_258 ki_1 ?_
              exact Y_zret (pc := 259) hC hE d_Mo_mendOne_259 rfl h
            refine Y_icmp_eq (pc := 172) hC 188 d_Mo_mendOne_172 rfl (fun cc_172 => ?_) (fun cc_172 => ?_)
            · have h := ifp cc_172 h
              refine Y_iload (pc := 188) hC d_Mo_mendOne_188 0 rfl ?_
              refine Y_sub (pc := 190) [3, 4, 2, 1] rfl ?_
              exact kj1 _ _ h
            · have h := ifn cc_172 h
              refine Y_aload_n (pc := 175) hC d_Mo_mendOne_175 rfl 3 rfl ?_
              refine Y_aload_n (pc := 176) hC d_Mo_mendOne_176 rfl 3 rfl ?_
              refine Y_getR (pc := 177) hC sm_0 fl_Mo_109 rfl d_Mo_mendOne_177 ?_
              refine Y_iload_n (pc := 180) hC d_Mo_mendOne_180 rfl 4 rfl ?_
              obtain ⟨hi, h⟩ := ck_some h
              refine Y_iald (pc := 181) hC sm_30 rfl hi d_Mo_mendOne_181 ?_
              obtain ⟨r3, V7, hc_r3, h⟩ := cl_some h
              refine Y_callV (pc := 182) hC (c_Mo_islandAt C.l C.D C.cI C.cZ C.a hc_r3) (fun q => nomatch q) sm_0 cls_Mo ml_Mo_279 mv_Mo_islandAt (by decide) (Nat.le_of_ble_eq_true rfl) rfl d_Mo_mendOne_182 ?_
              refine Y_goto (pc := 185) hC 190 d_Mo_mendOne_185 rfl ?_
              refine Y_sub (pc := 190) [3, 4, 2, 1] rfl ?_
              exact kj1 _ _ h
          · have h := ifn cs_53_4 h
            have cn_0 := i32_ne cs_53_0
            have cn_1 := i32_ne cs_53_1
            have cn_2 := i32_ne cs_53_2
            have cn_3 := i32_ne cs_53_3
            have cn_4 := i32_ne cs_53_4
            simp only [i32lit_0, i32lit_1, i32lit_2, i32lit_3, i32lit_4] at cn_0 cn_1 cn_2 cn_3 cn_4
            refine Y_tableOut (pc := 53) hC 223 d_Mo_mendOne_53 (by omega) rfl ?_
            refine Y_iload (pc := 223) hC d_Mo_mendOne_223 0 rfl ?_
            refine Y_iconst (pc := 225) hC d_Mo_mendOne_225 ki_4 ?_
            refine Y_irem (pc := 226) hC d_Mo_mendOne_226 (by decide) ?_
            refine Y_if_eq (pc := 227) hC 238 d_Mo_mendOne_227 rfl (fun cc_227 => ?_) (fun cc_227 => ?_)
            · have h := ifp cc_227 h
              refine Y_aload_n (pc := 238) hC d_Mo_mendOne_238 rfl 3 rfl ?_
              refine Y_getR (pc := 239) hC sm_0 fl_Mo_106 rfl d_Mo_mendOne_239 ?_
              refine Y_iload_n (pc := 242) hC d_Mo_mendOne_242 rfl 2 rfl ?_
              refine Y_iload_n (pc := 243) hC d_Mo_mendOne_243 rfl 1 rfl ?_
              refine Y_ldcw (pc := 244) hC kc_Mo_288 d_Mo_mendOne_244 ?_
              refine Y_iand (pc := 247) hC d_Mo_mendOne_247 ?_
              refine Y_iload (pc := 248) hC d_Mo_mendOne_248 0 rfl ?_
              refine Y_iconst (pc := 250) hC d_Mo_mendOne_250 ki_2 ?_
              refine Y_iushr (pc := 251) hC d_Mo_mendOne_251 rfl ?_
              refine Y_ldcw (pc := 252) hC kc_Mo_289 d_Mo_mendOne_252 ?_
              refine Y_iand (pc := 255) hC d_Mo_mendOne_255 ?_
              refine Y_ior (pc := 256) hC d_Mo_mendOne_256 ?_
              obtain ⟨hi, h⟩ := ck_some h
              obtain ⟨V11, hV11, h⟩ := nm_some h
              refine Y_iast (pc := 257) hC sm_29 (by decide) rfl hi hw rfl hV11 d_Mo_mendOne_257 ?_
              refine Y_iconst (pc := 258) hC d_Mo_mendOne_258 ki_1 ?_
              exact Y_zret (pc := 259) hC hE d_Mo_mendOne_259 rfl h
            · have h := ifn cc_227 h
              refine Y_aload_n (pc := 230) hC d_Mo_mendOne_230 rfl 3 rfl ?_
              refine Y_iconst (pc := 231) hC d_Mo_mendOne_231 ki_5 ?_
              refine Y_iconst (pc := 232) hC d_Mo_mendOne_232 ki_m1 ?_
              refine Y_iload_n (pc := 233) hC d_Mo_mendOne_233 rfl 4 rfl ?_
              obtain ⟨r5, V12, hc_r5, h⟩ := cl_some h
              refine Y_callV (pc := 234) hC (c_Mo_fail C.l C.D C.cI C.cZ C.a hc_r5) (fun _ => hw) sm_0 cls_Mo ml_Mo_188 mv_Mo_fail (by decide) (Nat.le_of_ble_eq_true rfl) rfl d_Mo_mendOne_234 ?_
              obtain ⟨hbb, h⟩ := ck_some h
              exact Y_zret (pc := 237) hC hE d_Mo_mendOne_237 hbb h
set_option maxHeartbeats 4000000 in
set_option maxRecDepth 100000 in
theorem ylp_Mo_mend_2 {C : YC} {r : Int32} {V' : Sto} {k28 : Sto → RT} (hC : YF C R_Mo b_Mo_mend 3 rm_Mo_mend) (hw : YWr C shpM) (hE : YEi C .boolean shpM r V') (hk28 : ∀ (V1 : Sto), k28 V1 = some (r, V') → Y C shpM 3 28 [(0, .ref (C.a 0))] [] V1) : ∀ (n : Nat) (x1 : Int32) (V : Sto), lp_Mo_mend_2 k28 n x1 V = some (r, V') → Y C shpM 3 2 [(0, .ref (C.a 0)), (1, .int x1)] [] V := by
  intro n
  induction n with
  | zero =>
    intro x1 V h
    rw [lp_Mo_mend_2] at h
    cases h
  | succ n ih =>
    intro x1 V h
    rw [lp_Mo_mend_2] at h
    refine Y_iload_n (pc := 2) hC d_Mo_mend_2 rfl 1 rfl ?_
    refine Y_aload_n (pc := 3) hC d_Mo_mend_3 rfl 0 rfl ?_
    refine Y_getI (pc := 4) hC sm_0 fl_Mo_150 rfl d_Mo_mend_4 ?_
    refine Y_icmp_ge (pc := 7) hC 28 d_Mo_mend_7 rfl (fun cc_7 => ?_) (fun cc_7 => ?_)
    · have h := ifp cc_7 h
      refine Y_sub (pc := 28) [0] rfl ?_
      exact hk28 _ h
    · have h := ifn cc_7 h
      refine Y_aload_n (pc := 10) hC d_Mo_mend_10 rfl 0 rfl ?_
      refine Y_getR (pc := 11) hC sm_0 fl_Mo_106 rfl d_Mo_mend_11 ?_
      refine Y_iload_n (pc := 14) hC d_Mo_mend_14 rfl 1 rfl ?_
      refine Y_aload_n (pc := 15) hC d_Mo_mend_15 rfl 0 rfl ?_
      refine Y_getR (pc := 16) hC sm_0 fl_Mo_33 rfl d_Mo_mend_16 ?_
      refine Y_iload_n (pc := 19) hC d_Mo_mend_19 rfl 1 rfl ?_
      obtain ⟨hi, h⟩ := ck_some h
      refine Y_iald (pc := 20) hC sm_8 rfl hi d_Mo_mend_20 ?_
      obtain ⟨hi, h⟩ := ck_some h
      obtain ⟨V1, hV1, h⟩ := nm_some h
      refine Y_iast (pc := 21) hC sm_29 (by decide) rfl hi hw rfl hV1 d_Mo_mend_21 ?_
      refine Y_iinc (pc := 22) hC (v := x1 + 1) (L' := [(1, .int (x1 + 1)), (0, .ref (C.a 0))]) d_Mo_mend_22 1 rfl rfl (by decide) rfl ?_
      refine Y_goto (pc := 25) hC 2 d_Mo_mend_25 rfl ?_
      refine Y_sub (pc := 2) [1, 0] rfl ?_
      exact ih _ _ h
set_option maxHeartbeats 4000000 in
set_option maxRecDepth 100000 in
theorem ylp_Mo_mend_40 {C : YC} {r : Int32} {V' : Sto} {x1 : Int32} {k74 : Sto → RT} {k82 : Sto → RT} (hC : YF C R_Mo b_Mo_mend 3 rm_Mo_mend) (hw : YWr C shpM) (hE : YEi C .boolean shpM r V') (hk74 : ∀ (V1 : Sto), k74 V1 = some (r, V') → Y C shpM 3 74 [] [] V1) (hk82 : ∀ (V1 : Sto), k82 V1 = some (r, V') → Y C shpM 3 82 [(0, .ref (C.a 0)), (1, .int x1)] [] V1) : ∀ (n : Nat) (x2 : Int32) (V : Sto), lp_Mo_mend_40 x1 k74 k82 n x2 V = some (r, V') → Y C shpM 3 40 [(0, .ref (C.a 0)), (1, .int x1), (2, .int x2)] [] V := by
  intro n
  induction n with
  | zero =>
    intro x2 V h
    rw [lp_Mo_mend_40] at h
    cases h
  | succ n ih =>
    intro x2 V h
    rw [lp_Mo_mend_40] at h
    refine Y_aload_n (pc := 40) hC d_Mo_mend_40 rfl 0 rfl ?_
    refine Y_iload_n (pc := 41) hC d_Mo_mend_41 rfl 1 rfl ?_
    obtain ⟨r1, V3, hc_r1, h⟩ := cl_some h
    refine Y_callV (pc := 42) hC (c_Mo_stays C.l C.D C.cI C.cZ C.a hc_r1) (fun q => nomatch q) sm_0 cls_Mo ml_Mo_226 mv_Mo_stays (by decide) (Nat.le_of_ble_eq_true rfl) rfl d_Mo_mend_42 ?_
    refine Y_if_eq (pc := 45) hC 82 d_Mo_mend_45 rfl (fun cc_45 => ?_) (fun cc_45 => ?_)
    · have h := ifp cc_45 h
      refine Y_sub (pc := 82) [0, 1] rfl ?_
      exact hk82 _ h
    · have h := ifn cc_45 h
      refine Y_iload_n (pc := 48) hC d_Mo_mend_48 rfl 2 rfl ?_
      refine Y_aload_n (pc := 49) hC d_Mo_mend_49 rfl 0 rfl ?_
      refine Y_getI (pc := 50) hC sm_0 fl_Mo_167 rfl d_Mo_mend_50 ?_
      refine Y_icmp_ge (pc := 53) hC 82 d_Mo_mend_53 rfl (fun cc_53 => ?_) (fun cc_53 => ?_)
      · have h := ifp cc_53 h
        refine Y_sub (pc := 82) [0, 1] rfl ?_
        exact hk82 _ h
      · have h := ifn cc_53 h
        refine Y_aload_n (pc := 56) hC d_Mo_mend_56 rfl 0 rfl ?_
        refine Y_getR (pc := 57) hC sm_0 fl_Mo_54 rfl d_Mo_mend_57 ?_
        refine Y_iload_n (pc := 60) hC d_Mo_mend_60 rfl 2 rfl ?_
        obtain ⟨hi, h⟩ := ck_some h
        refine Y_iald (pc := 61) hC sm_15 rfl hi d_Mo_mend_61 ?_
        refine Y_iload_n (pc := 62) hC d_Mo_mend_62 rfl 1 rfl ?_
        refine Y_icmp_ne (pc := 63) hC 76 d_Mo_mend_63 rfl (fun cc_63 => ?_) (fun cc_63 => ?_)
        · have h := ifn cc_63 h
          refine Y_iinc (pc := 76) hC (v := x2 + 1) (L' := [(2, .int (x2 + 1)), (0, .ref (C.a 0)), (1, .int x1)]) d_Mo_mend_76 2 rfl rfl (by decide) rfl ?_
          refine Y_goto (pc := 79) hC 40 d_Mo_mend_79 rfl ?_
          refine Y_sub (pc := 40) [1, 2, 0] rfl ?_
          exact ih _ _ h
        · have h := ifp cc_63 h
          refine Y_aload_n (pc := 66) hC d_Mo_mend_66 rfl 0 rfl ?_
          refine Y_iload_n (pc := 67) hC d_Mo_mend_67 rfl 2 rfl ?_
          obtain ⟨r2, V4, hc_r2, h⟩ := cl_some h
          refine Y_callV (pc := 68) hC (c_Mo_mendOne C.l C.D C.cI C.cZ C.a hc_r2) (fun _ => hw) sm_0 cls_Mo ml_Mo_282 mv_Mo_mendOne (by decide) (Nat.le_of_ble_eq_true rfl) rfl d_Mo_mend_68 ?_
          refine Y_if_ne (pc := 71) hC 76 d_Mo_mend_71 rfl (fun cc_71 => ?_) (fun cc_71 => ?_)
          · have h := ifn cc_71 h
            refine Y_iinc (pc := 76) hC (v := x2 + 1) (L' := [(2, .int (x2 + 1)), (0, .ref (C.a 0)), (1, .int x1)]) d_Mo_mend_76 2 rfl rfl (by decide) rfl ?_
            refine Y_goto (pc := 79) hC 40 d_Mo_mend_79 rfl ?_
            refine Y_sub (pc := 40) [1, 2, 0] rfl ?_
            exact ih _ _ h
          · have h := ifp cc_71 h
            refine Y_sub (pc := 74) [] rfl ?_
            exact hk74 _ h
set_option maxHeartbeats 4000000 in
set_option maxRecDepth 100000 in
theorem ylp_Mo_mend_30 {C : YC} {r : Int32} {V' : Sto} {k74 : Sto → RT} {k88 : Sto → RT} (hC : YF C R_Mo b_Mo_mend 3 rm_Mo_mend) (hw : YWr C shpM) (hE : YEi C .boolean shpM r V') (hk74 : ∀ (V1 : Sto), k74 V1 = some (r, V') → Y C shpM 3 74 [] [] V1) (hk88 : ∀ (V1 : Sto), k88 V1 = some (r, V') → Y C shpM 3 88 [] [] V1) : ∀ (n : Nat) (x1 : Int32) (V : Sto), lp_Mo_mend_30 k74 k88 n x1 V = some (r, V') → Y C shpM 3 30 [(0, .ref (C.a 0)), (1, .int x1)] [] V := by
  intro n
  induction n with
  | zero =>
    intro x1 V h
    rw [lp_Mo_mend_30] at h
    cases h
  | succ n ih =>
    intro x1 V h
    rw [lp_Mo_mend_30] at h
    refine Y_iload_n (pc := 30) hC d_Mo_mend_30 rfl 1 rfl ?_
    refine Y_aload_n (pc := 31) hC d_Mo_mend_31 rfl 0 rfl ?_
    refine Y_getI (pc := 32) hC sm_0 fl_Mo_143 rfl d_Mo_mend_32 ?_
    refine Y_icmp_ge (pc := 35) hC 88 d_Mo_mend_35 rfl (fun cc_35 => ?_) (fun cc_35 => ?_)
    · have h := ifp cc_35 h
      refine Y_sub (pc := 88) [] rfl ?_
      exact hk88 _ h
    · have h := ifn cc_35 h
      refine Y_iconst (pc := 38) hC d_Mo_mend_38 ki_0 ?_
      refine Y_istore_n (pc := 39) hC (L' := [(2, .int 0), (0, .ref (C.a 0)), (1, .int x1)]) d_Mo_mend_39 rfl (by decide) rfl ?_
      refine Y_sub (pc := 40) [1, 2, 0] rfl ?_
      refine ylp_Mo_mend_40 hC hw hE (fun V5 h => ?_) (fun V6 h => ?_) FU _ _ h
      · have h := h
        refine Y_sub (pc := 74) [] rfl ?_
        exact hk74 _ h
      · have h := h
        refine Y_iinc (pc := 82) hC (v := x1 + 1) (L' := [(1, .int (x1 + 1)), (0, .ref (C.a 0))]) d_Mo_mend_82 1 rfl rfl (by decide) rfl ?_
        refine Y_goto (pc := 85) hC 30 d_Mo_mend_85 rfl ?_
        refine Y_sub (pc := 30) [1, 0] rfl ?_
        exact ih _ _ h
set_option maxHeartbeats 4000000 in
set_option maxRecDepth 100000 in
theorem c_Mo_mend (l : Launch) (D : va_G) (cI cZ : ClassId) (a : Nat → Nat) {V : Sto} {r : Int32} {V' : Sto} (h : f_Mo_mend V = some (r, V')) : YMi l D cI cZ a shpM y_Mo_mend b_Mo_mend 3 (some .boolean) rm_Mo_mend true [.ref (a 0)] V r V' := by
  refine YMi_of (by decide) (Nat.le_of_ble_eq_true rfl) ?_
  intro C hl hDD hcI hcZ ha hC hw hE
  subst hl hDD hcI hcZ ha
  show Y C shpM 3 0 [(0, .ref (C.a 0))] [] V
  have hw := hw rfl
  rw [f_Mo_mend] at h
  refine Y_iconst (pc := 0) hC d_Mo_mend_0 ki_0 ?_
  refine Y_istore_n (pc := 1) hC (L' := [(1, .int 0), (0, .ref (C.a 0))]) d_Mo_mend_1 rfl (by decide) rfl ?_
  refine Y_sub (pc := 2) [1, 0] rfl ?_
  refine ylp_Mo_mend_2 hC hw hE (fun V2 h => ?_) FU _ _ h
  refine Y_iconst (pc := 28) hC d_Mo_mend_28 ki_0 ?_
  refine Y_istore_n (pc := 29) hC (L' := [(1, .int 0), (0, .ref (C.a 0))]) d_Mo_mend_29 rfl (by decide) rfl ?_
  refine Y_sub (pc := 30) [1, 0] rfl ?_
  refine ylp_Mo_mend_30 hC hw hE (fun V7 h => ?_) (fun V8 h => ?_) FU _ _ h
  · have h := h
    refine Y_iconst (pc := 74) hC d_Mo_mend_74 ki_0 ?_
    exact Y_zret (pc := 75) hC hE d_Mo_mend_75 rfl h
  · have h := h
    refine Y_iconst (pc := 88) hC d_Mo_mend_88 ki_1 ?_
    exact Y_zret (pc := 89) hC hE d_Mo_mend_89 rfl h
set_option maxHeartbeats 4000000 in
set_option maxRecDepth 100000 in
theorem c_Mo_link (l : Launch) (D : va_G) (cI cZ : ClassId) (a : Nat → Nat) {V : Sto} {p1 : Int32} {r : Int32} {V' : Sto} (h : f_Mo_link V p1 = some (r, V')) : YMi l D cI cZ a shpM y_Mo_link b_Mo_link 3 (some .int) rm_Mo_link true [.ref (a 0), .int p1] V r V' := by
  refine YMi_of (by decide) (Nat.le_of_ble_eq_true rfl) ?_
  intro C hl hDD hcI hcZ ha hC hw hE
  subst hl hDD hcI hcZ ha
  show Y C shpM 3 0 [(0, .ref (C.a 0)), (1, .int p1)] [] V
  have hw := hw rfl
  rw [f_Mo_link] at h
  refine Y_aload_n (pc := 0) hC d_Mo_link_0 rfl 0 rfl ?_
  refine Y_iload_n (pc := 1) hC d_Mo_link_1 rfl 1 rfl ?_
  refine Y_iconst (pc := 2) hC d_Mo_link_2 ki_0 ?_
  refine Y_ldcw (pc := 3) hC kc_Mo_290 d_Mo_link_3 ?_
  obtain ⟨r1, V1, hc_r1, h⟩ := cl_some h
  refine Y_callS (pc := 6) hC (c_Mo_within C.l C.D C.cI C.cZ C.a hc_r1) (fun q => nomatch q) ml_Mo_125 ms_Mo_within (by decide) (Nat.le_of_ble_eq_true rfl) rfl d_Mo_link_6 ?_
  obtain ⟨j1, hj1, h⟩ := jn_some h
  have kj1 : ∀ (z1 : Int32), j1 z1 = some (r, V') → Y C shpM 3 25 [(0, .ref (C.a 0)), (1, .int p1)] [.int z1, .ref (C.a 0)] V1 := by
    intro z1 h
    subst hj1
    dsimp only at h
    refine Y_iconst (pc := 25) hC d_Mo_link_25 ki_0 ?_
    obtain ⟨r2, V2, hc_r2, h⟩ := cl_some h
    refine Y_callV (pc := 26) hC (c_Mo_refuse C.l C.D C.cI C.cZ C.a hc_r2) (fun _ => hw) sm_0 cls_Mo ml_Mo_132 mv_Mo_refuse (by decide) (Nat.le_of_ble_eq_true rfl) rfl d_Mo_link_26 ?_
    refine Y_if_eq (pc := 29) hC 34 d_Mo_link_29 rfl (fun cc_29 => ?_) (fun cc_29 => ?_)
    · have h := ifp cc_29 h
      refine Y_aload_n (pc := 34) hC d_Mo_link_34 rfl 0 rfl ?_
      obtain ⟨r3, V3, hc_r3, h⟩ := cl_some h
      refine Y_callVv (pc := 35) hC (c_Mo_told C.l C.D C.cI C.cZ C.a hc_r3) (fun _ => hw) sm_0 cls_Mo ml_Mo_136 mv_Mo_told (by decide) (Nat.le_of_ble_eq_true rfl) rfl d_Mo_link_35 ?_
      refine Y_aload_n (pc := 38) hC d_Mo_link_38 rfl 0 rfl ?_
      refine Y_iload_n (pc := 39) hC d_Mo_link_39 rfl 1 rfl ?_
      obtain ⟨V4, hV4, h⟩ := nm_some h
      refine Y_put (pc := 40) hC sm_0 fl_Mo_235 rfl (by decide) fp_Mo ft_Mo_33 rfl rfl hw hV4 d_Mo_link_40 ?_
      refine Y_aload_n (pc := 43) hC d_Mo_link_43 rfl 0 rfl ?_
      obtain ⟨r4, V5, hc_r4, h⟩ := cl_some h
      refine Y_callVv (pc := 44) hC (c_Mo_findIn C.l C.D C.cI C.cZ C.a hc_r4) (fun _ => hw) sm_0 cls_Mo ml_Mo_291 mv_Mo_findIn (by decide) (Nat.le_of_ble_eq_true rfl) rfl d_Mo_link_44 ?_
      refine Y_aload_n (pc := 47) hC d_Mo_link_47 rfl 0 rfl ?_
      obtain ⟨r5, V6, hc_r5, h⟩ := cl_some h
      refine Y_callV (pc := 48) hC (c_Mo_define C.l C.D C.cI C.cZ C.a hc_r5) (fun _ => hw) sm_0 cls_Mo ml_Mo_294 mv_Mo_define (by decide) (Nat.le_of_ble_eq_true rfl) rfl d_Mo_link_48 ?_
      obtain ⟨j2, hj2, h⟩ := jn_some h
      have kj2 : ∀ (z2 : Int32) (V8 : Sto), j2 z2 V8 = some (r, V') → Y C shpM 3 66 [(0, .ref (C.a 0))] [.int z2] V8 := by
        intro z2 V8 h
        subst hj2
        dsimp only at h
        refine Y_istore_n (pc := 66) hC (L' := [(2, .int z2), (0, .ref (C.a 0))]) d_Mo_link_66 rfl (by decide) rfl ?_
        refine Y_iload_n (pc := 67) hC d_Mo_link_67 rfl 0 rfl ?_
        obtain ⟨j3, hj3, h⟩ := jn_some h
        have kj3 : ∀ (z4 : Int32) (V14 : Sto), j3 z4 V14 = some (r, V') → Y C shpM 3 102 [(0, .ref (C.a 0)), (2, .int z4)] [] V14 := by
          intro z4 V14 h
          subst hj3
          dsimp only at h
          refine Y_aload_n (pc := 102) hC d_Mo_link_102 rfl 0 rfl ?_
          refine Y_iload_n (pc := 103) hC d_Mo_link_103 rfl 1 rfl ?_
          obtain ⟨hbb, h⟩ := ck_some h
          obtain ⟨V15, hV15, h⟩ := nm_some h
          refine Y_put (pc := 104) hC sm_0 fl_Mo_118 rfl (by decide) fp_Mo ft_Mo_29 (bb_nar hbb) (bb_fit hbb) hw hV15 d_Mo_link_104 ?_
          refine Y_iload_n (pc := 107) hC d_Mo_link_107 rfl 1 rfl ?_
          refine Y_if_eq (pc := 108) hC 123 d_Mo_link_108 rfl (fun cc_108 => ?_) (fun cc_108 => ?_)
          · have h := ifp cc_108 h
            refine Y_iconst (pc := 123) hC d_Mo_link_123 ki_m1 ?_
            exact Y_iret (pc := 124) hC hE d_Mo_link_124 h
          · have h := ifn cc_108 h
            refine Y_aload_n (pc := 111) hC d_Mo_link_111 rfl 0 rfl ?_
            refine Y_getI (pc := 112) hC sm_0 fl_Mo_247 rfl d_Mo_link_112 ?_
            refine Y_aload_n (pc := 115) hC d_Mo_link_115 rfl 0 rfl ?_
            refine Y_getI (pc := 116) hC sm_0 fl_Mo_235 rfl d_Mo_link_116 ?_
            refine Y_isub (pc := 119) hC d_Mo_link_119 ?_
            refine Y_goto (pc := 120) hC 124 d_Mo_link_120 rfl ?_
            exact Y_iret (pc := 124) hC hE d_Mo_link_124 h
        refine Y_if_eq (pc := 68) hC 102 d_Mo_link_68 rfl (fun cc_68 => ?_) (fun cc_68 => ?_)
        · have h := ifp cc_68 h
          refine Y_sub (pc := 102) [1, 0] rfl ?_
          exact kj3 _ _ h
        · have h := ifn cc_68 h
          refine Y_aload_n (pc := 71) hC d_Mo_link_71 rfl 1 rfl ?_
          obtain ⟨r7, V9, hc_r7, h⟩ := cl_some h
          refine Y_callVv (pc := 72) hC (c_Mo_findLike C.l C.D C.cI C.cZ C.a hc_r7) (fun _ => hw) sm_0 cls_Mo ml_Mo_301 mv_Mo_findLike (by decide) (Nat.le_of_ble_eq_true rfl) rfl d_Mo_link_72 ?_
          refine Y_aload_n (pc := 75) hC d_Mo_link_75 rfl 1 rfl ?_
          obtain ⟨r8, V10, hc_r8, h⟩ := cl_some h
          refine Y_callV (pc := 76) hC (c_Mo_findIslands C.l C.D C.cI C.cZ C.a hc_r8) (fun _ => hw) sm_0 cls_Mo ml_Mo_304 mv_Mo_findIslands (by decide) (Nat.le_of_ble_eq_true rfl) rfl d_Mo_link_76 ?_
          obtain ⟨j4, hj4, h⟩ := jn_some h
          have kj4 : ∀ (z3 : Int32) (V13 : Sto), j4 z3 V13 = some (r, V') → Y C shpM 3 101 [(0, .ref (C.a 0))] [.int z3] V13 := by
            intro z3 V13 h
            subst hj4
            dsimp only at h
            refine Y_istore_n (pc := 101) hC (L' := [(2, .int z3), (0, .ref (C.a 0))]) d_Mo_link_101 rfl (by decide) rfl ?_
            refine Y_sub (pc := 102) [1, 0] rfl ?_
            exact kj3 _ _ h
          refine Y_if_eq (pc := 79) hC 100 d_Mo_link_79 rfl (fun cc_79 => ?_) (fun cc_79 => ?_)
          · have h := ifp cc_79 h
            refine Y_iconst (pc := 100) hC d_Mo_link_100 ki_0 ?_
            refine Y_sub (pc := 101) [1] rfl ?_
            exact kj4 _ _ h
          · have h := ifn cc_79 h
            refine Y_aload_n (pc := 82) hC d_Mo_link_82 rfl 1 rfl ?_
            obtain ⟨r9, V11, hc_r9, h⟩ := cl_some h
            refine Y_callV (pc := 83) hC (c_Mo_checkFar C.l C.D C.cI C.cZ C.a hc_r9) (fun _ => hw) sm_0 cls_Mo ml_Mo_307 mv_Mo_checkFar (by decide) (Nat.le_of_ble_eq_true rfl) rfl d_Mo_link_83 ?_
            refine Y_if_eq (pc := 86) hC 100 d_Mo_link_86 rfl (fun cc_86 => ?_) (fun cc_86 => ?_)
            · have h := ifp cc_86 h
              refine Y_iconst (pc := 100) hC d_Mo_link_100 ki_0 ?_
              refine Y_sub (pc := 101) [1] rfl ?_
              exact kj4 _ _ h
            · have h := ifn cc_86 h
              refine Y_aload_n (pc := 89) hC d_Mo_link_89 rfl 1 rfl ?_
              obtain ⟨r10, V12, hc_r10, h⟩ := cl_some h
              refine Y_callV (pc := 90) hC (c_Mo_mend C.l C.D C.cI C.cZ C.a hc_r10) (fun _ => hw) sm_0 cls_Mo ml_Mo_310 mv_Mo_mend (by decide) (Nat.le_of_ble_eq_true rfl) rfl d_Mo_link_90 ?_
              refine Y_if_eq (pc := 93) hC 100 d_Mo_link_93 rfl (fun cc_93 => ?_) (fun cc_93 => ?_)
              · have h := ifp cc_93 h
                refine Y_iconst (pc := 100) hC d_Mo_link_100 ki_0 ?_
                refine Y_sub (pc := 101) [1] rfl ?_
                exact kj4 _ _ h
              · have h := ifn cc_93 h
                refine Y_iconst (pc := 96) hC d_Mo_link_96 ki_1 ?_
                refine Y_goto (pc := 97) hC 101 d_Mo_link_97 rfl ?_
                refine Y_sub (pc := 101) [1] rfl ?_
                exact kj4 _ _ h
      refine Y_if_eq (pc := 51) hC 65 d_Mo_link_51 rfl (fun cc_51 => ?_) (fun cc_51 => ?_)
      · have h := ifp cc_51 h
        refine Y_iconst (pc := 65) hC d_Mo_link_65 ki_0 ?_
        refine Y_sub (pc := 66) [0] rfl ?_
        exact kj2 _ _ h
      · have h := ifn cc_51 h
        refine Y_aload_n (pc := 54) hC d_Mo_link_54 rfl 0 rfl ?_
        obtain ⟨r6, V7, hc_r6, h⟩ := cl_some h
        refine Y_callV (pc := 55) hC (c_Mo_reach C.l C.D C.cI C.cZ C.a hc_r6) (fun _ => hw) sm_0 cls_Mo ml_Mo_298 mv_Mo_reach (by decide) (Nat.le_of_ble_eq_true rfl) rfl d_Mo_link_55 ?_
        refine Y_if_eq (pc := 58) hC 65 d_Mo_link_58 rfl (fun cc_58 => ?_) (fun cc_58 => ?_)
        · have h := ifp cc_58 h
          refine Y_iconst (pc := 65) hC d_Mo_link_65 ki_0 ?_
          refine Y_sub (pc := 66) [0] rfl ?_
          exact kj2 _ _ h
        · have h := ifn cc_58 h
          refine Y_iconst (pc := 61) hC d_Mo_link_61 ki_1 ?_
          refine Y_goto (pc := 62) hC 66 d_Mo_link_62 rfl ?_
          refine Y_sub (pc := 66) [0] rfl ?_
          exact kj2 _ _ h
    · have h := ifn cc_29 h
      refine Y_iconst (pc := 32) hC d_Mo_link_32 ki_0 ?_
      exact Y_iret (pc := 33) hC hE d_Mo_link_33 h
  refine Y_if_eq (pc := 9) hC 20 d_Mo_link_9 rfl (fun cc_9 => ?_) (fun cc_9 => ?_)
  · have h := ifp cc_9 h
    refine Y_iconst (pc := 20) hC d_Mo_link_20 ki_1 ?_
    refine Y_goto (pc := 21) hC 25 d_Mo_link_21 rfl ?_
    refine Y_sub (pc := 25) [0, 1] rfl ?_
    exact kj1 _ h
  · have h := ifn cc_9 h
    refine Y_iload_n (pc := 12) hC d_Mo_link_12 rfl 1 rfl ?_
    refine Y_sipush (pc := 13) hC d_Mo_link_13 ks_4096 ?_
    refine Y_irem (pc := 16) hC d_Mo_link_16 (by decide) ?_
    refine Y_if_eq (pc := 17) hC 24 d_Mo_link_17 rfl (fun cc_17 => ?_) (fun cc_17 => ?_)
    · have h := ifp cc_17 h
      refine Y_iconst (pc := 24) hC d_Mo_link_24 ki_0 ?_
      refine Y_sub (pc := 25) [0, 1] rfl ?_
      exact kj1 _ h
    · have h := ifn cc_17 h
      refine Y_iconst (pc := 20) hC d_Mo_link_20 ki_1 ?_
      refine Y_goto (pc := 21) hC 25 d_Mo_link_21 rfl ?_
      refine Y_sub (pc := 25) [0, 1] rfl ?_
      exact kj1 _ h
set_option maxHeartbeats 4000000 in
set_option maxRecDepth 100000 in
theorem c_Mo_fault (l : Launch) (D : va_G) (cI cZ : ClassId) (a : Nat → Nat) {V : Sto} {p1 : Int32} {r : Int32} {V' : Sto} (h : f_Mo_fault V p1 = some (r, V')) : YMi l D cI cZ a shpM y_Mo_fault b_Mo_fault 2 (some .int) rm_Mo_fault true [.ref (a 0), .int p1] V r V' := by
  refine YMi_of (by decide) (Nat.le_of_ble_eq_true rfl) ?_
  intro C hl hDD hcI hcZ ha hC hw hE
  subst hl hDD hcI hcZ ha
  show Y C shpM 2 0 [(0, .ref (C.a 0)), (1, .int p1)] [] V
  have hw := hw rfl
  rw [f_Mo_fault] at h
  refine Y_aload_n (pc := 0) hC d_Mo_fault_0 rfl 0 rfl ?_
  refine Y_iload_n (pc := 1) hC d_Mo_fault_1 rfl 1 rfl ?_
  refine Y_iconst (pc := 2) hC d_Mo_fault_2 ki_0 ?_
  refine Y_iconst (pc := 3) hC d_Mo_fault_3 ki_2 ?_
  obtain ⟨r1, V1, hc_r1, h⟩ := cl_some h
  refine Y_callS (pc := 4) hC (c_Mo_within C.l C.D C.cI C.cZ C.a hc_r1) (fun q => nomatch q) ml_Mo_125 ms_Mo_within (by decide) (Nat.le_of_ble_eq_true rfl) rfl d_Mo_fault_4 ?_
  obtain ⟨j1, hj1, h⟩ := jn_some h
  have kj1 : ∀ (z1 : Int32), j1 z1 = some (r, V') → Y C shpM 2 15 [(0, .ref (C.a 0)), (1, .int p1)] [.int z1, .ref (C.a 0)] V1 := by
    intro z1 h
    subst hj1
    dsimp only at h
    refine Y_iconst (pc := 15) hC d_Mo_fault_15 ki_0 ?_
    obtain ⟨r2, V2, hc_r2, h⟩ := cl_some h
    refine Y_callV (pc := 16) hC (c_Mo_refuse C.l C.D C.cI C.cZ C.a hc_r2) (fun _ => hw) sm_0 cls_Mo ml_Mo_132 mv_Mo_refuse (by decide) (Nat.le_of_ble_eq_true rfl) rfl d_Mo_fault_16 ?_
    refine Y_if_eq (pc := 19) hC 24 d_Mo_fault_19 rfl (fun cc_19 => ?_) (fun cc_19 => ?_)
    · have h := ifp cc_19 h
      refine Y_iload_n (pc := 24) hC d_Mo_fault_24 rfl 1 rfl ?_
      refine Y_if_ne (pc := 25) hC 35 d_Mo_fault_25 rfl (fun cc_25 => ?_) (fun cc_25 => ?_)
      · have h := ifn cc_25 h
        refine Y_iload_n (pc := 35) hC d_Mo_fault_35 rfl 1 rfl ?_
        refine Y_iconst (pc := 36) hC d_Mo_fault_36 ki_1 ?_
        refine Y_icmp_ne (pc := 37) hC 47 d_Mo_fault_37 rfl (fun cc_37 => ?_) (fun cc_37 => ?_)
        · have h := ifn cc_37 h
          refine Y_aload_n (pc := 47) hC d_Mo_fault_47 rfl 0 rfl ?_
          refine Y_getI (pc := 48) hC sm_0 fl_Mo_76 rfl d_Mo_fault_48 ?_
          exact Y_iret (pc := 51) hC hE d_Mo_fault_51 h
        · have h := ifp cc_37 h
          refine Y_aload_n (pc := 40) hC d_Mo_fault_40 rfl 0 rfl ?_
          refine Y_getI (pc := 41) hC sm_0 fl_Mo_73 rfl d_Mo_fault_41 ?_
          refine Y_goto (pc := 44) hC 51 d_Mo_fault_44 rfl ?_
          exact Y_iret (pc := 51) hC hE d_Mo_fault_51 h
      · have h := ifp cc_25 h
        refine Y_aload_n (pc := 28) hC d_Mo_fault_28 rfl 0 rfl ?_
        refine Y_getI (pc := 29) hC sm_0 fl_Mo_122 rfl d_Mo_fault_29 ?_
        refine Y_goto (pc := 32) hC 51 d_Mo_fault_32 rfl ?_
        exact Y_iret (pc := 51) hC hE d_Mo_fault_51 h
    · have h := ifn cc_19 h
      refine Y_iconst (pc := 22) hC d_Mo_fault_22 ki_0 ?_
      exact Y_iret (pc := 23) hC hE d_Mo_fault_23 h
  refine Y_if_ne (pc := 7) hC 14 d_Mo_fault_7 rfl (fun cc_7 => ?_) (fun cc_7 => ?_)
  · have h := ifn cc_7 h
    refine Y_iconst (pc := 14) hC d_Mo_fault_14 ki_0 ?_
    refine Y_sub (pc := 15) [0, 1] rfl ?_
    exact kj1 _ h
  · have h := ifp cc_7 h
    refine Y_iconst (pc := 10) hC d_Mo_fault_10 ki_1 ?_
    refine Y_goto (pc := 11) hC 15 d_Mo_fault_11 rfl ?_
    refine Y_sub (pc := 15) [0, 1] rfl ?_
    exact kj1 _ h
set_option maxHeartbeats 4000000 in
set_option maxRecDepth 100000 in
theorem c_Mo_isIn (l : Launch) (D : va_G) (cI cZ : ClassId) (a : Nat → Nat) {V : Sto} {p1 : Int32} {r : Int32} {V' : Sto} (h : f_Mo_isIn V p1 = some (r, V')) : YMi l D cI cZ a shpM y_Mo_isIn b_Mo_isIn 2 (some .boolean) rm_Mo_isIn true [.ref (a 0), .int p1] V r V' := by
  refine YMi_of (by decide) (Nat.le_of_ble_eq_true rfl) ?_
  intro C hl hDD hcI hcZ ha hC hw hE
  subst hl hDD hcI hcZ ha
  show Y C shpM 2 0 [(0, .ref (C.a 0)), (1, .int p1)] [] V
  have hw := hw rfl
  rw [f_Mo_isIn] at h
  refine Y_aload_n (pc := 0) hC d_Mo_isIn_0 rfl 0 rfl ?_
  refine Y_aload_n (pc := 1) hC d_Mo_isIn_1 rfl 0 rfl ?_
  refine Y_getI (pc := 2) hC sm_0 fl_Mo_118 rfl d_Mo_isIn_2 ?_
  obtain ⟨j1, hj1, h⟩ := jn_some h
  have kj1 : ∀ (z1 : Int32), j1 z1 = some (r, V') → Y C shpM 2 13 [(0, .ref (C.a 0)), (1, .int p1)] [.int z1, .ref (C.a 0)] V := by
    intro z1 h
    subst hj1
    dsimp only at h
    refine Y_aload_n (pc := 13) hC d_Mo_isIn_13 rfl 0 rfl ?_
    refine Y_getI (pc := 14) hC sm_0 fl_Mo_118 rfl d_Mo_isIn_14 ?_
    refine Y_if_eq (pc := 17) hC 38 d_Mo_isIn_17 rfl (fun cc_17 => ?_) (fun cc_17 => ?_)
    · have h := ifp cc_17 h
      refine Y_iconst (pc := 38) hC d_Mo_isIn_38 ki_0 ?_
      obtain ⟨r1, V1, hc_r1, h⟩ := cl_some h
      refine Y_callV (pc := 39) hC (c_Mo_refuse C.l C.D C.cI C.cZ C.a hc_r1) (fun _ => hw) sm_0 cls_Mo ml_Mo_132 mv_Mo_refuse (by decide) (Nat.le_of_ble_eq_true rfl) rfl d_Mo_isIn_39 ?_
      refine Y_if_eq (pc := 42) hC 47 d_Mo_isIn_42 rfl (fun cc_42 => ?_) (fun cc_42 => ?_)
      · have h := ifp cc_42 h
        refine Y_aload_n (pc := 47) hC d_Mo_isIn_47 rfl 0 rfl ?_
        refine Y_getR (pc := 48) hC sm_0 fl_Mo_79 rfl d_Mo_isIn_48 ?_
        refine Y_iload_n (pc := 51) hC d_Mo_isIn_51 rfl 1 rfl ?_
        obtain ⟨hi, h⟩ := ck_some h
        refine Y_zald (pc := 52) hC sm_20 rfl hi d_Mo_isIn_52 ?_
        obtain ⟨hbb, h⟩ := ck_some h
        exact Y_zret (pc := 53) hC hE d_Mo_isIn_53 hbb h
      · have h := ifn cc_42 h
        refine Y_iconst (pc := 45) hC d_Mo_isIn_45 ki_0 ?_
        exact Y_zret (pc := 46) hC hE d_Mo_isIn_46 rfl h
    · have h := ifn cc_17 h
      refine Y_iload_n (pc := 20) hC d_Mo_isIn_20 rfl 1 rfl ?_
      refine Y_iconst (pc := 21) hC d_Mo_isIn_21 ki_0 ?_
      refine Y_aload_n (pc := 22) hC d_Mo_isIn_22 rfl 0 rfl ?_
      refine Y_getI (pc := 23) hC sm_0 fl_Mo_129 rfl d_Mo_isIn_23 ?_
      refine Y_iconst (pc := 26) hC d_Mo_isIn_26 ki_1 ?_
      refine Y_isub (pc := 27) hC d_Mo_isIn_27 ?_
      obtain ⟨r2, V2, hc_r2, h⟩ := cl_some h
      refine Y_callS (pc := 28) hC (c_Mo_within C.l C.D C.cI C.cZ C.a hc_r2) (fun q => nomatch q) ml_Mo_125 ms_Mo_within (by decide) (Nat.le_of_ble_eq_true rfl) rfl d_Mo_isIn_28 ?_
      refine Y_if_ne (pc := 31) hC 38 d_Mo_isIn_31 rfl (fun cc_31 => ?_) (fun cc_31 => ?_)
      · have h := ifn cc_31 h
        refine Y_iconst (pc := 38) hC d_Mo_isIn_38 ki_0 ?_
        obtain ⟨r3, V3, hc_r3, h⟩ := cl_some h
        refine Y_callV (pc := 39) hC (c_Mo_refuse C.l C.D C.cI C.cZ C.a hc_r3) (fun _ => hw) sm_0 cls_Mo ml_Mo_132 mv_Mo_refuse (by decide) (Nat.le_of_ble_eq_true rfl) rfl d_Mo_isIn_39 ?_
        refine Y_if_eq (pc := 42) hC 47 d_Mo_isIn_42 rfl (fun cc_42 => ?_) (fun cc_42 => ?_)
        · have h := ifp cc_42 h
          refine Y_aload_n (pc := 47) hC d_Mo_isIn_47 rfl 0 rfl ?_
          refine Y_getR (pc := 48) hC sm_0 fl_Mo_79 rfl d_Mo_isIn_48 ?_
          refine Y_iload_n (pc := 51) hC d_Mo_isIn_51 rfl 1 rfl ?_
          obtain ⟨hi, h⟩ := ck_some h
          refine Y_zald (pc := 52) hC sm_20 rfl hi d_Mo_isIn_52 ?_
          obtain ⟨hbb, h⟩ := ck_some h
          exact Y_zret (pc := 53) hC hE d_Mo_isIn_53 hbb h
        · have h := ifn cc_42 h
          refine Y_iconst (pc := 45) hC d_Mo_isIn_45 ki_0 ?_
          exact Y_zret (pc := 46) hC hE d_Mo_isIn_46 rfl h
      · have h := ifp cc_31 h
        refine Y_iconst (pc := 34) hC d_Mo_isIn_34 ki_1 ?_
        refine Y_goto (pc := 35) hC 39 d_Mo_isIn_35 rfl ?_
        obtain ⟨r4, V4, hc_r4, h⟩ := cl_some h
        refine Y_callV (pc := 39) hC (c_Mo_refuse C.l C.D C.cI C.cZ C.a hc_r4) (fun _ => hw) sm_0 cls_Mo ml_Mo_132 mv_Mo_refuse (by decide) (Nat.le_of_ble_eq_true rfl) rfl d_Mo_isIn_39 ?_
        refine Y_if_eq (pc := 42) hC 47 d_Mo_isIn_42 rfl (fun cc_42 => ?_) (fun cc_42 => ?_)
        · have h := ifp cc_42 h
          refine Y_aload_n (pc := 47) hC d_Mo_isIn_47 rfl 0 rfl ?_
          refine Y_getR (pc := 48) hC sm_0 fl_Mo_79 rfl d_Mo_isIn_48 ?_
          refine Y_iload_n (pc := 51) hC d_Mo_isIn_51 rfl 1 rfl ?_
          obtain ⟨hi, h⟩ := ck_some h
          refine Y_zald (pc := 52) hC sm_20 rfl hi d_Mo_isIn_52 ?_
          obtain ⟨hbb, h⟩ := ck_some h
          exact Y_zret (pc := 53) hC hE d_Mo_isIn_53 hbb h
        · have h := ifn cc_42 h
          refine Y_iconst (pc := 45) hC d_Mo_isIn_45 ki_0 ?_
          exact Y_zret (pc := 46) hC hE d_Mo_isIn_46 rfl h
  refine Y_if_ne (pc := 5) hC 12 d_Mo_isIn_5 rfl (fun cc_5 => ?_) (fun cc_5 => ?_)
  · have h := ifn cc_5 h
    refine Y_iconst (pc := 12) hC d_Mo_isIn_12 ki_0 ?_
    refine Y_sub (pc := 13) [0, 1] rfl ?_
    exact kj1 _ h
  · have h := ifp cc_5 h
    refine Y_iconst (pc := 8) hC d_Mo_isIn_8 ki_1 ?_
    refine Y_goto (pc := 9) hC 13 d_Mo_isIn_9 rfl ?_
    refine Y_sub (pc := 13) [0, 1] rfl ?_
    exact kj1 _ h
set_option maxHeartbeats 4000000 in
set_option maxRecDepth 100000 in
theorem c_Mo_address (l : Launch) (D : va_G) (cI cZ : ClassId) (a : Nat → Nat) {V : Sto} {p1 : Int32} {r : Int32} {V' : Sto} (h : f_Mo_address V p1 = some (r, V')) : YMi l D cI cZ a shpM y_Mo_address b_Mo_address 2 (some .int) rm_Mo_address true [.ref (a 0), .int p1] V r V' := by
  refine YMi_of (by decide) (Nat.le_of_ble_eq_true rfl) ?_
  intro C hl hDD hcI hcZ ha hC hw hE
  subst hl hDD hcI hcZ ha
  show Y C shpM 2 0 [(0, .ref (C.a 0)), (1, .int p1)] [] V
  have hw := hw rfl
  rw [f_Mo_address] at h
  refine Y_aload_n (pc := 0) hC d_Mo_address_0 rfl 0 rfl ?_
  refine Y_aload_n (pc := 1) hC d_Mo_address_1 rfl 0 rfl ?_
  refine Y_getI (pc := 2) hC sm_0 fl_Mo_118 rfl d_Mo_address_2 ?_
  obtain ⟨j1, hj1, h⟩ := jn_some h
  have kj1 : ∀ (z1 : Int32), j1 z1 = some (r, V') → Y C shpM 2 13 [(0, .ref (C.a 0)), (1, .int p1)] [.int z1, .ref (C.a 0)] V := by
    intro z1 h
    subst hj1
    dsimp only at h
    refine Y_aload_n (pc := 13) hC d_Mo_address_13 rfl 0 rfl ?_
    refine Y_getI (pc := 14) hC sm_0 fl_Mo_118 rfl d_Mo_address_14 ?_
    obtain ⟨j2, hj2, h⟩ := jn_some h
    have kj2 : ∀ (z2 : Int32) (V2 : Sto), j2 z2 V2 = some (r, V') → Y C shpM 2 39 [(0, .ref (C.a 0)), (1, .int p1)] [.int z2, .int z1, .ref (C.a 0)] V2 := by
      intro z2 V2 h
      subst hj2
      dsimp only at h
      obtain ⟨r2, V3, hc_r2, h⟩ := cl_some h
      refine Y_callV (pc := 39) hC (c_Mo_refuse C.l C.D C.cI C.cZ C.a hc_r2) (fun _ => hw) sm_0 cls_Mo ml_Mo_132 mv_Mo_refuse (by decide) (Nat.le_of_ble_eq_true rfl) rfl d_Mo_address_39 ?_
      refine Y_if_eq (pc := 42) hC 47 d_Mo_address_42 rfl (fun cc_42 => ?_) (fun cc_42 => ?_)
      · have h := ifp cc_42 h
        refine Y_aload_n (pc := 47) hC d_Mo_address_47 rfl 0 rfl ?_
        refine Y_getR (pc := 48) hC sm_0 fl_Mo_94 rfl d_Mo_address_48 ?_
        refine Y_iload_n (pc := 51) hC d_Mo_address_51 rfl 1 rfl ?_
        obtain ⟨hi, h⟩ := ck_some h
        refine Y_zald (pc := 52) hC sm_25 rfl hi d_Mo_address_52 ?_
        refine Y_if_eq (pc := 53) hC 65 d_Mo_address_53 rfl (fun cc_53 => ?_) (fun cc_53 => ?_)
        · have h := ifp cc_53 h
          refine Y_iconst (pc := 65) hC d_Mo_address_65 ki_m1 ?_
          exact Y_iret (pc := 66) hC hE d_Mo_address_66 h
        · have h := ifn cc_53 h
          refine Y_aload_n (pc := 56) hC d_Mo_address_56 rfl 0 rfl ?_
          refine Y_getR (pc := 57) hC sm_0 fl_Mo_100 rfl d_Mo_address_57 ?_
          refine Y_iload_n (pc := 60) hC d_Mo_address_60 rfl 1 rfl ?_
          obtain ⟨hi, h⟩ := ck_some h
          refine Y_iald (pc := 61) hC sm_27 rfl hi d_Mo_address_61 ?_
          refine Y_goto (pc := 62) hC 66 d_Mo_address_62 rfl ?_
          exact Y_iret (pc := 66) hC hE d_Mo_address_66 h
      · have h := ifn cc_42 h
        refine Y_iconst (pc := 45) hC d_Mo_address_45 ki_0 ?_
        exact Y_iret (pc := 46) hC hE d_Mo_address_46 h
    refine Y_if_eq (pc := 17) hC 38 d_Mo_address_17 rfl (fun cc_17 => ?_) (fun cc_17 => ?_)
    · have h := ifp cc_17 h
      refine Y_iconst (pc := 38) hC d_Mo_address_38 ki_0 ?_
      refine Y_sub (pc := 39) [0, 1] rfl ?_
      exact kj2 _ _ h
    · have h := ifn cc_17 h
      refine Y_iload_n (pc := 20) hC d_Mo_address_20 rfl 1 rfl ?_
      refine Y_iconst (pc := 21) hC d_Mo_address_21 ki_0 ?_
      refine Y_aload_n (pc := 22) hC d_Mo_address_22 rfl 0 rfl ?_
      refine Y_getI (pc := 23) hC sm_0 fl_Mo_143 rfl d_Mo_address_23 ?_
      refine Y_iconst (pc := 26) hC d_Mo_address_26 ki_1 ?_
      refine Y_isub (pc := 27) hC d_Mo_address_27 ?_
      obtain ⟨r1, V1, hc_r1, h⟩ := cl_some h
      refine Y_callS (pc := 28) hC (c_Mo_within C.l C.D C.cI C.cZ C.a hc_r1) (fun q => nomatch q) ml_Mo_125 ms_Mo_within (by decide) (Nat.le_of_ble_eq_true rfl) rfl d_Mo_address_28 ?_
      refine Y_if_ne (pc := 31) hC 38 d_Mo_address_31 rfl (fun cc_31 => ?_) (fun cc_31 => ?_)
      · have h := ifn cc_31 h
        refine Y_iconst (pc := 38) hC d_Mo_address_38 ki_0 ?_
        refine Y_sub (pc := 39) [0, 1] rfl ?_
        exact kj2 _ _ h
      · have h := ifp cc_31 h
        refine Y_iconst (pc := 34) hC d_Mo_address_34 ki_1 ?_
        refine Y_goto (pc := 35) hC 39 d_Mo_address_35 rfl ?_
        refine Y_sub (pc := 39) [0, 1] rfl ?_
        exact kj2 _ _ h
  refine Y_if_ne (pc := 5) hC 12 d_Mo_address_5 rfl (fun cc_5 => ?_) (fun cc_5 => ?_)
  · have h := ifn cc_5 h
    refine Y_iconst (pc := 12) hC d_Mo_address_12 ki_0 ?_
    refine Y_sub (pc := 13) [0, 1] rfl ?_
    exact kj1 _ h
  · have h := ifp cc_5 h
    refine Y_iconst (pc := 8) hC d_Mo_address_8 ki_1 ?_
    refine Y_goto (pc := 9) hC 13 d_Mo_address_9 rfl ?_
    refine Y_sub (pc := 13) [0, 1] rfl ?_
    exact kj1 _ h
set_option maxHeartbeats 4000000 in
set_option maxRecDepth 100000 in
theorem c_Mo_like (l : Launch) (D : va_G) (cI cZ : ClassId) (a : Nat → Nat) {V : Sto} {p1 : Int32} {r : Int32} {V' : Sto} (h : f_Mo_like V p1 = some (r, V')) : YMi l D cI cZ a shpM y_Mo_like b_Mo_like 2 (some .int) rm_Mo_like true [.ref (a 0), .int p1] V r V' := by
  refine YMi_of (by decide) (Nat.le_of_ble_eq_true rfl) ?_
  intro C hl hDD hcI hcZ ha hC hw hE
  subst hl hDD hcI hcZ ha
  show Y C shpM 2 0 [(0, .ref (C.a 0)), (1, .int p1)] [] V
  have hw := hw rfl
  rw [f_Mo_like] at h
  refine Y_aload_n (pc := 0) hC d_Mo_like_0 rfl 0 rfl ?_
  refine Y_aload_n (pc := 1) hC d_Mo_like_1 rfl 0 rfl ?_
  refine Y_getI (pc := 2) hC sm_0 fl_Mo_118 rfl d_Mo_like_2 ?_
  obtain ⟨j1, hj1, h⟩ := jn_some h
  have kj1 : ∀ (z1 : Int32), j1 z1 = some (r, V') → Y C shpM 2 13 [(0, .ref (C.a 0)), (1, .int p1)] [.int z1, .ref (C.a 0)] V := by
    intro z1 h
    subst hj1
    dsimp only at h
    refine Y_aload_n (pc := 13) hC d_Mo_like_13 rfl 0 rfl ?_
    refine Y_getI (pc := 14) hC sm_0 fl_Mo_118 rfl d_Mo_like_14 ?_
    obtain ⟨j2, hj2, h⟩ := jn_some h
    have kj2 : ∀ (z2 : Int32) (V2 : Sto), j2 z2 V2 = some (r, V') → Y C shpM 2 39 [(0, .ref (C.a 0)), (1, .int p1)] [.int z2, .int z1, .ref (C.a 0)] V2 := by
      intro z2 V2 h
      subst hj2
      dsimp only at h
      obtain ⟨r2, V3, hc_r2, h⟩ := cl_some h
      refine Y_callV (pc := 39) hC (c_Mo_refuse C.l C.D C.cI C.cZ C.a hc_r2) (fun _ => hw) sm_0 cls_Mo ml_Mo_132 mv_Mo_refuse (by decide) (Nat.le_of_ble_eq_true rfl) rfl d_Mo_like_39 ?_
      refine Y_if_eq (pc := 42) hC 47 d_Mo_like_42 rfl (fun cc_42 => ?_) (fun cc_42 => ?_)
      · have h := ifp cc_42 h
        refine Y_aload_n (pc := 47) hC d_Mo_like_47 rfl 0 rfl ?_
        refine Y_getR (pc := 48) hC sm_0 fl_Mo_94 rfl d_Mo_like_48 ?_
        refine Y_iload_n (pc := 51) hC d_Mo_like_51 rfl 1 rfl ?_
        obtain ⟨hi, h⟩ := ck_some h
        refine Y_zald (pc := 52) hC sm_25 rfl hi d_Mo_like_52 ?_
        refine Y_if_eq (pc := 53) hC 65 d_Mo_like_53 rfl (fun cc_53 => ?_) (fun cc_53 => ?_)
        · have h := ifp cc_53 h
          refine Y_iconst (pc := 65) hC d_Mo_like_65 ki_m1 ?_
          exact Y_iret (pc := 66) hC hE d_Mo_like_66 h
        · have h := ifn cc_53 h
          refine Y_aload_n (pc := 56) hC d_Mo_like_56 rfl 0 rfl ?_
          refine Y_getR (pc := 57) hC sm_0 fl_Mo_97 rfl d_Mo_like_57 ?_
          refine Y_iload_n (pc := 60) hC d_Mo_like_60 rfl 1 rfl ?_
          obtain ⟨hi, h⟩ := ck_some h
          refine Y_iald (pc := 61) hC sm_26 rfl hi d_Mo_like_61 ?_
          refine Y_goto (pc := 62) hC 66 d_Mo_like_62 rfl ?_
          exact Y_iret (pc := 66) hC hE d_Mo_like_66 h
      · have h := ifn cc_42 h
        refine Y_iconst (pc := 45) hC d_Mo_like_45 ki_0 ?_
        exact Y_iret (pc := 46) hC hE d_Mo_like_46 h
    refine Y_if_eq (pc := 17) hC 38 d_Mo_like_17 rfl (fun cc_17 => ?_) (fun cc_17 => ?_)
    · have h := ifp cc_17 h
      refine Y_iconst (pc := 38) hC d_Mo_like_38 ki_0 ?_
      refine Y_sub (pc := 39) [0, 1] rfl ?_
      exact kj2 _ _ h
    · have h := ifn cc_17 h
      refine Y_iload_n (pc := 20) hC d_Mo_like_20 rfl 1 rfl ?_
      refine Y_iconst (pc := 21) hC d_Mo_like_21 ki_0 ?_
      refine Y_aload_n (pc := 22) hC d_Mo_like_22 rfl 0 rfl ?_
      refine Y_getI (pc := 23) hC sm_0 fl_Mo_143 rfl d_Mo_like_23 ?_
      refine Y_iconst (pc := 26) hC d_Mo_like_26 ki_1 ?_
      refine Y_isub (pc := 27) hC d_Mo_like_27 ?_
      obtain ⟨r1, V1, hc_r1, h⟩ := cl_some h
      refine Y_callS (pc := 28) hC (c_Mo_within C.l C.D C.cI C.cZ C.a hc_r1) (fun q => nomatch q) ml_Mo_125 ms_Mo_within (by decide) (Nat.le_of_ble_eq_true rfl) rfl d_Mo_like_28 ?_
      refine Y_if_ne (pc := 31) hC 38 d_Mo_like_31 rfl (fun cc_31 => ?_) (fun cc_31 => ?_)
      · have h := ifn cc_31 h
        refine Y_iconst (pc := 38) hC d_Mo_like_38 ki_0 ?_
        refine Y_sub (pc := 39) [0, 1] rfl ?_
        exact kj2 _ _ h
      · have h := ifp cc_31 h
        refine Y_iconst (pc := 34) hC d_Mo_like_34 ki_1 ?_
        refine Y_goto (pc := 35) hC 39 d_Mo_like_35 rfl ?_
        refine Y_sub (pc := 39) [0, 1] rfl ?_
        exact kj2 _ _ h
  refine Y_if_ne (pc := 5) hC 12 d_Mo_like_5 rfl (fun cc_5 => ?_) (fun cc_5 => ?_)
  · have h := ifn cc_5 h
    refine Y_iconst (pc := 12) hC d_Mo_like_12 ki_0 ?_
    refine Y_sub (pc := 13) [0, 1] rfl ?_
    exact kj1 _ h
  · have h := ifp cc_5 h
    refine Y_iconst (pc := 8) hC d_Mo_like_8 ki_1 ?_
    refine Y_goto (pc := 9) hC 13 d_Mo_like_9 rfl ?_
    refine Y_sub (pc := 13) [0, 1] rfl ?_
    exact kj1 _ h
