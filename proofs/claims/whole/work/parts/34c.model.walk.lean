set_option maxHeartbeats 4000000 in
set_option maxRecDepth 100000 in
theorem ylp_Mo_reach_2 {C : YC} {r : Int32} {V' : Sto} {k57 : Sto → RT} (hC : YF C R_Mo b_Mo_reach 4 rm_Mo_reach) (hw : YWr C shpM) (hE : YEi C .boolean shpM r V') (hk57 : ∀ (V1 : Sto), k57 V1 = some (r, V') → Y C shpM 4 57 [(0, .ref (C.a 0))] [] V1) : ∀ (n : Nat) (x1 : Int32) (V : Sto), lp_Mo_reach_2 k57 n x1 V = some (r, V') → Y C shpM 4 2 [(0, .ref (C.a 0)), (1, .int x1)] [] V := by
  intro n
  induction n with
  | zero =>
    intro x1 V h
    rw [lp_Mo_reach_2] at h
    cases h
  | succ n ih =>
    intro x1 V h
    rw [lp_Mo_reach_2] at h
    refine Y_iload_n (pc := 2) hC d_Mo_reach_2 rfl 1 rfl ?_
    refine Y_aload_n (pc := 3) hC d_Mo_reach_3 rfl 0 rfl ?_
    refine Y_getI (pc := 4) hC sm_0 fl_Mo_143 rfl d_Mo_reach_4 ?_
    refine Y_icmp_ge (pc := 7) hC 57 d_Mo_reach_7 rfl (fun cc_7 => ?_) (fun cc_7 => ?_)
    · have h := ifp cc_7 h
      refine Y_sub (pc := 57) [0] rfl ?_
      exact hk57 _ h
    · have h := ifn cc_7 h
      refine Y_aload_n (pc := 10) hC d_Mo_reach_10 rfl 0 rfl ?_
      refine Y_getR (pc := 11) hC sm_0 fl_Mo_94 rfl d_Mo_reach_11 ?_
      refine Y_iload_n (pc := 14) hC d_Mo_reach_14 rfl 1 rfl ?_
      refine Y_aload_n (pc := 15) hC d_Mo_reach_15 rfl 0 rfl ?_
      refine Y_getR (pc := 16) hC sm_0 fl_Mo_28 rfl d_Mo_reach_16 ?_
      refine Y_iload_n (pc := 19) hC d_Mo_reach_19 rfl 1 rfl ?_
      obtain ⟨hi, h⟩ := ck_some h
      refine Y_zald (pc := 20) hC sm_7 rfl hi d_Mo_reach_20 ?_
      refine Y_if_eq (pc := 21) hC 42 d_Mo_reach_21 rfl (fun cc_21 => ?_) (fun cc_21 => ?_)
      · have h := ifp cc_21 h
        refine Y_iconst (pc := 42) hC d_Mo_reach_42 ki_0 ?_
        obtain ⟨hi, h⟩ := ck_some h
        obtain ⟨V1, hV1, h⟩ := nm_some h
        refine Y_zast (pc := 43) hC sm_25 (by decide) rfl hi hw rfl hV1 d_Mo_reach_43 ?_
        refine Y_aload_n (pc := 44) hC d_Mo_reach_44 rfl 0 rfl ?_
        refine Y_getR (pc := 45) hC sm_0 fl_Mo_97 rfl d_Mo_reach_45 ?_
        refine Y_iload_n (pc := 48) hC d_Mo_reach_48 rfl 1 rfl ?_
        refine Y_iload_n (pc := 49) hC d_Mo_reach_49 rfl 1 rfl ?_
        obtain ⟨hi, h⟩ := ck_some h
        obtain ⟨V2, hV2, h⟩ := nm_some h
        refine Y_iast (pc := 50) hC sm_26 (by decide) rfl hi hw rfl hV2 d_Mo_reach_50 ?_
        refine Y_iinc (pc := 51) hC (v := x1 + 1) (L' := [(1, .int (x1 + 1)), (0, .ref (C.a 0))]) d_Mo_reach_51 1 rfl rfl (by decide) rfl ?_
        refine Y_goto (pc := 54) hC 2 d_Mo_reach_54 rfl ?_
        refine Y_sub (pc := 2) [1, 0] rfl ?_
        exact ih _ _ h
      · have h := ifn cc_21 h
        refine Y_aload_n (pc := 24) hC d_Mo_reach_24 rfl 0 rfl ?_
        refine Y_getR (pc := 25) hC sm_0 fl_Mo_79 rfl d_Mo_reach_25 ?_
        refine Y_aload_n (pc := 28) hC d_Mo_reach_28 rfl 0 rfl ?_
        refine Y_getR (pc := 29) hC sm_0 fl_Mo_13 rfl d_Mo_reach_29 ?_
        refine Y_iload_n (pc := 32) hC d_Mo_reach_32 rfl 1 rfl ?_
        obtain ⟨hi, h⟩ := ck_some h
        refine Y_iald (pc := 33) hC sm_2 rfl hi d_Mo_reach_33 ?_
        obtain ⟨hi, h⟩ := ck_some h
        refine Y_zald (pc := 34) hC sm_20 rfl hi d_Mo_reach_34 ?_
        refine Y_if_eq (pc := 35) hC 42 d_Mo_reach_35 rfl (fun cc_35 => ?_) (fun cc_35 => ?_)
        · have h := ifp cc_35 h
          refine Y_iconst (pc := 42) hC d_Mo_reach_42 ki_0 ?_
          obtain ⟨hi, h⟩ := ck_some h
          obtain ⟨V3, hV3, h⟩ := nm_some h
          refine Y_zast (pc := 43) hC sm_25 (by decide) rfl hi hw rfl hV3 d_Mo_reach_43 ?_
          refine Y_aload_n (pc := 44) hC d_Mo_reach_44 rfl 0 rfl ?_
          refine Y_getR (pc := 45) hC sm_0 fl_Mo_97 rfl d_Mo_reach_45 ?_
          refine Y_iload_n (pc := 48) hC d_Mo_reach_48 rfl 1 rfl ?_
          refine Y_iload_n (pc := 49) hC d_Mo_reach_49 rfl 1 rfl ?_
          obtain ⟨hi, h⟩ := ck_some h
          obtain ⟨V4, hV4, h⟩ := nm_some h
          refine Y_iast (pc := 50) hC sm_26 (by decide) rfl hi hw rfl hV4 d_Mo_reach_50 ?_
          refine Y_iinc (pc := 51) hC (v := x1 + 1) (L' := [(1, .int (x1 + 1)), (0, .ref (C.a 0))]) d_Mo_reach_51 1 rfl rfl (by decide) rfl ?_
          refine Y_goto (pc := 54) hC 2 d_Mo_reach_54 rfl ?_
          refine Y_sub (pc := 2) [1, 0] rfl ?_
          exact ih _ _ h
        · have h := ifn cc_35 h
          refine Y_iconst (pc := 38) hC d_Mo_reach_38 ki_1 ?_
          refine Y_goto (pc := 39) hC 43 d_Mo_reach_39 rfl ?_
          obtain ⟨hi, h⟩ := ck_some h
          obtain ⟨V5, hV5, h⟩ := nm_some h
          refine Y_zast (pc := 43) hC sm_25 (by decide) rfl hi hw rfl hV5 d_Mo_reach_43 ?_
          refine Y_aload_n (pc := 44) hC d_Mo_reach_44 rfl 0 rfl ?_
          refine Y_getR (pc := 45) hC sm_0 fl_Mo_97 rfl d_Mo_reach_45 ?_
          refine Y_iload_n (pc := 48) hC d_Mo_reach_48 rfl 1 rfl ?_
          refine Y_iload_n (pc := 49) hC d_Mo_reach_49 rfl 1 rfl ?_
          obtain ⟨hi, h⟩ := ck_some h
          obtain ⟨V6, hV6, h⟩ := nm_some h
          refine Y_iast (pc := 50) hC sm_26 (by decide) rfl hi hw rfl hV6 d_Mo_reach_50 ?_
          refine Y_iinc (pc := 51) hC (v := x1 + 1) (L' := [(1, .int (x1 + 1)), (0, .ref (C.a 0))]) d_Mo_reach_51 1 rfl rfl (by decide) rfl ?_
          refine Y_goto (pc := 54) hC 2 d_Mo_reach_54 rfl ?_
          refine Y_sub (pc := 2) [1, 0] rfl ?_
          exact ih _ _ h
set_option maxHeartbeats 4000000 in
set_option maxRecDepth 100000 in
theorem ylp_Mo_reach_59 {C : YC} {r : Int32} {V' : Sto} {k79 : Sto → RT} (hC : YF C R_Mo b_Mo_reach 4 rm_Mo_reach) (hw : YWr C shpM) (hE : YEi C .boolean shpM r V') (hk79 : ∀ (V1 : Sto), k79 V1 = some (r, V') → Y C shpM 4 79 [(0, .ref (C.a 0))] [] V1) : ∀ (n : Nat) (x1 : Int32) (V : Sto), lp_Mo_reach_59 k79 n x1 V = some (r, V') → Y C shpM 4 59 [(0, .ref (C.a 0)), (1, .int x1)] [] V := by
  intro n
  induction n with
  | zero =>
    intro x1 V h
    rw [lp_Mo_reach_59] at h
    cases h
  | succ n ih =>
    intro x1 V h
    rw [lp_Mo_reach_59] at h
    refine Y_iload_n (pc := 59) hC d_Mo_reach_59 rfl 1 rfl ?_
    refine Y_sipush (pc := 60) hC d_Mo_reach_60 ks_200 ?_
    refine Y_icmp_ge (pc := 63) hC 79 d_Mo_reach_63 rfl (fun cc_63 => ?_) (fun cc_63 => ?_)
    · have h := ifp cc_63 h
      refine Y_sub (pc := 79) [0] rfl ?_
      exact hk79 _ h
    · have h := ifn cc_63 h
      refine Y_aload_n (pc := 66) hC d_Mo_reach_66 rfl 0 rfl ?_
      refine Y_getR (pc := 67) hC sm_0 fl_Mo_88 rfl d_Mo_reach_67 ?_
      refine Y_iload_n (pc := 70) hC d_Mo_reach_70 rfl 1 rfl ?_
      refine Y_iconst (pc := 71) hC d_Mo_reach_71 ki_0 ?_
      obtain ⟨hi, h⟩ := ck_some h
      obtain ⟨V8, hV8, h⟩ := nm_some h
      refine Y_zast (pc := 72) hC sm_23 (by decide) rfl hi hw rfl hV8 d_Mo_reach_72 ?_
      refine Y_iinc (pc := 73) hC (v := x1 + 1) (L' := [(1, .int (x1 + 1)), (0, .ref (C.a 0))]) d_Mo_reach_73 1 rfl rfl (by decide) rfl ?_
      refine Y_goto (pc := 76) hC 59 d_Mo_reach_76 rfl ?_
      refine Y_sub (pc := 59) [1, 0] rfl ?_
      exact ih _ _ h
set_option maxHeartbeats 4000000 in
set_option maxRecDepth 100000 in
theorem ylp_Mo_reach_169 {C : YC} {r : Int32} {V' : Sto} {k201 : Int32 → Sto → RT} (hC : YF C R_Mo b_Mo_reach 4 rm_Mo_reach) (hw : YWr C shpM) (hE : YEi C .boolean shpM r V') (hk201 : ∀ (y1 : Int32) (V1 : Sto), k201 y1 V1 = some (r, V') → Y C shpM 4 201 [(0, .ref (C.a 0)), (1, .int y1)] [] V1) : ∀ (n : Nat) (x1 x2 : Int32) (V : Sto), lp_Mo_reach_169 k201 n x1 x2 V = some (r, V') → Y C shpM 4 169 [(0, .ref (C.a 0)), (1, .int x1), (2, .int x2)] [] V := by
  intro n
  induction n with
  | zero =>
    intro x1 x2 V h
    rw [lp_Mo_reach_169] at h
    cases h
  | succ n ih =>
    intro x1 x2 V h
    rw [lp_Mo_reach_169] at h
    refine Y_iload_n (pc := 169) hC d_Mo_reach_169 rfl 2 rfl ?_
    refine Y_aload_n (pc := 170) hC d_Mo_reach_170 rfl 0 rfl ?_
    refine Y_getI (pc := 171) hC sm_0 fl_Mo_167 rfl d_Mo_reach_171 ?_
    refine Y_icmp_ge (pc := 174) hC 201 d_Mo_reach_174 rfl (fun cc_174 => ?_) (fun cc_174 => ?_)
    · have h := ifp cc_174 h
      refine Y_sub (pc := 201) [0, 1] rfl ?_
      exact hk201 _ _ h
    · have h := ifn cc_174 h
      refine Y_aload_n (pc := 177) hC d_Mo_reach_177 rfl 0 rfl ?_
      refine Y_iload_n (pc := 178) hC d_Mo_reach_178 rfl 2 rfl ?_
      obtain ⟨r1, V10, hc_r1, h⟩ := cl_some h
      refine Y_callV (pc := 179) hC (c_Mo_reachBy C.l C.D C.cI C.cZ C.a hc_r1) (fun _ => hw) sm_0 cls_Mo ml_Mo_201 mv_Mo_reachBy (by decide) (Nat.le_of_ble_eq_true rfl) rfl d_Mo_reach_179 ?_
      refine Y_if_ne (pc := 182) hC 189 d_Mo_reach_182 rfl (fun cc_182 => ?_) (fun cc_182 => ?_)
      · have h := ifn cc_182 h
        refine Y_iconst (pc := 189) hC d_Mo_reach_189 ki_1 ?_
        refine Y_goto (pc := 190) hC 194 d_Mo_reach_190 rfl ?_
        refine Y_istore_n (pc := 194) hC (L' := [(1, .int 1), (0, .ref (C.a 0)), (2, .int x2)]) d_Mo_reach_194 rfl (by decide) rfl ?_
        refine Y_iinc (pc := 195) hC (v := x2 + 1) (L' := [(2, .int (x2 + 1)), (1, .int 1), (0, .ref (C.a 0))]) d_Mo_reach_195 2 rfl rfl (by decide) rfl ?_
        refine Y_goto (pc := 198) hC 169 d_Mo_reach_198 rfl ?_
        refine Y_sub (pc := 169) [2, 1, 0] rfl ?_
        exact ih _ _ _ h
      · have h := ifp cc_182 h
        refine Y_iload_n (pc := 185) hC d_Mo_reach_185 rfl 1 rfl ?_
        refine Y_if_eq (pc := 186) hC 193 d_Mo_reach_186 rfl (fun cc_186 => ?_) (fun cc_186 => ?_)
        · have h := ifp cc_186 h
          refine Y_iconst (pc := 193) hC d_Mo_reach_193 ki_0 ?_
          refine Y_istore_n (pc := 194) hC (L' := [(1, .int 0), (0, .ref (C.a 0)), (2, .int x2)]) d_Mo_reach_194 rfl (by decide) rfl ?_
          refine Y_iinc (pc := 195) hC (v := x2 + 1) (L' := [(2, .int (x2 + 1)), (1, .int 0), (0, .ref (C.a 0))]) d_Mo_reach_195 2 rfl rfl (by decide) rfl ?_
          refine Y_goto (pc := 198) hC 169 d_Mo_reach_198 rfl ?_
          refine Y_sub (pc := 169) [2, 1, 0] rfl ?_
          exact ih _ _ _ h
        · have h := ifn cc_186 h
          refine Y_iconst (pc := 189) hC d_Mo_reach_189 ki_1 ?_
          refine Y_goto (pc := 190) hC 194 d_Mo_reach_190 rfl ?_
          refine Y_istore_n (pc := 194) hC (L' := [(1, .int 1), (0, .ref (C.a 0)), (2, .int x2)]) d_Mo_reach_194 rfl (by decide) rfl ?_
          refine Y_iinc (pc := 195) hC (v := x2 + 1) (L' := [(2, .int (x2 + 1)), (1, .int 1), (0, .ref (C.a 0))]) d_Mo_reach_195 2 rfl rfl (by decide) rfl ?_
          refine Y_goto (pc := 198) hC 169 d_Mo_reach_198 rfl ?_
          refine Y_sub (pc := 169) [2, 1, 0] rfl ?_
          exact ih _ _ _ h
set_option maxHeartbeats 4000000 in
set_option maxRecDepth 100000 in
theorem ylp_Mo_reach_161 {C : YC} {r : Int32} {V' : Sto} {k204 : Sto → RT} (hC : YF C R_Mo b_Mo_reach 4 rm_Mo_reach) (hw : YWr C shpM) (hE : YEi C .boolean shpM r V') (hk204 : ∀ (V1 : Sto), k204 V1 = some (r, V') → Y C shpM 4 204 [(0, .ref (C.a 0))] [] V1) : ∀ (n : Nat) (x1 : Int32) (V : Sto), lp_Mo_reach_161 k204 n x1 V = some (r, V') → Y C shpM 4 161 [(0, .ref (C.a 0)), (1, .int x1)] [] V := by
  intro n
  induction n with
  | zero =>
    intro x1 V h
    rw [lp_Mo_reach_161] at h
    cases h
  | succ n ih =>
    intro x1 V h
    rw [lp_Mo_reach_161] at h
    refine Y_iload_n (pc := 161) hC d_Mo_reach_161 rfl 1 rfl ?_
    refine Y_if_eq (pc := 162) hC 204 d_Mo_reach_162 rfl (fun cc_162 => ?_) (fun cc_162 => ?_)
    · have h := ifp cc_162 h
      refine Y_sub (pc := 204) [0] rfl ?_
      exact hk204 _ h
    · have h := ifn cc_162 h
      refine Y_iconst (pc := 165) hC d_Mo_reach_165 ki_0 ?_
      refine Y_istore_n (pc := 166) hC (L' := [(1, .int 0), (0, .ref (C.a 0))]) d_Mo_reach_166 rfl (by decide) rfl ?_
      refine Y_iconst (pc := 167) hC d_Mo_reach_167 ki_0 ?_
      refine Y_istore_n (pc := 168) hC (L' := [(2, .int 0), (1, .int 0), (0, .ref (C.a 0))]) d_Mo_reach_168 rfl (by decide) rfl ?_
      refine Y_sub (pc := 169) [2, 1, 0] rfl ?_
      refine ylp_Mo_reach_169 hC hw hE (fun y1 V11 h => ?_) FU _ _ _ h
      refine Y_goto (pc := 201) hC 161 d_Mo_reach_201 rfl ?_
      refine Y_sub (pc := 161) [0, 1] rfl ?_
      exact ih _ _ h
set_option maxHeartbeats 4000000 in
set_option maxRecDepth 100000 in
theorem ylp_Mo_reach_216 {C : YC} {r : Int32} {V' : Sto} {x2 : Int32} {k256 : Int32 → Sto → RT} {k280 : Sto → RT} (hC : YF C R_Mo b_Mo_reach 4 rm_Mo_reach) (hw : YWr C shpM) (hE : YEi C .boolean shpM r V') (hk256 : ∀ (y3 : Int32) (V1 : Sto), k256 y3 V1 = some (r, V') → Y C shpM 4 256 [(0, .ref (C.a 0)), (3, .int y3)] [] V1) (hk280 : ∀ (V1 : Sto), k280 V1 = some (r, V') → Y C shpM 4 280 [(0, .ref (C.a 0)), (2, .int x2)] [] V1) : ∀ (n : Nat) (x3 : Int32) (V : Sto), lp_Mo_reach_216 x2 k256 k280 n x3 V = some (r, V') → Y C shpM 4 216 [(0, .ref (C.a 0)), (2, .int x2), (3, .int x3)] [] V := by
  intro n
  induction n with
  | zero =>
    intro x3 V h
    rw [lp_Mo_reach_216] at h
    cases h
  | succ n ih =>
    intro x3 V h
    rw [lp_Mo_reach_216] at h
    refine Y_iload_n (pc := 216) hC d_Mo_reach_216 rfl 2 rfl ?_
    refine Y_aload_n (pc := 217) hC d_Mo_reach_217 rfl 0 rfl ?_
    refine Y_getI (pc := 218) hC sm_0 fl_Mo_167 rfl d_Mo_reach_218 ?_
    refine Y_icmp_ge (pc := 221) hC 280 d_Mo_reach_221 rfl (fun cc_221 => ?_) (fun cc_221 => ?_)
    · have h := ifp cc_221 h
      refine Y_sub (pc := 280) [0, 1] rfl ?_
      exact hk280 _ h
    · have h := ifn cc_221 h
      refine Y_aload_n (pc := 224) hC d_Mo_reach_224 rfl 0 rfl ?_
      refine Y_getR (pc := 225) hC sm_0 fl_Mo_94 rfl d_Mo_reach_225 ?_
      refine Y_iload_n (pc := 228) hC d_Mo_reach_228 rfl 1 rfl ?_
      obtain ⟨hi, h⟩ := ck_some h
      refine Y_zald (pc := 229) hC sm_25 rfl hi d_Mo_reach_229 ?_
      refine Y_if_eq (pc := 230) hC 274 d_Mo_reach_230 rfl (fun cc_230 => ?_) (fun cc_230 => ?_)
      · have h := ifp cc_230 h
        refine Y_iinc (pc := 274) hC (v := x3 + 1) (L' := [(3, .int (x3 + 1)), (0, .ref (C.a 0)), (2, .int x2)]) d_Mo_reach_274 2 rfl rfl (by decide) rfl ?_
        refine Y_goto (pc := 277) hC 216 d_Mo_reach_277 rfl ?_
        refine Y_sub (pc := 216) [1, 2, 0] rfl ?_
        exact ih _ _ h
      · have h := ifn cc_230 h
        refine Y_aload_n (pc := 233) hC d_Mo_reach_233 rfl 0 rfl ?_
        refine Y_getR (pc := 234) hC sm_0 fl_Mo_54 rfl d_Mo_reach_234 ?_
        refine Y_iload_n (pc := 237) hC d_Mo_reach_237 rfl 2 rfl ?_
        obtain ⟨hi, h⟩ := ck_some h
        refine Y_iald (pc := 238) hC sm_15 rfl hi d_Mo_reach_238 ?_
        refine Y_iload_n (pc := 239) hC d_Mo_reach_239 rfl 1 rfl ?_
        refine Y_icmp_ne (pc := 240) hC 274 d_Mo_reach_240 rfl (fun cc_240 => ?_) (fun cc_240 => ?_)
        · have h := ifn cc_240 h
          refine Y_iinc (pc := 274) hC (v := x3 + 1) (L' := [(3, .int (x3 + 1)), (0, .ref (C.a 0)), (2, .int x2)]) d_Mo_reach_274 2 rfl rfl (by decide) rfl ?_
          refine Y_goto (pc := 277) hC 216 d_Mo_reach_277 rfl ?_
          refine Y_sub (pc := 216) [1, 2, 0] rfl ?_
          exact ih _ _ h
        · have h := ifp cc_240 h
          refine Y_aload_n (pc := 243) hC d_Mo_reach_243 rfl 0 rfl ?_
          refine Y_aload_n (pc := 244) hC d_Mo_reach_244 rfl 0 rfl ?_
          refine Y_getR (pc := 245) hC sm_0 fl_Mo_63 rfl d_Mo_reach_245 ?_
          refine Y_iload_n (pc := 248) hC d_Mo_reach_248 rfl 2 rfl ?_
          obtain ⟨hi, h⟩ := ck_some h
          refine Y_iald (pc := 249) hC sm_18 rfl hi d_Mo_reach_249 ?_
          obtain ⟨r2, V13, hc_r2, h⟩ := cl_some h
          refine Y_callV (pc := 250) hC (c_Mo_sortOf C.l C.D C.cI C.cZ C.a hc_r2) (fun q => nomatch q) sm_0 cls_Mo ml_Mo_198 mv_Mo_sortOf (by decide) (Nat.le_of_ble_eq_true rfl) rfl d_Mo_reach_250 ?_
          refine Y_if_ne (pc := 253) hC 274 d_Mo_reach_253 rfl (fun cc_253 => ?_) (fun cc_253 => ?_)
          · have h := ifn cc_253 h
            refine Y_iinc (pc := 274) hC (v := x3 + 1) (L' := [(3, .int (x3 + 1)), (0, .ref (C.a 0)), (2, .int x2)]) d_Mo_reach_274 2 rfl rfl (by decide) rfl ?_
            refine Y_goto (pc := 277) hC 216 d_Mo_reach_277 rfl ?_
            refine Y_sub (pc := 216) [1, 2, 0] rfl ?_
            exact ih _ _ h
          · have h := ifp cc_253 h
            refine Y_sub (pc := 256) [0, 2] rfl ?_
            exact hk256 _ _ h
set_option maxHeartbeats 4000000 in
set_option maxRecDepth 100000 in
theorem ylp_Mo_reach_206 {C : YC} {r : Int32} {V' : Sto} {k256 : Int32 → Sto → RT} {k286 : Sto → RT} (hC : YF C R_Mo b_Mo_reach 4 rm_Mo_reach) (hw : YWr C shpM) (hE : YEi C .boolean shpM r V') (hk256 : ∀ (y3 : Int32) (V1 : Sto), k256 y3 V1 = some (r, V') → Y C shpM 4 256 [(0, .ref (C.a 0)), (3, .int y3)] [] V1) (hk286 : ∀ (V1 : Sto), k286 V1 = some (r, V') → Y C shpM 4 286 [] [] V1) : ∀ (n : Nat) (x2 : Int32) (V : Sto), lp_Mo_reach_206 k256 k286 n x2 V = some (r, V') → Y C shpM 4 206 [(0, .ref (C.a 0)), (2, .int x2)] [] V := by
  intro n
  induction n with
  | zero =>
    intro x2 V h
    rw [lp_Mo_reach_206] at h
    cases h
  | succ n ih =>
    intro x2 V h
    rw [lp_Mo_reach_206] at h
    refine Y_iload_n (pc := 206) hC d_Mo_reach_206 rfl 1 rfl ?_
    refine Y_aload_n (pc := 207) hC d_Mo_reach_207 rfl 0 rfl ?_
    refine Y_getI (pc := 208) hC sm_0 fl_Mo_143 rfl d_Mo_reach_208 ?_
    refine Y_icmp_ge (pc := 211) hC 286 d_Mo_reach_211 rfl (fun cc_211 => ?_) (fun cc_211 => ?_)
    · have h := ifp cc_211 h
      refine Y_sub (pc := 286) [] rfl ?_
      exact hk286 _ h
    · have h := ifn cc_211 h
      refine Y_iconst (pc := 214) hC d_Mo_reach_214 ki_0 ?_
      refine Y_istore_n (pc := 215) hC (L' := [(3, .int 0), (0, .ref (C.a 0)), (2, .int x2)]) d_Mo_reach_215 rfl (by decide) rfl ?_
      refine Y_sub (pc := 216) [1, 2, 0] rfl ?_
      refine ylp_Mo_reach_216 hC hw hE (fun y2 V14 h => ?_) (fun V15 h => ?_) FU _ _ h
      · have h := h
        refine Y_sub (pc := 256) [0, 1] rfl ?_
        exact hk256 _ _ h
      · have h := h
        refine Y_iinc (pc := 280) hC (v := x2 + 1) (L' := [(2, .int (x2 + 1)), (0, .ref (C.a 0))]) d_Mo_reach_280 1 rfl rfl (by decide) rfl ?_
        refine Y_goto (pc := 283) hC 206 d_Mo_reach_283 rfl ?_
        refine Y_sub (pc := 206) [1, 0] rfl ?_
        exact ih _ _ h
set_option maxHeartbeats 4000000 in
set_option maxRecDepth 100000 in
theorem c_Mo_reach (l : Launch) (D : va_G) (cI cZ : ClassId) (a : Nat → Nat) {V : Sto} {r : Int32} {V' : Sto} (h : f_Mo_reach V = some (r, V')) : YMi l D cI cZ a shpM y_Mo_reach b_Mo_reach 4 (some .boolean) rm_Mo_reach true [.ref (a 0)] V r V' := by
  refine YMi_of (by decide) (Nat.le_of_ble_eq_true rfl) ?_
  intro C hl hDD hcI hcZ ha hC hw hE
  subst hl hDD hcI hcZ ha
  show Y C shpM 4 0 [(0, .ref (C.a 0))] [] V
  have hw := hw rfl
  rw [f_Mo_reach] at h
  refine Y_iconst (pc := 0) hC d_Mo_reach_0 ki_0 ?_
  refine Y_istore_n (pc := 1) hC (L' := [(1, .int 0), (0, .ref (C.a 0))]) d_Mo_reach_1 rfl (by decide) rfl ?_
  refine Y_sub (pc := 2) [1, 0] rfl ?_
  refine ylp_Mo_reach_2 hC hw hE (fun V7 h => ?_) FU _ _ h
  refine Y_iconst (pc := 57) hC d_Mo_reach_57 ki_0 ?_
  refine Y_istore_n (pc := 58) hC (L' := [(1, .int 0), (0, .ref (C.a 0))]) d_Mo_reach_58 rfl (by decide) rfl ?_
  refine Y_sub (pc := 59) [1, 0] rfl ?_
  refine ylp_Mo_reach_59 hC hw hE (fun V9 h => ?_) FU _ _ h
  refine Y_aload_n (pc := 79) hC d_Mo_reach_79 rfl 0 rfl ?_
  refine Y_getI (pc := 80) hC sm_0 fl_Mo_69 rfl d_Mo_reach_80 ?_
  refine Y_iconst (pc := 83) hC d_Mo_reach_83 ki_m1 ?_
  refine Y_icmp_eq (pc := 84) hC 159 d_Mo_reach_84 rfl (fun cc_84 => ?_) (fun cc_84 => ?_)
  · have h := ifp cc_84 h
    refine Y_iconst (pc := 159) hC d_Mo_reach_159 ki_1 ?_
    refine Y_istore_n (pc := 160) hC (L' := [(1, .int 1), (0, .ref (C.a 0))]) d_Mo_reach_160 rfl (by decide) rfl ?_
    refine Y_sub (pc := 161) [1, 0] rfl ?_
    refine ylp_Mo_reach_161 hC hw hE (fun V12 h => ?_) FU _ _ h
    refine Y_iconst (pc := 204) hC d_Mo_reach_204 ki_0 ?_
    refine Y_istore_n (pc := 205) hC (L' := [(2, .int 0), (0, .ref (C.a 0))]) d_Mo_reach_205 rfl (by decide) rfl ?_
    refine Y_sub (pc := 206) [1, 0] rfl ?_
    refine ylp_Mo_reach_206 hC hw hE (fun y3 V16 h => ?_) (fun V18 h => ?_) FU _ _ h
    · have h := h
      refine Y_aload_n (pc := 256) hC d_Mo_reach_256 rfl 0 rfl ?_
      refine Y_iconst (pc := 257) hC d_Mo_reach_257 ki_2 ?_
      refine Y_aload_n (pc := 258) hC d_Mo_reach_258 rfl 0 rfl ?_
      refine Y_getR (pc := 259) hC sm_0 fl_Mo_48 rfl d_Mo_reach_259 ?_
      refine Y_aload_n (pc := 262) hC d_Mo_reach_262 rfl 0 rfl ?_
      refine Y_getR (pc := 263) hC sm_0 fl_Mo_63 rfl d_Mo_reach_263 ?_
      refine Y_iload_n (pc := 266) hC d_Mo_reach_266 rfl 1 rfl ?_
      obtain ⟨hi, h⟩ := ck_some h
      refine Y_iald (pc := 267) hC sm_18 rfl hi d_Mo_reach_267 ?_
      obtain ⟨hi, h⟩ := ck_some h
      refine Y_iald (pc := 268) hC sm_13 rfl hi d_Mo_reach_268 ?_
      refine Y_iload_n (pc := 269) hC d_Mo_reach_269 rfl 1 rfl ?_
      obtain ⟨r3, V17, hc_r3, h⟩ := cl_some h
      refine Y_callV (pc := 270) hC (c_Mo_fail C.l C.D C.cI C.cZ C.a hc_r3) (fun _ => hw) sm_0 cls_Mo ml_Mo_188 mv_Mo_fail (by decide) (Nat.le_of_ble_eq_true rfl) rfl d_Mo_reach_270 ?_
      obtain ⟨hbb, h⟩ := ck_some h
      exact Y_zret (pc := 273) hC hE d_Mo_reach_273 hbb h
    · have h := h
      refine Y_iconst (pc := 286) hC d_Mo_reach_286 ki_1 ?_
      exact Y_zret (pc := 287) hC hE d_Mo_reach_287 rfl h
  · have h := ifn cc_84 h
    refine Y_aload_n (pc := 87) hC d_Mo_reach_87 rfl 0 rfl ?_
    refine Y_getR (pc := 88) hC sm_0 fl_Mo_82 rfl d_Mo_reach_88 ?_
    refine Y_aload_n (pc := 91) hC d_Mo_reach_91 rfl 0 rfl ?_
    refine Y_getI (pc := 92) hC sm_0 fl_Mo_69 rfl d_Mo_reach_92 ?_
    obtain ⟨hi, h⟩ := ck_some h
    refine Y_iald (pc := 95) hC sm_21 rfl hi d_Mo_reach_95 ?_
    refine Y_iconst (pc := 96) hC d_Mo_reach_96 ki_m1 ?_
    refine Y_icmp_ne (pc := 97) hC 123 d_Mo_reach_97 rfl (fun cc_97 => ?_) (fun cc_97 => ?_)
    · have h := ifn cc_97 h
      refine Y_aload_n (pc := 123) hC d_Mo_reach_123 rfl 0 rfl ?_
      refine Y_getR (pc := 124) hC sm_0 fl_Mo_82 rfl d_Mo_reach_124 ?_
      refine Y_aload_n (pc := 127) hC d_Mo_reach_127 rfl 0 rfl ?_
      refine Y_getI (pc := 128) hC sm_0 fl_Mo_69 rfl d_Mo_reach_128 ?_
      obtain ⟨hi, h⟩ := ck_some h
      refine Y_iald (pc := 131) hC sm_21 rfl hi d_Mo_reach_131 ?_
      refine Y_istore_n (pc := 132) hC (L' := [(1, .int (V9 21 (V9 0 26).toNatClampNeg)), (0, .ref (C.a 0))]) d_Mo_reach_132 rfl (by decide) rfl ?_
      refine Y_iload_n (pc := 133) hC d_Mo_reach_133 rfl 0 rfl ?_
      refine Y_iconst (pc := 134) hC d_Mo_reach_134 ki_m1 ?_
      obtain ⟨j1, hj1, h⟩ := jn_some h
      have kj1 : ∀ (V20 : Sto), j1 V20 = some (r, V') → Y C shpM 4 159 [(0, .ref (C.a 0))] [] V20 := by
        intro V20 h
        subst hj1
        dsimp only at h
        refine Y_iconst (pc := 159) hC d_Mo_reach_159 ki_1 ?_
        refine Y_istore_n (pc := 160) hC (L' := [(1, .int 1), (0, .ref (C.a 0))]) d_Mo_reach_160 rfl (by decide) rfl ?_
        refine Y_sub (pc := 161) [1, 0] rfl ?_
        refine ylp_Mo_reach_161 hC hw hE (fun V21 h => ?_) FU _ _ h
        refine Y_iconst (pc := 204) hC d_Mo_reach_204 ki_0 ?_
        refine Y_istore_n (pc := 205) hC (L' := [(2, .int 0), (0, .ref (C.a 0))]) d_Mo_reach_205 rfl (by decide) rfl ?_
        refine Y_sub (pc := 206) [1, 0] rfl ?_
        refine ylp_Mo_reach_206 hC hw hE (fun y4 V22 h => ?_) (fun V24 h => ?_) FU _ _ h
        · have h := h
          refine Y_aload_n (pc := 256) hC d_Mo_reach_256 rfl 0 rfl ?_
          refine Y_iconst (pc := 257) hC d_Mo_reach_257 ki_2 ?_
          refine Y_aload_n (pc := 258) hC d_Mo_reach_258 rfl 0 rfl ?_
          refine Y_getR (pc := 259) hC sm_0 fl_Mo_48 rfl d_Mo_reach_259 ?_
          refine Y_aload_n (pc := 262) hC d_Mo_reach_262 rfl 0 rfl ?_
          refine Y_getR (pc := 263) hC sm_0 fl_Mo_63 rfl d_Mo_reach_263 ?_
          refine Y_iload_n (pc := 266) hC d_Mo_reach_266 rfl 1 rfl ?_
          obtain ⟨hi, h⟩ := ck_some h
          refine Y_iald (pc := 267) hC sm_18 rfl hi d_Mo_reach_267 ?_
          obtain ⟨hi, h⟩ := ck_some h
          refine Y_iald (pc := 268) hC sm_13 rfl hi d_Mo_reach_268 ?_
          refine Y_iload_n (pc := 269) hC d_Mo_reach_269 rfl 1 rfl ?_
          obtain ⟨r4, V23, hc_r4, h⟩ := cl_some h
          refine Y_callV (pc := 270) hC (c_Mo_fail C.l C.D C.cI C.cZ C.a hc_r4) (fun _ => hw) sm_0 cls_Mo ml_Mo_188 mv_Mo_fail (by decide) (Nat.le_of_ble_eq_true rfl) rfl d_Mo_reach_270 ?_
          obtain ⟨hbb, h⟩ := ck_some h
          exact Y_zret (pc := 273) hC hE d_Mo_reach_273 hbb h
        · have h := h
          refine Y_iconst (pc := 286) hC d_Mo_reach_286 ki_1 ?_
          exact Y_zret (pc := 287) hC hE d_Mo_reach_287 rfl h
      refine Y_icmp_eq (pc := 135) hC 159 d_Mo_reach_135 rfl (fun cc_135 => ?_) (fun cc_135 => ?_)
      · have h := ifp cc_135 h
        refine Y_sub (pc := 159) [1] rfl ?_
        exact kj1 _ h
      · have h := ifn cc_135 h
        refine Y_aload_n (pc := 138) hC d_Mo_reach_138 rfl 1 rfl ?_
        refine Y_getR (pc := 139) hC sm_0 fl_Mo_39 rfl d_Mo_reach_139 ?_
        refine Y_iload_n (pc := 142) hC d_Mo_reach_142 rfl 0 rfl ?_
        obtain ⟨hi, h⟩ := ck_some h
        refine Y_iald (pc := 143) hC sm_10 rfl hi d_Mo_reach_143 ?_
        refine Y_if_ne (pc := 144) hC 159 d_Mo_reach_144 rfl (fun cc_144 => ?_) (fun cc_144 => ?_)
        · have h := ifn cc_144 h
          refine Y_sub (pc := 159) [1] rfl ?_
          exact kj1 _ h
        · have h := ifp cc_144 h
          refine Y_aload_n (pc := 147) hC d_Mo_reach_147 rfl 1 rfl ?_
          refine Y_getR (pc := 148) hC sm_0 fl_Mo_94 rfl d_Mo_reach_148 ?_
          refine Y_aload_n (pc := 151) hC d_Mo_reach_151 rfl 1 rfl ?_
          refine Y_getR (pc := 152) hC sm_0 fl_Mo_42 rfl d_Mo_reach_152 ?_
          refine Y_iload_n (pc := 155) hC d_Mo_reach_155 rfl 0 rfl ?_
          obtain ⟨hi, h⟩ := ck_some h
          refine Y_iald (pc := 156) hC sm_11 rfl hi d_Mo_reach_156 ?_
          refine Y_iconst (pc := 157) hC d_Mo_reach_157 ki_1 ?_
          obtain ⟨hi, h⟩ := ck_some h
          obtain ⟨V19, hV19, h⟩ := nm_some h
          refine Y_zast (pc := 158) hC sm_25 (by decide) rfl hi hw rfl hV19 d_Mo_reach_158 ?_
          refine Y_sub (pc := 159) [1] rfl ?_
          exact kj1 _ h
    · have h := ifp cc_97 h
      refine Y_aload_n (pc := 100) hC d_Mo_reach_100 rfl 0 rfl ?_
      refine Y_getR (pc := 101) hC sm_0 fl_Mo_85 rfl d_Mo_reach_101 ?_
      refine Y_aload_n (pc := 104) hC d_Mo_reach_104 rfl 0 rfl ?_
      refine Y_getI (pc := 105) hC sm_0 fl_Mo_69 rfl d_Mo_reach_105 ?_
      obtain ⟨hi, h⟩ := ck_some h
      refine Y_iald (pc := 108) hC sm_22 rfl hi d_Mo_reach_108 ?_
      refine Y_if_ne (pc := 109) hC 123 d_Mo_reach_109 rfl (fun cc_109 => ?_) (fun cc_109 => ?_)
      · have h := ifn cc_109 h
        refine Y_aload_n (pc := 123) hC d_Mo_reach_123 rfl 0 rfl ?_
        refine Y_getR (pc := 124) hC sm_0 fl_Mo_82 rfl d_Mo_reach_124 ?_
        refine Y_aload_n (pc := 127) hC d_Mo_reach_127 rfl 0 rfl ?_
        refine Y_getI (pc := 128) hC sm_0 fl_Mo_69 rfl d_Mo_reach_128 ?_
        obtain ⟨hi, h⟩ := ck_some h
        refine Y_iald (pc := 131) hC sm_21 rfl hi d_Mo_reach_131 ?_
        refine Y_istore_n (pc := 132) hC (L' := [(1, .int (V9 21 (V9 0 26).toNatClampNeg)), (0, .ref (C.a 0))]) d_Mo_reach_132 rfl (by decide) rfl ?_
        refine Y_iload_n (pc := 133) hC d_Mo_reach_133 rfl 0 rfl ?_
        refine Y_iconst (pc := 134) hC d_Mo_reach_134 ki_m1 ?_
        obtain ⟨j2, hj2, h⟩ := jn_some h
        have kj2 : ∀ (V26 : Sto), j2 V26 = some (r, V') → Y C shpM 4 159 [(0, .ref (C.a 0))] [] V26 := by
          intro V26 h
          subst hj2
          dsimp only at h
          refine Y_iconst (pc := 159) hC d_Mo_reach_159 ki_1 ?_
          refine Y_istore_n (pc := 160) hC (L' := [(1, .int 1), (0, .ref (C.a 0))]) d_Mo_reach_160 rfl (by decide) rfl ?_
          refine Y_sub (pc := 161) [1, 0] rfl ?_
          refine ylp_Mo_reach_161 hC hw hE (fun V27 h => ?_) FU _ _ h
          refine Y_iconst (pc := 204) hC d_Mo_reach_204 ki_0 ?_
          refine Y_istore_n (pc := 205) hC (L' := [(2, .int 0), (0, .ref (C.a 0))]) d_Mo_reach_205 rfl (by decide) rfl ?_
          refine Y_sub (pc := 206) [1, 0] rfl ?_
          refine ylp_Mo_reach_206 hC hw hE (fun y5 V28 h => ?_) (fun V30 h => ?_) FU _ _ h
          · have h := h
            refine Y_aload_n (pc := 256) hC d_Mo_reach_256 rfl 0 rfl ?_
            refine Y_iconst (pc := 257) hC d_Mo_reach_257 ki_2 ?_
            refine Y_aload_n (pc := 258) hC d_Mo_reach_258 rfl 0 rfl ?_
            refine Y_getR (pc := 259) hC sm_0 fl_Mo_48 rfl d_Mo_reach_259 ?_
            refine Y_aload_n (pc := 262) hC d_Mo_reach_262 rfl 0 rfl ?_
            refine Y_getR (pc := 263) hC sm_0 fl_Mo_63 rfl d_Mo_reach_263 ?_
            refine Y_iload_n (pc := 266) hC d_Mo_reach_266 rfl 1 rfl ?_
            obtain ⟨hi, h⟩ := ck_some h
            refine Y_iald (pc := 267) hC sm_18 rfl hi d_Mo_reach_267 ?_
            obtain ⟨hi, h⟩ := ck_some h
            refine Y_iald (pc := 268) hC sm_13 rfl hi d_Mo_reach_268 ?_
            refine Y_iload_n (pc := 269) hC d_Mo_reach_269 rfl 1 rfl ?_
            obtain ⟨r5, V29, hc_r5, h⟩ := cl_some h
            refine Y_callV (pc := 270) hC (c_Mo_fail C.l C.D C.cI C.cZ C.a hc_r5) (fun _ => hw) sm_0 cls_Mo ml_Mo_188 mv_Mo_fail (by decide) (Nat.le_of_ble_eq_true rfl) rfl d_Mo_reach_270 ?_
            obtain ⟨hbb, h⟩ := ck_some h
            exact Y_zret (pc := 273) hC hE d_Mo_reach_273 hbb h
          · have h := h
            refine Y_iconst (pc := 286) hC d_Mo_reach_286 ki_1 ?_
            exact Y_zret (pc := 287) hC hE d_Mo_reach_287 rfl h
        refine Y_icmp_eq (pc := 135) hC 159 d_Mo_reach_135 rfl (fun cc_135 => ?_) (fun cc_135 => ?_)
        · have h := ifp cc_135 h
          refine Y_sub (pc := 159) [1] rfl ?_
          exact kj2 _ h
        · have h := ifn cc_135 h
          refine Y_aload_n (pc := 138) hC d_Mo_reach_138 rfl 1 rfl ?_
          refine Y_getR (pc := 139) hC sm_0 fl_Mo_39 rfl d_Mo_reach_139 ?_
          refine Y_iload_n (pc := 142) hC d_Mo_reach_142 rfl 0 rfl ?_
          obtain ⟨hi, h⟩ := ck_some h
          refine Y_iald (pc := 143) hC sm_10 rfl hi d_Mo_reach_143 ?_
          refine Y_if_ne (pc := 144) hC 159 d_Mo_reach_144 rfl (fun cc_144 => ?_) (fun cc_144 => ?_)
          · have h := ifn cc_144 h
            refine Y_sub (pc := 159) [1] rfl ?_
            exact kj2 _ h
          · have h := ifp cc_144 h
            refine Y_aload_n (pc := 147) hC d_Mo_reach_147 rfl 1 rfl ?_
            refine Y_getR (pc := 148) hC sm_0 fl_Mo_94 rfl d_Mo_reach_148 ?_
            refine Y_aload_n (pc := 151) hC d_Mo_reach_151 rfl 1 rfl ?_
            refine Y_getR (pc := 152) hC sm_0 fl_Mo_42 rfl d_Mo_reach_152 ?_
            refine Y_iload_n (pc := 155) hC d_Mo_reach_155 rfl 0 rfl ?_
            obtain ⟨hi, h⟩ := ck_some h
            refine Y_iald (pc := 156) hC sm_11 rfl hi d_Mo_reach_156 ?_
            refine Y_iconst (pc := 157) hC d_Mo_reach_157 ki_1 ?_
            obtain ⟨hi, h⟩ := ck_some h
            obtain ⟨V25, hV25, h⟩ := nm_some h
            refine Y_zast (pc := 158) hC sm_25 (by decide) rfl hi hw rfl hV25 d_Mo_reach_158 ?_
            refine Y_sub (pc := 159) [1] rfl ?_
            exact kj2 _ h
      · have h := ifp cc_109 h
        refine Y_aload_n (pc := 112) hC d_Mo_reach_112 rfl 0 rfl ?_
        refine Y_iconst (pc := 113) hC d_Mo_reach_113 ki_2 ?_
        refine Y_aload_n (pc := 114) hC d_Mo_reach_114 rfl 0 rfl ?_
        refine Y_getI (pc := 115) hC sm_0 fl_Mo_69 rfl d_Mo_reach_115 ?_
        refine Y_iconst (pc := 118) hC d_Mo_reach_118 ki_m1 ?_
        obtain ⟨r6, V31, hc_r6, h⟩ := cl_some h
        refine Y_callV (pc := 119) hC (c_Mo_fail C.l C.D C.cI C.cZ C.a hc_r6) (fun _ => hw) sm_0 cls_Mo ml_Mo_188 mv_Mo_fail (by decide) (Nat.le_of_ble_eq_true rfl) rfl d_Mo_reach_119 ?_
        obtain ⟨hbb, h⟩ := ck_some h
        exact Y_zret (pc := 122) hC hE d_Mo_reach_122 hbb h
set_option maxHeartbeats 4000000 in
set_option maxRecDepth 100000 in
theorem c_Mo_mayFold (l : Launch) (D : va_G) (cI cZ : ClassId) (a : Nat → Nat) {V : Sto} {p1 : Int32} {r : Int32} {V' : Sto} (h : f_Mo_mayFold V p1 = some (r, V')) : YMi l D cI cZ a shpM y_Mo_mayFold b_Mo_mayFold 2 (some .boolean) rm_Mo_mayFold false [.ref (a 0), .int p1] V r V' := by
  refine YMi_of (by decide) (Nat.le_of_ble_eq_true rfl) ?_
  intro C hl hDD hcI hcZ ha hC hw hE
  subst hl hDD hcI hcZ ha
  show Y C shpM 2 0 [(0, .ref (C.a 0)), (1, .int p1)] [] V
  rw [f_Mo_mayFold] at h
  refine Y_aload_n (pc := 0) hC d_Mo_mayFold_0 rfl 0 rfl ?_
  refine Y_getR (pc := 1) hC sm_0 fl_Mo_94 rfl d_Mo_mayFold_1 ?_
  refine Y_iload_n (pc := 4) hC d_Mo_mayFold_4 rfl 1 rfl ?_
  obtain ⟨hi, h⟩ := ck_some h
  refine Y_zald (pc := 5) hC sm_25 rfl hi d_Mo_mayFold_5 ?_
  refine Y_if_eq (pc := 6) hC 31 d_Mo_mayFold_6 rfl (fun cc_6 => ?_) (fun cc_6 => ?_)
  · have h := ifp cc_6 h
    refine Y_iconst (pc := 31) hC d_Mo_mayFold_31 ki_0 ?_
    exact Y_zret (pc := 32) hC hE d_Mo_mayFold_32 rfl h
  · have h := ifn cc_6 h
    refine Y_aload_n (pc := 9) hC d_Mo_mayFold_9 rfl 0 rfl ?_
    refine Y_getR (pc := 10) hC sm_0 fl_Mo_16 rfl d_Mo_mayFold_10 ?_
    refine Y_iload_n (pc := 13) hC d_Mo_mayFold_13 rfl 1 rfl ?_
    obtain ⟨hi, h⟩ := ck_some h
    refine Y_iald (pc := 14) hC sm_3 rfl hi d_Mo_mayFold_14 ?_
    refine Y_if_ne (pc := 15) hC 31 d_Mo_mayFold_15 rfl (fun cc_15 => ?_) (fun cc_15 => ?_)
    · have h := ifn cc_15 h
      refine Y_iconst (pc := 31) hC d_Mo_mayFold_31 ki_0 ?_
      exact Y_zret (pc := 32) hC hE d_Mo_mayFold_32 rfl h
    · have h := ifp cc_15 h
      refine Y_aload_n (pc := 18) hC d_Mo_mayFold_18 rfl 0 rfl ?_
      refine Y_getR (pc := 19) hC sm_0 fl_Mo_28 rfl d_Mo_mayFold_19 ?_
      refine Y_iload_n (pc := 22) hC d_Mo_mayFold_22 rfl 1 rfl ?_
      obtain ⟨hi, h⟩ := ck_some h
      refine Y_zald (pc := 23) hC sm_7 rfl hi d_Mo_mayFold_23 ?_
      refine Y_if_ne (pc := 24) hC 31 d_Mo_mayFold_24 rfl (fun cc_24 => ?_) (fun cc_24 => ?_)
      · have h := ifn cc_24 h
        refine Y_iconst (pc := 31) hC d_Mo_mayFold_31 ki_0 ?_
        exact Y_zret (pc := 32) hC hE d_Mo_mayFold_32 rfl h
      · have h := ifp cc_24 h
        refine Y_iconst (pc := 27) hC d_Mo_mayFold_27 ki_1 ?_
        refine Y_goto (pc := 28) hC 32 d_Mo_mayFold_28 rfl ?_
        exact Y_zret (pc := 32) hC hE d_Mo_mayFold_32 rfl h
set_option maxHeartbeats 4000000 in
set_option maxRecDepth 100000 in
theorem ylp_Mo_haveLikeWords_39 {C : YC} {r : Int32} {V' : Sto} {x1 : Int32} {x2 : Int32} {k99 : Int32 → Sto → RT} (hC : YF C R_Mo b_Mo_haveLikeWords 5 rm_Mo_haveLikeWords) (hE : YEi C .boolean shpM r V') (hk99 : ∀ (y3 : Int32) (V1 : Sto), k99 y3 V1 = some (r, V') → Y C shpM 5 99 [(3, .int y3)] [] V1) : ∀ (n : Nat) (x3 x4 : Int32) (V : Sto), lp_Mo_haveLikeWords_39 x1 x2 k99 n x3 x4 V = some (r, V') → Y C shpM 5 39 [(0, .ref (C.a 0)), (1, .int x1), (2, .int x2), (3, .int x3), (4, .int x4)] [] V := by
  intro n
  induction n with
  | zero =>
    intro x3 x4 V h
    rw [lp_Mo_haveLikeWords_39] at h
    cases h
  | succ n ih =>
    intro x3 x4 V h
    rw [lp_Mo_haveLikeWords_39] at h
    refine Y_iload_n (pc := 39) hC d_Mo_haveLikeWords_39 rfl 3 rfl ?_
    refine Y_if_eq (pc := 40) hC 99 d_Mo_haveLikeWords_40 rfl (fun cc_40 => ?_) (fun cc_40 => ?_)
    · have h := ifp cc_40 h
      refine Y_sub (pc := 99) [3] rfl ?_
      exact hk99 _ _ h
    · have h := ifn cc_40 h
      refine Y_iload (pc := 43) hC d_Mo_haveLikeWords_43 4 rfl ?_
      refine Y_aload_n (pc := 45) hC d_Mo_haveLikeWords_45 rfl 0 rfl ?_
      refine Y_getR (pc := 46) hC sm_0 fl_Mo_19 rfl d_Mo_haveLikeWords_46 ?_
      refine Y_iload_n (pc := 49) hC d_Mo_haveLikeWords_49 rfl 1 rfl ?_
      obtain ⟨hi, h⟩ := ck_some h
      refine Y_iald (pc := 50) hC sm_4 rfl hi d_Mo_haveLikeWords_50 ?_
      refine Y_iconst (pc := 51) hC d_Mo_haveLikeWords_51 ki_4 ?_
      refine Y_idiv (pc := 52) hC d_Mo_haveLikeWords_52 (by decide) ?_
      refine Y_icmp_ge (pc := 53) hC 99 d_Mo_haveLikeWords_53 rfl (fun cc_53 => ?_) (fun cc_53 => ?_)
      · have h := ifp cc_53 h
        refine Y_sub (pc := 99) [3] rfl ?_
        exact hk99 _ _ h
      · have h := ifn cc_53 h
        refine Y_aload_n (pc := 56) hC d_Mo_haveLikeWords_56 rfl 0 rfl ?_
        refine Y_getR (pc := 57) hC sm_0 fl_Mo_33 rfl d_Mo_haveLikeWords_57 ?_
        refine Y_aload_n (pc := 60) hC d_Mo_haveLikeWords_60 rfl 0 rfl ?_
        refine Y_getR (pc := 61) hC sm_0 fl_Mo_25 rfl d_Mo_haveLikeWords_61 ?_
        refine Y_iload_n (pc := 64) hC d_Mo_haveLikeWords_64 rfl 1 rfl ?_
        obtain ⟨hi, h⟩ := ck_some h
        refine Y_iald (pc := 65) hC sm_6 rfl hi d_Mo_haveLikeWords_65 ?_
        refine Y_iload (pc := 66) hC d_Mo_haveLikeWords_66 4 rfl ?_
        refine Y_iadd (pc := 68) hC d_Mo_haveLikeWords_68 ?_
        obtain ⟨hi, h⟩ := ck_some h
        refine Y_iald (pc := 69) hC sm_8 rfl hi d_Mo_haveLikeWords_69 ?_
        refine Y_aload_n (pc := 70) hC d_Mo_haveLikeWords_70 rfl 0 rfl ?_
        refine Y_getR (pc := 71) hC sm_0 fl_Mo_33 rfl d_Mo_haveLikeWords_71 ?_
        refine Y_aload_n (pc := 74) hC d_Mo_haveLikeWords_74 rfl 0 rfl ?_
        refine Y_getR (pc := 75) hC sm_0 fl_Mo_25 rfl d_Mo_haveLikeWords_75 ?_
        refine Y_iload_n (pc := 78) hC d_Mo_haveLikeWords_78 rfl 2 rfl ?_
        obtain ⟨hi, h⟩ := ck_some h
        refine Y_iald (pc := 79) hC sm_6 rfl hi d_Mo_haveLikeWords_79 ?_
        refine Y_iload (pc := 80) hC d_Mo_haveLikeWords_80 4 rfl ?_
        refine Y_iadd (pc := 82) hC d_Mo_haveLikeWords_82 ?_
        obtain ⟨hi, h⟩ := ck_some h
        refine Y_iald (pc := 83) hC sm_8 rfl hi d_Mo_haveLikeWords_83 ?_
        refine Y_icmp_ne (pc := 84) hC 91 d_Mo_haveLikeWords_84 rfl (fun cc_84 => ?_) (fun cc_84 => ?_)
        · have h := ifn cc_84 h
          refine Y_iconst (pc := 91) hC d_Mo_haveLikeWords_91 ki_0 ?_
          refine Y_istore_n (pc := 92) hC (L' := [(3, .int 0), (0, .ref (C.a 0)), (1, .int x1), (2, .int x2), (4, .int x4)]) d_Mo_haveLikeWords_92 rfl (by decide) rfl ?_
          refine Y_iinc (pc := 93) hC (v := x4 + 1) (L' := [(4, .int (x4 + 1)), (3, .int 0), (0, .ref (C.a 0)), (1, .int x1), (2, .int x2)]) d_Mo_haveLikeWords_93 4 rfl rfl (by decide) rfl ?_
          refine Y_goto (pc := 96) hC 39 d_Mo_haveLikeWords_96 rfl ?_
          refine Y_sub (pc := 39) [2, 3, 4, 1, 0] rfl ?_
          exact ih _ _ _ h
        · have h := ifp cc_84 h
          refine Y_iconst (pc := 87) hC d_Mo_haveLikeWords_87 ki_1 ?_
          refine Y_goto (pc := 88) hC 92 d_Mo_haveLikeWords_88 rfl ?_
          refine Y_istore_n (pc := 92) hC (L' := [(3, .int 1), (0, .ref (C.a 0)), (1, .int x1), (2, .int x2), (4, .int x4)]) d_Mo_haveLikeWords_92 rfl (by decide) rfl ?_
          refine Y_iinc (pc := 93) hC (v := x4 + 1) (L' := [(4, .int (x4 + 1)), (3, .int 1), (0, .ref (C.a 0)), (1, .int x1), (2, .int x2)]) d_Mo_haveLikeWords_93 4 rfl rfl (by decide) rfl ?_
          refine Y_goto (pc := 96) hC 39 d_Mo_haveLikeWords_96 rfl ?_
          refine Y_sub (pc := 39) [2, 3, 4, 1, 0] rfl ?_
          exact ih _ _ _ h
set_option maxHeartbeats 4000000 in
set_option maxRecDepth 100000 in
theorem c_Mo_haveLikeWords (l : Launch) (D : va_G) (cI cZ : ClassId) (a : Nat → Nat) {V : Sto} {p1 : Int32} {p2 : Int32} {r : Int32} {V' : Sto} (h : f_Mo_haveLikeWords V p1 p2 = some (r, V')) : YMi l D cI cZ a shpM y_Mo_haveLikeWords b_Mo_haveLikeWords 5 (some .boolean) rm_Mo_haveLikeWords false [.ref (a 0), .int p1, .int p2] V r V' := by
  refine YMi_of (by decide) (Nat.le_of_ble_eq_true rfl) ?_
  intro C hl hDD hcI hcZ ha hC hw hE
  subst hl hDD hcI hcZ ha
  show Y C shpM 5 0 [(0, .ref (C.a 0)), (1, .int p1), (2, .int p2)] [] V
  rw [f_Mo_haveLikeWords] at h
  refine Y_aload_n (pc := 0) hC d_Mo_haveLikeWords_0 rfl 0 rfl ?_
  refine Y_getR (pc := 1) hC sm_0 fl_Mo_19 rfl d_Mo_haveLikeWords_1 ?_
  refine Y_iload_n (pc := 4) hC d_Mo_haveLikeWords_4 rfl 1 rfl ?_
  obtain ⟨hi, h⟩ := ck_some h
  refine Y_iald (pc := 5) hC sm_4 rfl hi d_Mo_haveLikeWords_5 ?_
  refine Y_aload_n (pc := 6) hC d_Mo_haveLikeWords_6 rfl 0 rfl ?_
  refine Y_getR (pc := 7) hC sm_0 fl_Mo_19 rfl d_Mo_haveLikeWords_7 ?_
  refine Y_iload_n (pc := 10) hC d_Mo_haveLikeWords_10 rfl 2 rfl ?_
  obtain ⟨hi, h⟩ := ck_some h
  refine Y_iald (pc := 11) hC sm_4 rfl hi d_Mo_haveLikeWords_11 ?_
  obtain ⟨j1, hj1, h⟩ := jn_some h
  have kj1 : ∀ (z1 : Int32), j1 z1 = some (r, V') → Y C shpM 5 35 [(0, .ref (C.a 0)), (1, .int p1), (2, .int p2)] [.int z1] V := by
    intro z1 h
    subst hj1
    dsimp only at h
    refine Y_istore_n (pc := 35) hC (L' := [(3, .int z1), (0, .ref (C.a 0)), (1, .int p1), (2, .int p2)]) d_Mo_haveLikeWords_35 rfl (by decide) rfl ?_
    refine Y_iconst (pc := 36) hC d_Mo_haveLikeWords_36 ki_0 ?_
    refine Y_istore (pc := 37) hC (L' := [(4, .int 0), (3, .int z1), (0, .ref (C.a 0)), (1, .int p1), (2, .int p2)]) d_Mo_haveLikeWords_37 (by decide) rfl ?_
    refine Y_sub (pc := 39) [2, 3, 4, 1, 0] rfl ?_
    refine ylp_Mo_haveLikeWords_39 hC hE (fun y1 V1 h => ?_) FU _ _ _ h
    refine Y_iload_n (pc := 99) hC d_Mo_haveLikeWords_99 rfl 0 rfl ?_
    obtain ⟨hbb, h⟩ := ck_some h
    exact Y_zret (pc := 100) hC hE d_Mo_haveLikeWords_100 hbb h
  refine Y_icmp_ne (pc := 12) hC 34 d_Mo_haveLikeWords_12 rfl (fun cc_12 => ?_) (fun cc_12 => ?_)
  · have h := ifn cc_12 h
    refine Y_iconst (pc := 34) hC d_Mo_haveLikeWords_34 ki_0 ?_
    refine Y_sub (pc := 35) [0, 1, 2] rfl ?_
    exact kj1 _ h
  · have h := ifp cc_12 h
    refine Y_aload_n (pc := 15) hC d_Mo_haveLikeWords_15 rfl 0 rfl ?_
    refine Y_getR (pc := 16) hC sm_0 fl_Mo_22 rfl d_Mo_haveLikeWords_16 ?_
    refine Y_iload_n (pc := 19) hC d_Mo_haveLikeWords_19 rfl 1 rfl ?_
    obtain ⟨hi, h⟩ := ck_some h
    refine Y_iald (pc := 20) hC sm_5 rfl hi d_Mo_haveLikeWords_20 ?_
    refine Y_aload_n (pc := 21) hC d_Mo_haveLikeWords_21 rfl 0 rfl ?_
    refine Y_getR (pc := 22) hC sm_0 fl_Mo_22 rfl d_Mo_haveLikeWords_22 ?_
    refine Y_iload_n (pc := 25) hC d_Mo_haveLikeWords_25 rfl 2 rfl ?_
    obtain ⟨hi, h⟩ := ck_some h
    refine Y_iald (pc := 26) hC sm_5 rfl hi d_Mo_haveLikeWords_26 ?_
    refine Y_icmp_ne (pc := 27) hC 34 d_Mo_haveLikeWords_27 rfl (fun cc_27 => ?_) (fun cc_27 => ?_)
    · have h := ifn cc_27 h
      refine Y_iconst (pc := 34) hC d_Mo_haveLikeWords_34 ki_0 ?_
      refine Y_sub (pc := 35) [0, 1, 2] rfl ?_
      exact kj1 _ h
    · have h := ifp cc_27 h
      refine Y_iconst (pc := 30) hC d_Mo_haveLikeWords_30 ki_1 ?_
      refine Y_goto (pc := 31) hC 35 d_Mo_haveLikeWords_31 rfl ?_
      refine Y_sub (pc := 35) [0, 1, 2] rfl ?_
      exact kj1 _ h
set_option maxHeartbeats 4000000 in
set_option maxRecDepth 100000 in
theorem ylp_Mo_nextOf_4 {C : YC} {r : Int32} {V' : Sto} {x1 : Int32} {k28 : Int32 → Sto → RT} (hC : YF C R_Mo b_Mo_nextOf 4 rm_Mo_nextOf) (hE : YEi C .int shpM r V') (hk28 : ∀ (y3 : Int32) (V1 : Sto), k28 y3 V1 = some (r, V') → Y C shpM 4 28 [(3, .int y3)] [] V1) : ∀ (n : Nat) (x3 : Int32) (V : Sto), lp_Mo_nextOf_4 x1 k28 n x3 V = some (r, V') → Y C shpM 4 4 [(0, .ref (C.a 0)), (1, .int x1), (3, .int x3)] [] V := by
  intro n
  induction n with
  | zero =>
    intro x3 V h
    rw [lp_Mo_nextOf_4] at h
    cases h
  | succ n ih =>
    intro x3 V h
    rw [lp_Mo_nextOf_4] at h
    refine Y_iload_n (pc := 4) hC d_Mo_nextOf_4 rfl 2 rfl ?_
    refine Y_aload_n (pc := 5) hC d_Mo_nextOf_5 rfl 0 rfl ?_
    refine Y_getI (pc := 6) hC sm_0 fl_Mo_167 rfl d_Mo_nextOf_6 ?_
    refine Y_icmp_ge (pc := 9) hC 28 d_Mo_nextOf_9 rfl (fun cc_9 => ?_) (fun cc_9 => ?_)
    · have h := ifp cc_9 h
      refine Y_sub (pc := 28) [2] rfl ?_
      exact hk28 _ _ h
    · have h := ifn cc_9 h
      refine Y_aload_n (pc := 12) hC d_Mo_nextOf_12 rfl 0 rfl ?_
      refine Y_getR (pc := 13) hC sm_0 fl_Mo_54 rfl d_Mo_nextOf_13 ?_
      refine Y_iload_n (pc := 16) hC d_Mo_nextOf_16 rfl 2 rfl ?_
      obtain ⟨hi, h⟩ := ck_some h
      refine Y_iald (pc := 17) hC sm_15 rfl hi d_Mo_nextOf_17 ?_
      refine Y_iload_n (pc := 18) hC d_Mo_nextOf_18 rfl 1 rfl ?_
      refine Y_icmp_eq (pc := 19) hC 28 d_Mo_nextOf_19 rfl (fun cc_19 => ?_) (fun cc_19 => ?_)
      · have h := ifp cc_19 h
        refine Y_sub (pc := 28) [2] rfl ?_
        exact hk28 _ _ h
      · have h := ifn cc_19 h
        refine Y_iinc (pc := 22) hC (v := x3 + 1) (L' := [(3, .int (x3 + 1)), (0, .ref (C.a 0)), (1, .int x1)]) d_Mo_nextOf_22 2 rfl rfl (by decide) rfl ?_
        refine Y_goto (pc := 25) hC 4 d_Mo_nextOf_25 rfl ?_
        refine Y_sub (pc := 4) [1, 2, 0] rfl ?_
        exact ih _ _ h
set_option maxHeartbeats 4000000 in
set_option maxRecDepth 100000 in
theorem c_Mo_nextOf (l : Launch) (D : va_G) (cI cZ : ClassId) (a : Nat → Nat) {V : Sto} {p1 : Int32} {p2 : Int32} {r : Int32} {V' : Sto} (h : f_Mo_nextOf V p1 p2 = some (r, V')) : YMi l D cI cZ a shpM y_Mo_nextOf b_Mo_nextOf 4 (some .int) rm_Mo_nextOf false [.ref (a 0), .int p1, .int p2] V r V' := by
  refine YMi_of (by decide) (Nat.le_of_ble_eq_true rfl) ?_
  intro C hl hDD hcI hcZ ha hC hw hE
  subst hl hDD hcI hcZ ha
  show Y C shpM 4 0 [(0, .ref (C.a 0)), (1, .int p1), (2, .int p2)] [] V
  rw [f_Mo_nextOf] at h
  refine Y_iload_n (pc := 0) hC d_Mo_nextOf_0 rfl 2 rfl ?_
  refine Y_iconst (pc := 1) hC d_Mo_nextOf_1 ki_1 ?_
  refine Y_iadd (pc := 2) hC d_Mo_nextOf_2 ?_
  refine Y_istore_n (pc := 3) hC (L' := [(3, .int (p2 + 1)), (0, .ref (C.a 0)), (1, .int p1), (2, .int p2)]) d_Mo_nextOf_3 rfl (by decide) rfl ?_
  refine Y_sub (pc := 4) [1, 2, 0] rfl ?_
  refine ylp_Mo_nextOf_4 hC hE (fun y1 V1 h => ?_) FU _ _ h
  refine Y_iload_n (pc := 28) hC d_Mo_nextOf_28 rfl 0 rfl ?_
  exact Y_iret (pc := 29) hC hE d_Mo_nextOf_29 h
set_option maxHeartbeats 4000000 in
set_option maxRecDepth 100000 in
theorem c_Mo_meanLike (l : Launch) (D : va_G) (cI cZ : ClassId) (a : Nat → Nat) {V : Sto} {p1 : Int32} {p2 : Int32} {r : Int32} {V' : Sto} (h : f_Mo_meanLike V p1 p2 = some (r, V')) : YMi l D cI cZ a shpM y_Mo_meanLike b_Mo_meanLike 5 (some .boolean) rm_Mo_meanLike false [.ref (a 0), .int p1, .int p2] V r V' := by
  refine YMi_of (by decide) (Nat.le_of_ble_eq_true rfl) ?_
  intro C hl hDD hcI hcZ ha hC hw hE
  subst hl hDD hcI hcZ ha
  show Y C shpM 5 0 [(0, .ref (C.a 0)), (1, .int p1), (2, .int p2)] [] V
  rw [f_Mo_meanLike] at h
  refine Y_aload_n (pc := 0) hC d_Mo_meanLike_0 rfl 0 rfl ?_
  refine Y_iload_n (pc := 1) hC d_Mo_meanLike_1 rfl 1 rfl ?_
  obtain ⟨r1, V1, hc_r1, h⟩ := cl_some h
  refine Y_callV (pc := 2) hC (c_Mo_sortOf C.l C.D C.cI C.cZ C.a hc_r1) (fun q => nomatch q) sm_0 cls_Mo ml_Mo_198 mv_Mo_sortOf (by decide) (Nat.le_of_ble_eq_true rfl) rfl d_Mo_meanLike_2 ?_
  refine Y_istore_n (pc := 5) hC (L' := [(3, .int r1), (0, .ref (C.a 0)), (1, .int p1), (2, .int p2)]) d_Mo_meanLike_5 rfl (by decide) rfl ?_
  refine Y_iload_n (pc := 6) hC d_Mo_meanLike_6 rfl 0 rfl ?_
  refine Y_aload_n (pc := 7) hC d_Mo_meanLike_7 rfl 1 rfl ?_
  refine Y_iload_n (pc := 8) hC d_Mo_meanLike_8 rfl 3 rfl ?_
  obtain ⟨r2, V2, hc_r2, h⟩ := cl_some h
  refine Y_callV (pc := 9) hC (c_Mo_sortOf C.l C.D C.cI C.cZ C.a hc_r2) (fun q => nomatch q) sm_0 cls_Mo ml_Mo_198 mv_Mo_sortOf (by decide) (Nat.le_of_ble_eq_true rfl) rfl d_Mo_meanLike_9 ?_
  refine Y_icmp_eq (pc := 12) hC 17 d_Mo_meanLike_12 rfl (fun cc_12 => ?_) (fun cc_12 => ?_)
  · have h := ifp cc_12 h
    refine Y_iload_n (pc := 17) hC d_Mo_meanLike_17 rfl 0 rfl ?_
    refine Y_iconst (pc := 18) hC d_Mo_meanLike_18 ki_3 ?_
    refine Y_icmp_ne (pc := 19) hC 43 d_Mo_meanLike_19 rfl (fun cc_19 => ?_) (fun cc_19 => ?_)
    · have h := ifn cc_19 h
      refine Y_aload_n (pc := 43) hC d_Mo_meanLike_43 rfl 1 rfl ?_
      refine Y_iload_n (pc := 44) hC d_Mo_meanLike_44 rfl 2 rfl ?_
      obtain ⟨r3, V3, hc_r3, h⟩ := cl_some h
      refine Y_callV (pc := 45) hC (c_Mo_numberOf C.l C.D C.cI C.cZ C.a hc_r3) (fun q => nomatch q) sm_0 cls_Mo ml_Mo_207 mv_Mo_numberOf (by decide) (Nat.le_of_ble_eq_true rfl) rfl d_Mo_meanLike_45 ?_
      refine Y_aload_n (pc := 48) hC d_Mo_meanLike_48 rfl 1 rfl ?_
      refine Y_iload_n (pc := 49) hC d_Mo_meanLike_49 rfl 3 rfl ?_
      obtain ⟨r4, V4, hc_r4, h⟩ := cl_some h
      refine Y_callV (pc := 50) hC (c_Mo_numberOf C.l C.D C.cI C.cZ C.a hc_r4) (fun q => nomatch q) sm_0 cls_Mo ml_Mo_207 mv_Mo_numberOf (by decide) (Nat.le_of_ble_eq_true rfl) rfl d_Mo_meanLike_50 ?_
      obtain ⟨j1, hj1, h⟩ := jn_some h
      have kj1 : ∀ (z1 : Int32), j1 z1 = some (r, V') → Y C shpM 5 61 [(0, .ref (C.a 0)), (1, .int p1), (2, .int p2), (3, .int r1)] [.int z1] V4 := by
        intro z1 h
        subst hj1
        dsimp only at h
        refine Y_istore (pc := 61) hC (L' := [(4, .int z1), (0, .ref (C.a 0)), (1, .int p1), (2, .int p2), (3, .int r1)]) d_Mo_meanLike_61 (by decide) rfl ?_
        refine Y_iload_n (pc := 63) hC d_Mo_meanLike_63 rfl 4 rfl ?_
        refine Y_iconst (pc := 64) hC d_Mo_meanLike_64 ki_1 ?_
        refine Y_icmp_ne (pc := 65) hC 116 d_Mo_meanLike_65 rfl (fun cc_65 => ?_) (fun cc_65 => ?_)
        · have h := ifn cc_65 h
          refine Y_iload (pc := 116) hC d_Mo_meanLike_116 0 rfl ?_
          obtain ⟨hbb, h⟩ := ck_some h
          exact Y_zret (pc := 118) hC hE d_Mo_meanLike_118 hbb h
        · have h := ifp cc_65 h
          refine Y_iload (pc := 68) hC d_Mo_meanLike_68 0 rfl ?_
          refine Y_if_eq (pc := 70) hC 112 d_Mo_meanLike_70 rfl (fun cc_70 => ?_) (fun cc_70 => ?_)
          · have h := ifp cc_70 h
            refine Y_iconst (pc := 112) hC d_Mo_meanLike_112 ki_0 ?_
            refine Y_goto (pc := 113) hC 118 d_Mo_meanLike_113 rfl ?_
            exact Y_zret (pc := 118) hC hE d_Mo_meanLike_118 rfl h
          · have h := ifn cc_70 h
            refine Y_aload_n (pc := 73) hC d_Mo_meanLike_73 rfl 1 rfl ?_
            refine Y_iload_n (pc := 74) hC d_Mo_meanLike_74 rfl 2 rfl ?_
            obtain ⟨r5, V5, hc_r5, h⟩ := cl_some h
            refine Y_callV (pc := 75) hC (c_Mo_sectionOf C.l C.D C.cI C.cZ C.a hc_r5) (fun q => nomatch q) sm_0 cls_Mo ml_Mo_204 mv_Mo_sectionOf (by decide) (Nat.le_of_ble_eq_true rfl) rfl d_Mo_meanLike_75 ?_
            refine Y_aload_n (pc := 78) hC d_Mo_meanLike_78 rfl 1 rfl ?_
            refine Y_iload_n (pc := 79) hC d_Mo_meanLike_79 rfl 3 rfl ?_
            obtain ⟨r6, V6, hc_r6, h⟩ := cl_some h
            refine Y_callV (pc := 80) hC (c_Mo_sectionOf C.l C.D C.cI C.cZ C.a hc_r6) (fun q => nomatch q) sm_0 cls_Mo ml_Mo_204 mv_Mo_sectionOf (by decide) (Nat.le_of_ble_eq_true rfl) rfl d_Mo_meanLike_80 ?_
            refine Y_icmp_eq (pc := 83) hC 108 d_Mo_meanLike_83 rfl (fun cc_83 => ?_) (fun cc_83 => ?_)
            · have h := ifp cc_83 h
              refine Y_iconst (pc := 108) hC d_Mo_meanLike_108 ki_1 ?_
              refine Y_goto (pc := 109) hC 118 d_Mo_meanLike_109 rfl ?_
              exact Y_zret (pc := 118) hC hE d_Mo_meanLike_118 rfl h
            · have h := ifn cc_83 h
              refine Y_aload_n (pc := 86) hC d_Mo_meanLike_86 rfl 1 rfl ?_
              refine Y_getR (pc := 87) hC sm_0 fl_Mo_103 rfl d_Mo_meanLike_87 ?_
              refine Y_bipush (pc := 90) hC d_Mo_meanLike_90 kb_96 ?_
              refine Y_aload_n (pc := 92) hC d_Mo_meanLike_92 rfl 1 rfl ?_
              refine Y_iload_n (pc := 93) hC d_Mo_meanLike_93 rfl 2 rfl ?_
              obtain ⟨r7, V7, hc_r7, h⟩ := cl_some h
              refine Y_callV (pc := 94) hC (c_Mo_sectionOf C.l C.D C.cI C.cZ C.a hc_r7) (fun q => nomatch q) sm_0 cls_Mo ml_Mo_204 mv_Mo_sectionOf (by decide) (Nat.le_of_ble_eq_true rfl) rfl d_Mo_meanLike_94 ?_
              refine Y_imul (pc := 97) hC d_Mo_meanLike_97 ?_
              refine Y_aload_n (pc := 98) hC d_Mo_meanLike_98 rfl 1 rfl ?_
              refine Y_iload_n (pc := 99) hC d_Mo_meanLike_99 rfl 3 rfl ?_
              obtain ⟨r8, V8, hc_r8, h⟩ := cl_some h
              refine Y_callV (pc := 100) hC (c_Mo_sectionOf C.l C.D C.cI C.cZ C.a hc_r8) (fun q => nomatch q) sm_0 cls_Mo ml_Mo_204 mv_Mo_sectionOf (by decide) (Nat.le_of_ble_eq_true rfl) rfl d_Mo_meanLike_100 ?_
              refine Y_iadd (pc := 103) hC d_Mo_meanLike_103 ?_
              obtain ⟨hi, h⟩ := ck_some h
              refine Y_zald (pc := 104) hC sm_28 rfl hi d_Mo_meanLike_104 ?_
              refine Y_if_eq (pc := 105) hC 112 d_Mo_meanLike_105 rfl (fun cc_105 => ?_) (fun cc_105 => ?_)
              · have h := ifp cc_105 h
                refine Y_iconst (pc := 112) hC d_Mo_meanLike_112 ki_0 ?_
                refine Y_goto (pc := 113) hC 118 d_Mo_meanLike_113 rfl ?_
                exact Y_zret (pc := 118) hC hE d_Mo_meanLike_118 rfl h
              · have h := ifn cc_105 h
                refine Y_iconst (pc := 108) hC d_Mo_meanLike_108 ki_1 ?_
                refine Y_goto (pc := 109) hC 118 d_Mo_meanLike_109 rfl ?_
                exact Y_zret (pc := 118) hC hE d_Mo_meanLike_118 rfl h
      refine Y_icmp_ne (pc := 53) hC 60 d_Mo_meanLike_53 rfl (fun cc_53 => ?_) (fun cc_53 => ?_)
      · have h := ifn cc_53 h
        refine Y_iconst (pc := 60) hC d_Mo_meanLike_60 ki_0 ?_
        refine Y_sub (pc := 61) [1, 2, 3, 0] rfl ?_
        exact kj1 _ h
      · have h := ifp cc_53 h
        refine Y_iconst (pc := 56) hC d_Mo_meanLike_56 ki_1 ?_
        refine Y_goto (pc := 57) hC 61 d_Mo_meanLike_57 rfl ?_
        refine Y_sub (pc := 61) [1, 2, 3, 0] rfl ?_
        exact kj1 _ h
    · have h := ifp cc_19 h
      refine Y_aload_n (pc := 22) hC d_Mo_meanLike_22 rfl 1 rfl ?_
      refine Y_getR (pc := 23) hC sm_0 fl_Mo_48 rfl d_Mo_meanLike_23 ?_
      refine Y_iload_n (pc := 26) hC d_Mo_meanLike_26 rfl 2 rfl ?_
      obtain ⟨hi, h⟩ := ck_some h
      refine Y_iald (pc := 27) hC sm_13 rfl hi d_Mo_meanLike_27 ?_
      refine Y_aload_n (pc := 28) hC d_Mo_meanLike_28 rfl 1 rfl ?_
      refine Y_getR (pc := 29) hC sm_0 fl_Mo_48 rfl d_Mo_meanLike_29 ?_
      refine Y_iload_n (pc := 32) hC d_Mo_meanLike_32 rfl 3 rfl ?_
      obtain ⟨hi, h⟩ := ck_some h
      refine Y_iald (pc := 33) hC sm_13 rfl hi d_Mo_meanLike_33 ?_
      refine Y_icmp_ne (pc := 34) hC 41 d_Mo_meanLike_34 rfl (fun cc_34 => ?_) (fun cc_34 => ?_)
      · have h := ifn cc_34 h
        refine Y_iconst (pc := 41) hC d_Mo_meanLike_41 ki_0 ?_
        exact Y_zret (pc := 42) hC hE d_Mo_meanLike_42 rfl h
      · have h := ifp cc_34 h
        refine Y_iconst (pc := 37) hC d_Mo_meanLike_37 ki_1 ?_
        refine Y_goto (pc := 38) hC 42 d_Mo_meanLike_38 rfl ?_
        exact Y_zret (pc := 42) hC hE d_Mo_meanLike_42 rfl h
  · have h := ifn cc_12 h
    refine Y_iconst (pc := 15) hC d_Mo_meanLike_15 ki_0 ?_
    exact Y_zret (pc := 16) hC hE d_Mo_meanLike_16 rfl h
set_option maxHeartbeats 4000000 in
set_option maxRecDepth 100000 in
theorem ylp_Mo_haveLikeRelocations_15 {C : YC} {r : Int32} {V' : Sto} {x1 : Int32} {x2 : Int32} {k100 : Sto → RT} {k121 : Int32 → Int32 → Sto → RT} (hC : YF C R_Mo b_Mo_haveLikeRelocations 5 rm_Mo_haveLikeRelocations) (hE : YEi C .boolean shpM r V') (hk100 : ∀ (V1 : Sto), k100 V1 = some (r, V') → Y C shpM 5 100 [] [] V1) (hk121 : ∀ (y3 y4 : Int32) (V1 : Sto), k121 y3 y4 V1 = some (r, V') → Y C shpM 5 121 [(0, .ref (C.a 0)), (3, .int y3), (4, .int y4)] [] V1) : ∀ (n : Nat) (x3 x4 : Int32) (V : Sto), lp_Mo_haveLikeRelocations_15 x1 x2 k100 k121 n x3 x4 V = some (r, V') → Y C shpM 5 15 [(0, .ref (C.a 0)), (1, .int x1), (2, .int x2), (3, .int x3), (4, .int x4)] [] V := by
  intro n
  induction n with
  | zero =>
    intro x3 x4 V h
    rw [lp_Mo_haveLikeRelocations_15] at h
    cases h
  | succ n ih =>
    intro x3 x4 V h
    rw [lp_Mo_haveLikeRelocations_15] at h
    refine Y_iload_n (pc := 15) hC d_Mo_haveLikeRelocations_15 rfl 3 rfl ?_
    refine Y_aload_n (pc := 16) hC d_Mo_haveLikeRelocations_16 rfl 0 rfl ?_
    refine Y_getI (pc := 17) hC sm_0 fl_Mo_167 rfl d_Mo_haveLikeRelocations_17 ?_
    refine Y_icmp_ge (pc := 20) hC 121 d_Mo_haveLikeRelocations_20 rfl (fun cc_20 => ?_) (fun cc_20 => ?_)
    · have h := ifp cc_20 h
      refine Y_sub (pc := 121) [0, 3, 4] rfl ?_
      exact hk121 _ _ _ h
    · have h := ifn cc_20 h
      refine Y_iload (pc := 23) hC d_Mo_haveLikeRelocations_23 4 rfl ?_
      refine Y_aload_n (pc := 25) hC d_Mo_haveLikeRelocations_25 rfl 0 rfl ?_
      refine Y_getI (pc := 26) hC sm_0 fl_Mo_167 rfl d_Mo_haveLikeRelocations_26 ?_
      refine Y_icmp_ge (pc := 29) hC 121 d_Mo_haveLikeRelocations_29 rfl (fun cc_29 => ?_) (fun cc_29 => ?_)
      · have h := ifp cc_29 h
        refine Y_sub (pc := 121) [0, 3, 4] rfl ?_
        exact hk121 _ _ _ h
      · have h := ifn cc_29 h
        refine Y_aload_n (pc := 32) hC d_Mo_haveLikeRelocations_32 rfl 0 rfl ?_
        refine Y_getR (pc := 33) hC sm_0 fl_Mo_57 rfl d_Mo_haveLikeRelocations_33 ?_
        refine Y_iload_n (pc := 36) hC d_Mo_haveLikeRelocations_36 rfl 3 rfl ?_
        obtain ⟨hi, h⟩ := ck_some h
        refine Y_iald (pc := 37) hC sm_16 rfl hi d_Mo_haveLikeRelocations_37 ?_
        refine Y_aload_n (pc := 38) hC d_Mo_haveLikeRelocations_38 rfl 0 rfl ?_
        refine Y_getR (pc := 39) hC sm_0 fl_Mo_57 rfl d_Mo_haveLikeRelocations_39 ?_
        refine Y_iload (pc := 42) hC d_Mo_haveLikeRelocations_42 4 rfl ?_
        obtain ⟨hi, h⟩ := ck_some h
        refine Y_iald (pc := 44) hC sm_16 rfl hi d_Mo_haveLikeRelocations_44 ?_
        refine Y_icmp_ne (pc := 45) hC 100 d_Mo_haveLikeRelocations_45 rfl (fun cc_45 => ?_) (fun cc_45 => ?_)
        · have h := ifn cc_45 h
          refine Y_sub (pc := 100) [] rfl ?_
          exact hk100 _ h
        · have h := ifp cc_45 h
          refine Y_aload_n (pc := 48) hC d_Mo_haveLikeRelocations_48 rfl 0 rfl ?_
          refine Y_getR (pc := 49) hC sm_0 fl_Mo_60 rfl d_Mo_haveLikeRelocations_49 ?_
          refine Y_iload_n (pc := 52) hC d_Mo_haveLikeRelocations_52 rfl 3 rfl ?_
          obtain ⟨hi, h⟩ := ck_some h
          refine Y_iald (pc := 53) hC sm_17 rfl hi d_Mo_haveLikeRelocations_53 ?_
          refine Y_aload_n (pc := 54) hC d_Mo_haveLikeRelocations_54 rfl 0 rfl ?_
          refine Y_getR (pc := 55) hC sm_0 fl_Mo_60 rfl d_Mo_haveLikeRelocations_55 ?_
          refine Y_iload (pc := 58) hC d_Mo_haveLikeRelocations_58 4 rfl ?_
          obtain ⟨hi, h⟩ := ck_some h
          refine Y_iald (pc := 60) hC sm_17 rfl hi d_Mo_haveLikeRelocations_60 ?_
          refine Y_icmp_ne (pc := 61) hC 100 d_Mo_haveLikeRelocations_61 rfl (fun cc_61 => ?_) (fun cc_61 => ?_)
          · have h := ifn cc_61 h
            refine Y_sub (pc := 100) [] rfl ?_
            exact hk100 _ h
          · have h := ifp cc_61 h
            refine Y_aload_n (pc := 64) hC d_Mo_haveLikeRelocations_64 rfl 0 rfl ?_
            refine Y_getR (pc := 65) hC sm_0 fl_Mo_66 rfl d_Mo_haveLikeRelocations_65 ?_
            refine Y_iload_n (pc := 68) hC d_Mo_haveLikeRelocations_68 rfl 3 rfl ?_
            obtain ⟨hi, h⟩ := ck_some h
            refine Y_iald (pc := 69) hC sm_19 rfl hi d_Mo_haveLikeRelocations_69 ?_
            refine Y_aload_n (pc := 70) hC d_Mo_haveLikeRelocations_70 rfl 0 rfl ?_
            refine Y_getR (pc := 71) hC sm_0 fl_Mo_66 rfl d_Mo_haveLikeRelocations_71 ?_
            refine Y_iload (pc := 74) hC d_Mo_haveLikeRelocations_74 4 rfl ?_
            obtain ⟨hi, h⟩ := ck_some h
            refine Y_iald (pc := 76) hC sm_19 rfl hi d_Mo_haveLikeRelocations_76 ?_
            refine Y_icmp_ne (pc := 77) hC 100 d_Mo_haveLikeRelocations_77 rfl (fun cc_77 => ?_) (fun cc_77 => ?_)
            · have h := ifn cc_77 h
              refine Y_sub (pc := 100) [] rfl ?_
              exact hk100 _ h
            · have h := ifp cc_77 h
              refine Y_aload_n (pc := 80) hC d_Mo_haveLikeRelocations_80 rfl 0 rfl ?_
              refine Y_aload_n (pc := 81) hC d_Mo_haveLikeRelocations_81 rfl 0 rfl ?_
              refine Y_getR (pc := 82) hC sm_0 fl_Mo_63 rfl d_Mo_haveLikeRelocations_82 ?_
              refine Y_iload_n (pc := 85) hC d_Mo_haveLikeRelocations_85 rfl 3 rfl ?_
              obtain ⟨hi, h⟩ := ck_some h
              refine Y_iald (pc := 86) hC sm_18 rfl hi d_Mo_haveLikeRelocations_86 ?_
              refine Y_aload_n (pc := 87) hC d_Mo_haveLikeRelocations_87 rfl 0 rfl ?_
              refine Y_getR (pc := 88) hC sm_0 fl_Mo_63 rfl d_Mo_haveLikeRelocations_88 ?_
              refine Y_iload (pc := 91) hC d_Mo_haveLikeRelocations_91 4 rfl ?_
              obtain ⟨hi, h⟩ := ck_some h
              refine Y_iald (pc := 93) hC sm_18 rfl hi d_Mo_haveLikeRelocations_93 ?_
              obtain ⟨r3, V3, hc_r3, h⟩ := cl_some h
              refine Y_callV (pc := 94) hC (c_Mo_meanLike C.l C.D C.cI C.cZ C.a hc_r3) (fun q => nomatch q) sm_0 cls_Mo ml_Mo_214 mv_Mo_meanLike (by decide) (Nat.le_of_ble_eq_true rfl) rfl d_Mo_haveLikeRelocations_94 ?_
              refine Y_if_ne (pc := 97) hC 102 d_Mo_haveLikeRelocations_97 rfl (fun cc_97 => ?_) (fun cc_97 => ?_)
              · have h := ifn cc_97 h
                refine Y_aload_n (pc := 102) hC d_Mo_haveLikeRelocations_102 rfl 0 rfl ?_
                refine Y_iload_n (pc := 103) hC d_Mo_haveLikeRelocations_103 rfl 1 rfl ?_
                refine Y_iload_n (pc := 104) hC d_Mo_haveLikeRelocations_104 rfl 3 rfl ?_
                obtain ⟨r4, V4, hc_r4, h⟩ := cl_some h
                refine Y_callV (pc := 105) hC (c_Mo_nextOf C.l C.D C.cI C.cZ C.a hc_r4) (fun q => nomatch q) sm_0 cls_Mo ml_Mo_210 mv_Mo_nextOf (by decide) (Nat.le_of_ble_eq_true rfl) rfl d_Mo_haveLikeRelocations_105 ?_
                refine Y_istore_n (pc := 108) hC (L' := [(3, .int r4), (0, .ref (C.a 0)), (1, .int x1), (2, .int x2), (4, .int x4)]) d_Mo_haveLikeRelocations_108 rfl (by decide) rfl ?_
                refine Y_aload_n (pc := 109) hC d_Mo_haveLikeRelocations_109 rfl 1 rfl ?_
                refine Y_iload_n (pc := 110) hC d_Mo_haveLikeRelocations_110 rfl 3 rfl ?_
                refine Y_iload (pc := 111) hC d_Mo_haveLikeRelocations_111 4 rfl ?_
                obtain ⟨r5, V5, hc_r5, h⟩ := cl_some h
                refine Y_callV (pc := 113) hC (c_Mo_nextOf C.l C.D C.cI C.cZ C.a hc_r5) (fun q => nomatch q) sm_0 cls_Mo ml_Mo_210 mv_Mo_nextOf (by decide) (Nat.le_of_ble_eq_true rfl) rfl d_Mo_haveLikeRelocations_113 ?_
                refine Y_istore (pc := 116) hC (L' := [(4, .int r5), (3, .int r4), (0, .ref (C.a 0)), (1, .int x1), (2, .int x2)]) d_Mo_haveLikeRelocations_116 (by decide) rfl ?_
                refine Y_goto (pc := 118) hC 15 d_Mo_haveLikeRelocations_118 rfl ?_
                refine Y_sub (pc := 15) [2, 3, 4, 1, 0] rfl ?_
                exact ih _ _ _ h
              · have h := ifp cc_97 h
                refine Y_sub (pc := 100) [] rfl ?_
                exact hk100 _ h
set_option maxHeartbeats 4000000 in
set_option maxRecDepth 100000 in
theorem c_Mo_haveLikeRelocations (l : Launch) (D : va_G) (cI cZ : ClassId) (a : Nat → Nat) {V : Sto} {p1 : Int32} {p2 : Int32} {r : Int32} {V' : Sto} (h : f_Mo_haveLikeRelocations V p1 p2 = some (r, V')) : YMi l D cI cZ a shpM y_Mo_haveLikeRelocations b_Mo_haveLikeRelocations 5 (some .boolean) rm_Mo_haveLikeRelocations false [.ref (a 0), .int p1, .int p2] V r V' := by
  refine YMi_of (by decide) (Nat.le_of_ble_eq_true rfl) ?_
  intro C hl hDD hcI hcZ ha hC hw hE
  subst hl hDD hcI hcZ ha
  show Y C shpM 5 0 [(0, .ref (C.a 0)), (1, .int p1), (2, .int p2)] [] V
  rw [f_Mo_haveLikeRelocations] at h
  refine Y_aload_n (pc := 0) hC d_Mo_haveLikeRelocations_0 rfl 0 rfl ?_
  refine Y_iload_n (pc := 1) hC d_Mo_haveLikeRelocations_1 rfl 1 rfl ?_
  refine Y_iconst (pc := 2) hC d_Mo_haveLikeRelocations_2 ki_m1 ?_
  obtain ⟨r1, V1, hc_r1, h⟩ := cl_some h
  refine Y_callV (pc := 3) hC (c_Mo_nextOf C.l C.D C.cI C.cZ C.a hc_r1) (fun q => nomatch q) sm_0 cls_Mo ml_Mo_210 mv_Mo_nextOf (by decide) (Nat.le_of_ble_eq_true rfl) rfl d_Mo_haveLikeRelocations_3 ?_
  refine Y_istore_n (pc := 6) hC (L' := [(3, .int r1), (0, .ref (C.a 0)), (1, .int p1), (2, .int p2)]) d_Mo_haveLikeRelocations_6 rfl (by decide) rfl ?_
  refine Y_aload_n (pc := 7) hC d_Mo_haveLikeRelocations_7 rfl 1 rfl ?_
  refine Y_iload_n (pc := 8) hC d_Mo_haveLikeRelocations_8 rfl 3 rfl ?_
  refine Y_iconst (pc := 9) hC d_Mo_haveLikeRelocations_9 ki_m1 ?_
  obtain ⟨r2, V2, hc_r2, h⟩ := cl_some h
  refine Y_callV (pc := 10) hC (c_Mo_nextOf C.l C.D C.cI C.cZ C.a hc_r2) (fun q => nomatch q) sm_0 cls_Mo ml_Mo_210 mv_Mo_nextOf (by decide) (Nat.le_of_ble_eq_true rfl) rfl d_Mo_haveLikeRelocations_10 ?_
  refine Y_istore (pc := 13) hC (L' := [(4, .int r2), (3, .int r1), (0, .ref (C.a 0)), (1, .int p1), (2, .int p2)]) d_Mo_haveLikeRelocations_13 (by decide) rfl ?_
  refine Y_sub (pc := 15) [2, 3, 4, 1, 0] rfl ?_
  refine ylp_Mo_haveLikeRelocations_15 hC hE (fun V6 h => ?_) (fun y1 y2 V7 h => ?_) FU _ _ _ h
  · have h := h
    refine Y_iconst (pc := 100) hC d_Mo_haveLikeRelocations_100 ki_0 ?_
    exact Y_zret (pc := 101) hC hE d_Mo_haveLikeRelocations_101 rfl h
  · have h := h
    refine Y_iload_n (pc := 121) hC d_Mo_haveLikeRelocations_121 rfl 1 rfl ?_
    refine Y_aload_n (pc := 122) hC d_Mo_haveLikeRelocations_122 rfl 0 rfl ?_
    refine Y_getI (pc := 123) hC sm_0 fl_Mo_167 rfl d_Mo_haveLikeRelocations_123 ?_
    refine Y_icmp_ne (pc := 126) hC 142 d_Mo_haveLikeRelocations_126 rfl (fun cc_126 => ?_) (fun cc_126 => ?_)
    · have h := ifn cc_126 h
      refine Y_iconst (pc := 142) hC d_Mo_haveLikeRelocations_142 ki_0 ?_
      exact Y_zret (pc := 143) hC hE d_Mo_haveLikeRelocations_143 rfl h
    · have h := ifp cc_126 h
      refine Y_iload (pc := 129) hC d_Mo_haveLikeRelocations_129 2 rfl ?_
      refine Y_aload_n (pc := 131) hC d_Mo_haveLikeRelocations_131 rfl 0 rfl ?_
      refine Y_getI (pc := 132) hC sm_0 fl_Mo_167 rfl d_Mo_haveLikeRelocations_132 ?_
      refine Y_icmp_ne (pc := 135) hC 142 d_Mo_haveLikeRelocations_135 rfl (fun cc_135 => ?_) (fun cc_135 => ?_)
      · have h := ifn cc_135 h
        refine Y_iconst (pc := 142) hC d_Mo_haveLikeRelocations_142 ki_0 ?_
        exact Y_zret (pc := 143) hC hE d_Mo_haveLikeRelocations_143 rfl h
      · have h := ifp cc_135 h
        refine Y_iconst (pc := 138) hC d_Mo_haveLikeRelocations_138 ki_1 ?_
        refine Y_goto (pc := 139) hC 143 d_Mo_haveLikeRelocations_139 rfl ?_
        exact Y_zret (pc := 143) hC hE d_Mo_haveLikeRelocations_143 rfl h
