set_option maxHeartbeats 4000000 in
set_option maxRecDepth 100000 in
theorem ylp_Mo_define_6 {C : YC} {r : Int32} {V' : Sto} {x1 : Int32} {k33 : Sto → RT} (hC : YF C R_Mo b_Mo_define 6 rm_Mo_define) (hw : YWr C shpM) (hE : YEi C .boolean shpM r V') (hk33 : ∀ (V1 : Sto), k33 V1 = some (r, V') → Y C shpM 6 33 [(0, .ref (C.a 0)), (1, .int x1)] [] V1) : ∀ (n : Nat) (x2 : Int32) (V : Sto), lp_Mo_define_6 k33 n x2 V = some (r, V') → Y C shpM 6 6 [(0, .ref (C.a 0)), (1, .int x1), (2, .int x2)] [] V := by
  intro n
  induction n with
  | zero =>
    intro x2 V h
    rw [lp_Mo_define_6] at h
    cases h
  | succ n ih =>
    intro x2 V h
    rw [lp_Mo_define_6] at h
    refine Y_iload_n (pc := 6) hC d_Mo_define_6 rfl 2 rfl ?_
    refine Y_sipush (pc := 7) hC d_Mo_define_7 ks_200 ?_
    refine Y_icmp_ge (pc := 10) hC 33 d_Mo_define_10 rfl (fun cc_10 => ?_) (fun cc_10 => ?_)
    · have h := ifp cc_10 h
      refine Y_sub (pc := 33) [0, 1] rfl ?_
      exact hk33 _ h
    · have h := ifn cc_10 h
      refine Y_aload_n (pc := 13) hC d_Mo_define_13 rfl 0 rfl ?_
      refine Y_getR (pc := 14) hC sm_0 fl_Mo_82 rfl d_Mo_define_14 ?_
      refine Y_iload_n (pc := 17) hC d_Mo_define_17 rfl 2 rfl ?_
      refine Y_iconst (pc := 18) hC d_Mo_define_18 ki_m1 ?_
      obtain ⟨hi, h⟩ := ck_some h
      obtain ⟨V1, hV1, h⟩ := nm_some h
      refine Y_iast (pc := 19) hC sm_21 (by decide) rfl hi hw rfl hV1 d_Mo_define_19 ?_
      refine Y_aload_n (pc := 20) hC d_Mo_define_20 rfl 0 rfl ?_
      refine Y_getR (pc := 21) hC sm_0 fl_Mo_85 rfl d_Mo_define_21 ?_
      refine Y_iload_n (pc := 24) hC d_Mo_define_24 rfl 2 rfl ?_
      refine Y_iconst (pc := 25) hC d_Mo_define_25 ki_0 ?_
      obtain ⟨hi, h⟩ := ck_some h
      obtain ⟨V2, hV2, h⟩ := nm_some h
      refine Y_iast (pc := 26) hC sm_22 (by decide) rfl hi hw rfl hV2 d_Mo_define_26 ?_
      refine Y_iinc (pc := 27) hC (v := x2 + 1) (L' := [(2, .int (x2 + 1)), (0, .ref (C.a 0)), (1, .int x1)]) d_Mo_define_27 2 rfl rfl (by decide) rfl ?_
      refine Y_goto (pc := 30) hC 6 d_Mo_define_30 rfl ?_
      refine Y_sub (pc := 6) [1, 2, 0] rfl ?_
      exact ih _ _ h
set_option maxHeartbeats 4000000 in
set_option maxRecDepth 100000 in
theorem ylp_Mo_define_35 {C : YC} {r : Int32} {V' : Sto} {x1 : Int32} {k120 : Sto → RT} (hC : YF C R_Mo b_Mo_define 6 rm_Mo_define) (hw : YWr C shpM) (hE : YEi C .boolean shpM r V') (hk120 : ∀ (V1 : Sto), k120 V1 = some (r, V') → Y C shpM 6 120 [(0, .ref (C.a 0)), (1, .int x1)] [] V1) : ∀ (n : Nat) (x2 : Int32) (V : Sto), lp_Mo_define_35 k120 n x2 V = some (r, V') → Y C shpM 6 35 [(0, .ref (C.a 0)), (1, .int x1), (2, .int x2)] [] V := by
  intro n
  induction n with
  | zero =>
    intro x2 V h
    rw [lp_Mo_define_35] at h
    cases h
  | succ n ih =>
    intro x2 V h
    rw [lp_Mo_define_35] at h
    refine Y_iload_n (pc := 35) hC d_Mo_define_35 rfl 2 rfl ?_
    refine Y_aload_n (pc := 36) hC d_Mo_define_36 rfl 0 rfl ?_
    refine Y_getI (pc := 37) hC sm_0 fl_Mo_157 rfl d_Mo_define_37 ?_
    refine Y_icmp_ge (pc := 40) hC 120 d_Mo_define_40 rfl (fun cc_40 => ?_) (fun cc_40 => ?_)
    · have h := ifp cc_40 h
      refine Y_sub (pc := 120) [0, 1] rfl ?_
      exact hk120 _ h
    · have h := ifn cc_40 h
      refine Y_aload_n (pc := 43) hC d_Mo_define_43 rfl 0 rfl ?_
      refine Y_getR (pc := 44) hC sm_0 fl_Mo_48 rfl d_Mo_define_44 ?_
      refine Y_iload_n (pc := 47) hC d_Mo_define_47 rfl 2 rfl ?_
      obtain ⟨hi, h⟩ := ck_some h
      refine Y_iald (pc := 48) hC sm_13 rfl hi d_Mo_define_48 ?_
      refine Y_istore_n (pc := 49) hC (L' := [(3, .int (V 13 x2.toNatClampNeg)), (0, .ref (C.a 0)), (1, .int x1), (2, .int x2)]) d_Mo_define_49 rfl (by decide) rfl ?_
      refine Y_aload_n (pc := 50) hC d_Mo_define_50 rfl 1 rfl ?_
      refine Y_getR (pc := 51) hC sm_0 fl_Mo_79 rfl d_Mo_define_51 ?_
      refine Y_aload_n (pc := 54) hC d_Mo_define_54 rfl 1 rfl ?_
      refine Y_getR (pc := 55) hC sm_0 fl_Mo_36 rfl d_Mo_define_55 ?_
      refine Y_iload_n (pc := 58) hC d_Mo_define_58 rfl 3 rfl ?_
      obtain ⟨hi, h⟩ := ck_some h
      refine Y_iald (pc := 59) hC sm_9 rfl hi d_Mo_define_59 ?_
      obtain ⟨hi, h⟩ := ck_some h
      refine Y_zald (pc := 60) hC sm_20 rfl hi d_Mo_define_60 ?_
      refine Y_if_eq (pc := 61) hC 114 d_Mo_define_61 rfl (fun cc_61 => ?_) (fun cc_61 => ?_)
      · have h := ifp cc_61 h
        refine Y_iinc (pc := 114) hC (v := x2 + 1) (L' := [(2, .int (x2 + 1)), (3, .int (V 13 x2.toNatClampNeg)), (0, .ref (C.a 0)), (1, .int x1)]) d_Mo_define_114 3 rfl rfl (by decide) rfl ?_
        refine Y_goto (pc := 117) hC 35 d_Mo_define_117 rfl ?_
        refine Y_sub (pc := 35) [2, 3, 0] rfl ?_
        exact ih _ _ h
      · have h := ifn cc_61 h
        refine Y_aload_n (pc := 64) hC d_Mo_define_64 rfl 1 rfl ?_
        refine Y_getR (pc := 65) hC sm_0 fl_Mo_39 rfl d_Mo_define_65 ?_
        refine Y_iload_n (pc := 68) hC d_Mo_define_68 rfl 3 rfl ?_
        obtain ⟨hi, h⟩ := ck_some h
        refine Y_iald (pc := 69) hC sm_10 rfl hi d_Mo_define_69 ?_
        refine Y_iconst (pc := 70) hC d_Mo_define_70 ki_1 ?_
        refine Y_icmp_ne (pc := 71) hC 77 d_Mo_define_71 rfl (fun cc_71 => ?_) (fun cc_71 => ?_)
        · have h := ifn cc_71 h
          refine Y_aload_n (pc := 77) hC d_Mo_define_77 rfl 1 rfl ?_
          refine Y_getR (pc := 78) hC sm_0 fl_Mo_51 rfl d_Mo_define_78 ?_
          refine Y_iload_n (pc := 81) hC d_Mo_define_81 rfl 3 rfl ?_
          obtain ⟨hi, h⟩ := ck_some h
          refine Y_iald (pc := 82) hC sm_14 rfl hi d_Mo_define_82 ?_
          refine Y_iconst (pc := 83) hC d_Mo_define_83 ki_3 ?_
          refine Y_icmp_ne (pc := 84) hC 114 d_Mo_define_84 rfl (fun cc_84 => ?_) (fun cc_84 => ?_)
          · have h := ifn cc_84 h
            refine Y_iinc (pc := 114) hC (v := x2 + 1) (L' := [(2, .int (x2 + 1)), (3, .int (V 13 x2.toNatClampNeg)), (0, .ref (C.a 0)), (1, .int x1)]) d_Mo_define_114 3 rfl rfl (by decide) rfl ?_
            refine Y_goto (pc := 117) hC 35 d_Mo_define_117 rfl ?_
            refine Y_sub (pc := 35) [2, 3, 0] rfl ?_
            exact ih _ _ h
          · have h := ifp cc_84 h
            refine Y_aload_n (pc := 87) hC d_Mo_define_87 rfl 1 rfl ?_
            refine Y_getR (pc := 88) hC sm_0 fl_Mo_85 rfl d_Mo_define_88 ?_
            refine Y_iload_n (pc := 91) hC d_Mo_define_91 rfl 0 rfl ?_
            obtain ⟨hi, h⟩ := ck_some h
            refine Y_iald (pc := 92) hC sm_22 rfl hi d_Mo_define_92 ?_
            refine Y_aload_n (pc := 93) hC d_Mo_define_93 rfl 1 rfl ?_
            refine Y_getR (pc := 94) hC sm_0 fl_Mo_45 rfl d_Mo_define_94 ?_
            refine Y_iload_n (pc := 97) hC d_Mo_define_97 rfl 3 rfl ?_
            obtain ⟨hi, h⟩ := ck_some h
            refine Y_iald (pc := 98) hC sm_12 rfl hi d_Mo_define_98 ?_
            refine Y_icmp_ge (pc := 99) hC 114 d_Mo_define_99 rfl (fun cc_99 => ?_) (fun cc_99 => ?_)
            · have h := ifp cc_99 h
              refine Y_iinc (pc := 114) hC (v := x2 + 1) (L' := [(2, .int (x2 + 1)), (3, .int (V 13 x2.toNatClampNeg)), (0, .ref (C.a 0)), (1, .int x1)]) d_Mo_define_114 3 rfl rfl (by decide) rfl ?_
              refine Y_goto (pc := 117) hC 35 d_Mo_define_117 rfl ?_
              refine Y_sub (pc := 35) [2, 3, 0] rfl ?_
              exact ih _ _ h
            · have h := ifn cc_99 h
              refine Y_aload_n (pc := 102) hC d_Mo_define_102 rfl 1 rfl ?_
              refine Y_getR (pc := 103) hC sm_0 fl_Mo_85 rfl d_Mo_define_103 ?_
              refine Y_iload_n (pc := 106) hC d_Mo_define_106 rfl 0 rfl ?_
              refine Y_aload_n (pc := 107) hC d_Mo_define_107 rfl 1 rfl ?_
              refine Y_getR (pc := 108) hC sm_0 fl_Mo_45 rfl d_Mo_define_108 ?_
              refine Y_iload_n (pc := 111) hC d_Mo_define_111 rfl 3 rfl ?_
              obtain ⟨hi, h⟩ := ck_some h
              refine Y_iald (pc := 112) hC sm_12 rfl hi d_Mo_define_112 ?_
              obtain ⟨hi, h⟩ := ck_some h
              obtain ⟨V4, hV4, h⟩ := nm_some h
              refine Y_iast (pc := 113) hC sm_22 (by decide) rfl hi hw rfl hV4 d_Mo_define_113 ?_
              refine Y_iinc (pc := 114) hC (v := x2 + 1) (L' := [(2, .int (x2 + 1)), (3, .int (V 13 x2.toNatClampNeg)), (0, .ref (C.a 0)), (1, .int x1)]) d_Mo_define_114 3 rfl rfl (by decide) rfl ?_
              refine Y_goto (pc := 117) hC 35 d_Mo_define_117 rfl ?_
              refine Y_sub (pc := 35) [2, 3, 0] rfl ?_
              exact ih _ _ h
        · have h := ifp cc_71 h
          refine Y_goto (pc := 74) hC 114 d_Mo_define_74 rfl ?_
          refine Y_iinc (pc := 114) hC (v := x2 + 1) (L' := [(2, .int (x2 + 1)), (3, .int (V 13 x2.toNatClampNeg)), (0, .ref (C.a 0)), (1, .int x1)]) d_Mo_define_114 3 rfl rfl (by decide) rfl ?_
          refine Y_goto (pc := 117) hC 35 d_Mo_define_117 rfl ?_
          refine Y_sub (pc := 35) [2, 3, 0] rfl ?_
          exact ih _ _ h
set_option maxHeartbeats 4000000 in
set_option maxRecDepth 100000 in
theorem ylp_Mo_define_132 {C : YC} {r : Int32} {V' : Sto} {x2 : Int32} {k303 : Int32 → Sto → RT} (hC : YF C R_Mo b_Mo_define 6 rm_Mo_define) (hw : YWr C shpM) (hE : YEi C .boolean shpM r V') (hk303 : ∀ (y1 : Int32) (V1 : Sto), k303 y1 V1 = some (r, V') → Y C shpM 6 303 [(0, .ref (C.a 0)), (2, .int x2), (1, .int y1)] [] V1) : ∀ (n : Nat) (x1 x3 : Int32) (V : Sto), lp_Mo_define_132 x2 k303 n x1 x3 V = some (r, V') → Y C shpM 6 132 [(0, .ref (C.a 0)), (1, .int x1), (2, .int x2), (3, .int x3)] [] V := by
  intro n
  induction n with
  | zero =>
    intro x1 x3 V h
    rw [lp_Mo_define_132] at h
    cases h
  | succ n ih =>
    intro x1 x3 V h
    rw [lp_Mo_define_132] at h
    refine Y_iload_n (pc := 132) hC d_Mo_define_132 rfl 3 rfl ?_
    refine Y_aload_n (pc := 133) hC d_Mo_define_133 rfl 0 rfl ?_
    refine Y_getI (pc := 134) hC sm_0 fl_Mo_157 rfl d_Mo_define_134 ?_
    refine Y_icmp_ge (pc := 137) hC 303 d_Mo_define_137 rfl (fun cc_137 => ?_) (fun cc_137 => ?_)
    · have h := ifp cc_137 h
      refine Y_sub (pc := 303) [0, 2, 1] rfl ?_
      exact hk303 _ _ h
    · have h := ifn cc_137 h
      refine Y_aload_n (pc := 140) hC d_Mo_define_140 rfl 0 rfl ?_
      refine Y_getR (pc := 141) hC sm_0 fl_Mo_48 rfl d_Mo_define_141 ?_
      refine Y_iload_n (pc := 144) hC d_Mo_define_144 rfl 3 rfl ?_
      obtain ⟨hi, h⟩ := ck_some h
      refine Y_iald (pc := 145) hC sm_13 rfl hi d_Mo_define_145 ?_
      refine Y_istore (pc := 146) hC (L' := [(4, .int (V 13 x3.toNatClampNeg)), (0, .ref (C.a 0)), (1, .int x1), (2, .int x2), (3, .int x3)]) d_Mo_define_146 (by decide) rfl ?_
      refine Y_aload_n (pc := 148) hC d_Mo_define_148 rfl 1 rfl ?_
      refine Y_getR (pc := 149) hC sm_0 fl_Mo_36 rfl d_Mo_define_149 ?_
      refine Y_iload_n (pc := 152) hC d_Mo_define_152 rfl 4 rfl ?_
      obtain ⟨hi, h⟩ := ck_some h
      refine Y_iald (pc := 153) hC sm_9 rfl hi d_Mo_define_153 ?_
      refine Y_iload_n (pc := 154) hC d_Mo_define_154 rfl 3 rfl ?_
      refine Y_icmp_ne (pc := 155) hC 297 d_Mo_define_155 rfl (fun cc_155 => ?_) (fun cc_155 => ?_)
      · have h := ifn cc_155 h
        refine Y_iinc (pc := 297) hC (v := x3 + 1) (L' := [(3, .int (x3 + 1)), (4, .int (V 13 x3.toNatClampNeg)), (0, .ref (C.a 0)), (1, .int x1), (2, .int x2)]) d_Mo_define_297 4 rfl rfl (by decide) rfl ?_
        refine Y_goto (pc := 300) hC 132 d_Mo_define_300 rfl ?_
        refine Y_sub (pc := 132) [2, 3, 4, 0] rfl ?_
        exact ih _ _ _ h
      · have h := ifp cc_155 h
        refine Y_aload_n (pc := 158) hC d_Mo_define_158 rfl 1 rfl ?_
        refine Y_getR (pc := 159) hC sm_0 fl_Mo_79 rfl d_Mo_define_159 ?_
        refine Y_iload_n (pc := 162) hC d_Mo_define_162 rfl 3 rfl ?_
        obtain ⟨hi, h⟩ := ck_some h
        refine Y_zald (pc := 163) hC sm_20 rfl hi d_Mo_define_163 ?_
        refine Y_if_eq (pc := 164) hC 297 d_Mo_define_164 rfl (fun cc_164 => ?_) (fun cc_164 => ?_)
        · have h := ifp cc_164 h
          refine Y_iinc (pc := 297) hC (v := x3 + 1) (L' := [(3, .int (x3 + 1)), (4, .int (V 13 x3.toNatClampNeg)), (0, .ref (C.a 0)), (1, .int x1), (2, .int x2)]) d_Mo_define_297 4 rfl rfl (by decide) rfl ?_
          refine Y_goto (pc := 300) hC 132 d_Mo_define_300 rfl ?_
          refine Y_sub (pc := 132) [2, 3, 4, 0] rfl ?_
          exact ih _ _ _ h
        · have h := ifn cc_164 h
          refine Y_aload_n (pc := 167) hC d_Mo_define_167 rfl 1 rfl ?_
          refine Y_getR (pc := 168) hC sm_0 fl_Mo_39 rfl d_Mo_define_168 ?_
          refine Y_iload_n (pc := 171) hC d_Mo_define_171 rfl 4 rfl ?_
          obtain ⟨hi, h⟩ := ck_some h
          refine Y_iald (pc := 172) hC sm_10 rfl hi d_Mo_define_172 ?_
          refine Y_iconst (pc := 173) hC d_Mo_define_173 ki_1 ?_
          refine Y_icmp_ne (pc := 174) hC 180 d_Mo_define_174 rfl (fun cc_174 => ?_) (fun cc_174 => ?_)
          · have h := ifn cc_174 h
            refine Y_aload_n (pc := 180) hC d_Mo_define_180 rfl 1 rfl ?_
            refine Y_getR (pc := 181) hC sm_0 fl_Mo_82 rfl d_Mo_define_181 ?_
            refine Y_iload (pc := 184) hC d_Mo_define_184 0 rfl ?_
            obtain ⟨hi, h⟩ := ck_some h
            refine Y_iald (pc := 186) hC sm_21 rfl hi d_Mo_define_186 ?_
            refine Y_iconst (pc := 187) hC d_Mo_define_187 ki_m1 ?_
            obtain ⟨j1, hj1, h⟩ := jn_some h
            have kj1 : ∀ (z1 : Int32), j1 z1 = some (r, V') → Y C shpM 6 212 [(0, .ref (C.a 0)), (1, .int x1), (2, .int x2), (3, .int x3), (4, .int (V 13 x3.toNatClampNeg))] [.int z1] V := by
              intro z1 h
              subst hj1
              dsimp only at h
              refine Y_istore (pc := 212) hC (L' := [(5, .int z1), (0, .ref (C.a 0)), (1, .int x1), (2, .int x2), (3, .int x3), (4, .int (V 13 x3.toNatClampNeg))]) d_Mo_define_212 (by decide) rfl ?_
              refine Y_aload_n (pc := 214) hC d_Mo_define_214 rfl 1 rfl ?_
              refine Y_getR (pc := 215) hC sm_0 fl_Mo_51 rfl d_Mo_define_215 ?_
              refine Y_iload_n (pc := 218) hC d_Mo_define_218 rfl 4 rfl ?_
              obtain ⟨hi, h⟩ := ck_some h
              refine Y_iald (pc := 219) hC sm_14 rfl hi d_Mo_define_219 ?_
              refine Y_iconst (pc := 220) hC d_Mo_define_220 ki_1 ?_
              refine Y_icmp_ne (pc := 221) hC 268 d_Mo_define_221 rfl (fun cc_221 => ?_) (fun cc_221 => ?_)
              · have h := ifn cc_221 h
                refine Y_aload_n (pc := 268) hC d_Mo_define_268 rfl 1 rfl ?_
                refine Y_getR (pc := 269) hC sm_0 fl_Mo_51 rfl d_Mo_define_269 ?_
                refine Y_iload_n (pc := 272) hC d_Mo_define_272 rfl 4 rfl ?_
                obtain ⟨hi, h⟩ := ck_some h
                refine Y_iald (pc := 273) hC sm_14 rfl hi d_Mo_define_273 ?_
                refine Y_iconst (pc := 274) hC d_Mo_define_274 ki_2 ?_
                refine Y_icmp_ne (pc := 275) hC 297 d_Mo_define_275 rfl (fun cc_275 => ?_) (fun cc_275 => ?_)
                · have h := ifn cc_275 h
                  refine Y_iinc (pc := 297) hC (v := x3 + 1) (L' := [(3, .int (x3 + 1)), (5, .int z1), (0, .ref (C.a 0)), (1, .int x1), (2, .int x2), (4, .int (V 13 x3.toNatClampNeg))]) d_Mo_define_297 4 rfl rfl (by decide) rfl ?_
                  refine Y_goto (pc := 300) hC 132 d_Mo_define_300 rfl ?_
                  refine Y_sub (pc := 132) [2, 3, 4, 0] rfl ?_
                  exact ih _ _ _ h
                · have h := ifp cc_275 h
                  refine Y_aload_n (pc := 278) hC d_Mo_define_278 rfl 1 rfl ?_
                  refine Y_getR (pc := 279) hC sm_0 fl_Mo_82 rfl d_Mo_define_279 ?_
                  refine Y_iload (pc := 282) hC d_Mo_define_282 5 rfl ?_
                  obtain ⟨hi, h⟩ := ck_some h
                  refine Y_iald (pc := 284) hC sm_21 rfl hi d_Mo_define_284 ?_
                  refine Y_iconst (pc := 285) hC d_Mo_define_285 ki_m1 ?_
                  refine Y_icmp_ne (pc := 286) hC 297 d_Mo_define_286 rfl (fun cc_286 => ?_) (fun cc_286 => ?_)
                  · have h := ifn cc_286 h
                    refine Y_iinc (pc := 297) hC (v := x3 + 1) (L' := [(3, .int (x3 + 1)), (5, .int z1), (0, .ref (C.a 0)), (1, .int x1), (2, .int x2), (4, .int (V 13 x3.toNatClampNeg))]) d_Mo_define_297 4 rfl rfl (by decide) rfl ?_
                    refine Y_goto (pc := 300) hC 132 d_Mo_define_300 rfl ?_
                    refine Y_sub (pc := 132) [2, 3, 4, 0] rfl ?_
                    exact ih _ _ _ h
                  · have h := ifp cc_286 h
                    refine Y_aload_n (pc := 289) hC d_Mo_define_289 rfl 1 rfl ?_
                    refine Y_getR (pc := 290) hC sm_0 fl_Mo_82 rfl d_Mo_define_290 ?_
                    refine Y_iload (pc := 293) hC d_Mo_define_293 5 rfl ?_
                    refine Y_iload_n (pc := 295) hC d_Mo_define_295 rfl 4 rfl ?_
                    obtain ⟨hi, h⟩ := ck_some h
                    obtain ⟨V6, hV6, h⟩ := nm_some h
                    refine Y_iast (pc := 296) hC sm_21 (by decide) rfl hi hw rfl hV6 d_Mo_define_296 ?_
                    refine Y_iinc (pc := 297) hC (v := x3 + 1) (L' := [(3, .int (x3 + 1)), (5, .int z1), (0, .ref (C.a 0)), (1, .int x1), (2, .int x2), (4, .int (V 13 x3.toNatClampNeg))]) d_Mo_define_297 4 rfl rfl (by decide) rfl ?_
                    refine Y_goto (pc := 300) hC 132 d_Mo_define_300 rfl ?_
                    refine Y_sub (pc := 132) [2, 3, 4, 0] rfl ?_
                    exact ih _ _ _ h
              · have h := ifp cc_221 h
                refine Y_iload (pc := 224) hC d_Mo_define_224 0 rfl ?_
                obtain ⟨j2, hj2, h⟩ := jn_some h
                have kj2 : ∀ (z2 : Int32), j2 z2 = some (r, V') → Y C shpM 6 241 [(0, .ref (C.a 0)), (2, .int x2), (3, .int x3), (4, .int (V 13 x3.toNatClampNeg)), (5, .int z1)] [.int z2] V := by
                  intro z2 h
                  subst hj2
                  dsimp only at h
                  refine Y_istore_n (pc := 241) hC (L' := [(1, .int z2), (0, .ref (C.a 0)), (2, .int x2), (3, .int x3), (4, .int (V 13 x3.toNatClampNeg)), (5, .int z1)]) d_Mo_define_241 rfl (by decide) rfl ?_
                  refine Y_aload_n (pc := 242) hC d_Mo_define_242 rfl 1 rfl ?_
                  refine Y_getR (pc := 243) hC sm_0 fl_Mo_82 rfl d_Mo_define_243 ?_
                  refine Y_iload (pc := 246) hC d_Mo_define_246 4 rfl ?_
                  refine Y_iload (pc := 248) hC d_Mo_define_248 5 rfl ?_
                  refine Y_if_eq (pc := 250) hC 263 d_Mo_define_250 rfl (fun cc_250 => ?_) (fun cc_250 => ?_)
                  · have h := ifp cc_250 h
                    refine Y_iload_n (pc := 263) hC d_Mo_define_263 rfl 3 rfl ?_
                    obtain ⟨hi, h⟩ := ck_some h
                    obtain ⟨V7, hV7, h⟩ := nm_some h
                    refine Y_iast (pc := 264) hC sm_21 (by decide) rfl hi hw rfl hV7 d_Mo_define_264 ?_
                    refine Y_goto (pc := 265) hC 297 d_Mo_define_265 rfl ?_
                    refine Y_iinc (pc := 297) hC (v := x3 + 1) (L' := [(3, .int (x3 + 1)), (1, .int z2), (0, .ref (C.a 0)), (2, .int x2), (4, .int (V 13 x3.toNatClampNeg)), (5, .int z1)]) d_Mo_define_297 3 rfl rfl (by decide) rfl ?_
                    refine Y_goto (pc := 300) hC 132 d_Mo_define_300 rfl ?_
                    refine Y_sub (pc := 132) [2, 1, 3, 0] rfl ?_
                    exact ih _ _ _ h
                  · have h := ifn cc_250 h
                    refine Y_aload_n (pc := 253) hC d_Mo_define_253 rfl 1 rfl ?_
                    refine Y_getR (pc := 254) hC sm_0 fl_Mo_82 rfl d_Mo_define_254 ?_
                    refine Y_iload (pc := 257) hC d_Mo_define_257 4 rfl ?_
                    obtain ⟨hi, h⟩ := ck_some h
                    refine Y_iald (pc := 259) hC sm_21 rfl hi d_Mo_define_259 ?_
                    refine Y_goto (pc := 260) hC 264 d_Mo_define_260 rfl ?_
                    obtain ⟨hi, h⟩ := ck_some h
                    obtain ⟨V8, hV8, h⟩ := nm_some h
                    refine Y_iast (pc := 264) hC sm_21 (by decide) rfl hi hw rfl hV8 d_Mo_define_264 ?_
                    refine Y_goto (pc := 265) hC 297 d_Mo_define_265 rfl ?_
                    refine Y_iinc (pc := 297) hC (v := x3 + 1) (L' := [(3, .int (x3 + 1)), (1, .int z2), (0, .ref (C.a 0)), (2, .int x2), (4, .int (V 13 x3.toNatClampNeg)), (5, .int z1)]) d_Mo_define_297 3 rfl rfl (by decide) rfl ?_
                    refine Y_goto (pc := 300) hC 132 d_Mo_define_300 rfl ?_
                    refine Y_sub (pc := 132) [2, 1, 3, 0] rfl ?_
                    exact ih _ _ _ h
                refine Y_if_eq (pc := 226) hC 240 d_Mo_define_226 rfl (fun cc_226 => ?_) (fun cc_226 => ?_)
                · have h := ifp cc_226 h
                  refine Y_iload_n (pc := 240) hC d_Mo_define_240 rfl 2 rfl ?_
                  refine Y_sub (pc := 241) [1, 3, 4, 5, 0] rfl ?_
                  exact kj2 _ h
                · have h := ifn cc_226 h
                  refine Y_iload (pc := 229) hC d_Mo_define_229 5 rfl ?_
                  refine Y_iload_n (pc := 231) hC d_Mo_define_231 rfl 2 rfl ?_
                  refine Y_icmp_ge (pc := 232) hC 240 d_Mo_define_232 rfl (fun cc_232 => ?_) (fun cc_232 => ?_)
                  · have h := ifp cc_232 h
                    refine Y_iload_n (pc := 240) hC d_Mo_define_240 rfl 2 rfl ?_
                    refine Y_sub (pc := 241) [1, 3, 4, 5, 0] rfl ?_
                    exact kj2 _ h
                  · have h := ifn cc_232 h
                    refine Y_iload (pc := 235) hC d_Mo_define_235 5 rfl ?_
                    refine Y_goto (pc := 237) hC 241 d_Mo_define_237 rfl ?_
                    refine Y_sub (pc := 241) [1, 3, 4, 5, 0] rfl ?_
                    exact kj2 _ h
            refine Y_icmp_eq (pc := 188) hC 211 d_Mo_define_188 rfl (fun cc_188 => ?_) (fun cc_188 => ?_)
            · have h := ifp cc_188 h
              refine Y_iconst (pc := 211) hC d_Mo_define_211 ki_0 ?_
              refine Y_sub (pc := 212) [1, 2, 3, 4, 0] rfl ?_
              exact kj1 _ h
            · have h := ifn cc_188 h
              refine Y_aload_n (pc := 191) hC d_Mo_define_191 rfl 1 rfl ?_
              refine Y_getR (pc := 192) hC sm_0 fl_Mo_51 rfl d_Mo_define_192 ?_
              refine Y_aload_n (pc := 195) hC d_Mo_define_195 rfl 1 rfl ?_
              refine Y_getR (pc := 196) hC sm_0 fl_Mo_82 rfl d_Mo_define_196 ?_
              refine Y_iload (pc := 199) hC d_Mo_define_199 0 rfl ?_
              obtain ⟨hi, h⟩ := ck_some h
              refine Y_iald (pc := 201) hC sm_21 rfl hi d_Mo_define_201 ?_
              obtain ⟨hi, h⟩ := ck_some h
              refine Y_iald (pc := 202) hC sm_14 rfl hi d_Mo_define_202 ?_
              refine Y_iconst (pc := 203) hC d_Mo_define_203 ki_1 ?_
              refine Y_icmp_ne (pc := 204) hC 211 d_Mo_define_204 rfl (fun cc_204 => ?_) (fun cc_204 => ?_)
              · have h := ifn cc_204 h
                refine Y_iconst (pc := 211) hC d_Mo_define_211 ki_0 ?_
                refine Y_sub (pc := 212) [1, 2, 3, 4, 0] rfl ?_
                exact kj1 _ h
              · have h := ifp cc_204 h
                refine Y_iconst (pc := 207) hC d_Mo_define_207 ki_1 ?_
                refine Y_goto (pc := 208) hC 212 d_Mo_define_208 rfl ?_
                refine Y_sub (pc := 212) [1, 2, 3, 4, 0] rfl ?_
                exact kj1 _ h
          · have h := ifp cc_174 h
            refine Y_goto (pc := 177) hC 297 d_Mo_define_177 rfl ?_
            refine Y_iinc (pc := 297) hC (v := x3 + 1) (L' := [(3, .int (x3 + 1)), (4, .int (V 13 x3.toNatClampNeg)), (0, .ref (C.a 0)), (1, .int x1), (2, .int x2)]) d_Mo_define_297 4 rfl rfl (by decide) rfl ?_
            refine Y_goto (pc := 300) hC 132 d_Mo_define_300 rfl ?_
            refine Y_sub (pc := 132) [2, 3, 4, 0] rfl ?_
            exact ih _ _ _ h
set_option maxHeartbeats 4000000 in
set_option maxRecDepth 100000 in
theorem ylp_Mo_define_122 {C : YC} {r : Int32} {V' : Sto} {k309 : Int32 → Sto → RT} (hC : YF C R_Mo b_Mo_define 6 rm_Mo_define) (hw : YWr C shpM) (hE : YEi C .boolean shpM r V') (hk309 : ∀ (y1 : Int32) (V1 : Sto), k309 y1 V1 = some (r, V') → Y C shpM 6 309 [(0, .ref (C.a 0)), (1, .int y1)] [] V1) : ∀ (n : Nat) (x1 x2 : Int32) (V : Sto), lp_Mo_define_122 k309 n x1 x2 V = some (r, V') → Y C shpM 6 122 [(0, .ref (C.a 0)), (1, .int x1), (2, .int x2)] [] V := by
  intro n
  induction n with
  | zero =>
    intro x1 x2 V h
    rw [lp_Mo_define_122] at h
    cases h
  | succ n ih =>
    intro x1 x2 V h
    rw [lp_Mo_define_122] at h
    refine Y_iload_n (pc := 122) hC d_Mo_define_122 rfl 2 rfl ?_
    refine Y_aload_n (pc := 123) hC d_Mo_define_123 rfl 0 rfl ?_
    refine Y_getI (pc := 124) hC sm_0 fl_Mo_129 rfl d_Mo_define_124 ?_
    refine Y_icmp_ge (pc := 127) hC 309 d_Mo_define_127 rfl (fun cc_127 => ?_) (fun cc_127 => ?_)
    · have h := ifp cc_127 h
      refine Y_sub (pc := 309) [0, 1] rfl ?_
      exact hk309 _ _ h
    · have h := ifn cc_127 h
      refine Y_iconst (pc := 130) hC d_Mo_define_130 ki_0 ?_
      refine Y_istore_n (pc := 131) hC (L' := [(3, .int 0), (0, .ref (C.a 0)), (1, .int x1), (2, .int x2)]) d_Mo_define_131 rfl (by decide) rfl ?_
      refine Y_sub (pc := 132) [1, 2, 3, 0] rfl ?_
      refine ylp_Mo_define_132 hC hw hE (fun y1 V9 h => ?_) FU _ _ _ h
      refine Y_iinc (pc := 303) hC (v := x2 + 1) (L' := [(2, .int (x2 + 1)), (0, .ref (C.a 0)), (1, .int y1)]) d_Mo_define_303 1 rfl rfl (by decide) rfl ?_
      refine Y_goto (pc := 306) hC 122 d_Mo_define_306 rfl ?_
      refine Y_sub (pc := 122) [1, 2, 0] rfl ?_
      exact ih _ _ _ h
set_option maxHeartbeats 4000000 in
set_option maxRecDepth 100000 in
theorem ylp_Mo_define_311 {C : YC} {r : Int32} {V' : Sto} {x1 : Int32} {k385 : Sto → RT} (hC : YF C R_Mo b_Mo_define 6 rm_Mo_define) (hw : YWr C shpM) (hE : YEi C .boolean shpM r V') (hk385 : ∀ (V1 : Sto), k385 V1 = some (r, V') → Y C shpM 6 385 [(0, .ref (C.a 0)), (1, .int x1)] [] V1) : ∀ (n : Nat) (x2 : Int32) (V : Sto), lp_Mo_define_311 k385 n x2 V = some (r, V') → Y C shpM 6 311 [(0, .ref (C.a 0)), (1, .int x1), (2, .int x2)] [] V := by
  intro n
  induction n with
  | zero =>
    intro x2 V h
    rw [lp_Mo_define_311] at h
    cases h
  | succ n ih =>
    intro x2 V h
    rw [lp_Mo_define_311] at h
    refine Y_iload_n (pc := 311) hC d_Mo_define_311 rfl 2 rfl ?_
    refine Y_sipush (pc := 312) hC d_Mo_define_312 ks_200 ?_
    refine Y_icmp_ge (pc := 315) hC 385 d_Mo_define_315 rfl (fun cc_315 => ?_) (fun cc_315 => ?_)
    · have h := ifp cc_315 h
      refine Y_sub (pc := 385) [0, 1] rfl ?_
      exact hk385 _ h
    · have h := ifn cc_315 h
      refine Y_aload_n (pc := 318) hC d_Mo_define_318 rfl 0 rfl ?_
      refine Y_getR (pc := 319) hC sm_0 fl_Mo_82 rfl d_Mo_define_319 ?_
      refine Y_iload_n (pc := 322) hC d_Mo_define_322 rfl 2 rfl ?_
      obtain ⟨hi, h⟩ := ck_some h
      refine Y_iald (pc := 323) hC sm_21 rfl hi d_Mo_define_323 ?_
      refine Y_iconst (pc := 324) hC d_Mo_define_324 ki_m1 ?_
      obtain ⟨j3, hj3, h⟩ := jn_some h
      have kj3 : ∀ (z3 : Int32), j3 z3 = some (r, V') → Y C shpM 6 348 [(0, .ref (C.a 0)), (1, .int x1), (2, .int x2)] [.int z3] V := by
        intro z3 h
        subst hj3
        dsimp only at h
        refine Y_istore_n (pc := 348) hC (L' := [(3, .int z3), (0, .ref (C.a 0)), (1, .int x1), (2, .int x2)]) d_Mo_define_348 rfl (by decide) rfl ?_
        refine Y_iload_n (pc := 349) hC d_Mo_define_349 rfl 0 rfl ?_
        refine Y_if_eq (pc := 350) hC 363 d_Mo_define_350 rfl (fun cc_350 => ?_) (fun cc_350 => ?_)
        · have h := ifp cc_350 h
          refine Y_aload_n (pc := 363) hC d_Mo_define_363 rfl 1 rfl ?_
          refine Y_getR (pc := 364) hC sm_0 fl_Mo_85 rfl d_Mo_define_364 ?_
          refine Y_iload_n (pc := 367) hC d_Mo_define_367 rfl 3 rfl ?_
          obtain ⟨hi, h⟩ := ck_some h
          refine Y_iald (pc := 368) hC sm_22 rfl hi d_Mo_define_368 ?_
          refine Y_if_le (pc := 369) hC 379 d_Mo_define_369 rfl (fun cc_369 => ?_) (fun cc_369 => ?_)
          · have h := ifp cc_369 h
            refine Y_iinc (pc := 379) hC (v := x2 + 1) (L' := [(2, .int (x2 + 1)), (3, .int z3), (0, .ref (C.a 0)), (1, .int x1)]) d_Mo_define_379 3 rfl rfl (by decide) rfl ?_
            refine Y_goto (pc := 382) hC 311 d_Mo_define_382 rfl ?_
            refine Y_sub (pc := 311) [2, 3, 0] rfl ?_
            exact ih _ _ h
          · have h := ifn cc_369 h
            refine Y_aload_n (pc := 372) hC d_Mo_define_372 rfl 1 rfl ?_
            refine Y_getR (pc := 373) hC sm_0 fl_Mo_82 rfl d_Mo_define_373 ?_
            refine Y_iload_n (pc := 376) hC d_Mo_define_376 rfl 3 rfl ?_
            refine Y_iconst (pc := 377) hC d_Mo_define_377 ki_m1 ?_
            obtain ⟨hi, h⟩ := ck_some h
            obtain ⟨V11, hV11, h⟩ := nm_some h
            refine Y_iast (pc := 378) hC sm_21 (by decide) rfl hi hw rfl hV11 d_Mo_define_378 ?_
            refine Y_iinc (pc := 379) hC (v := x2 + 1) (L' := [(2, .int (x2 + 1)), (3, .int z3), (0, .ref (C.a 0)), (1, .int x1)]) d_Mo_define_379 3 rfl rfl (by decide) rfl ?_
            refine Y_goto (pc := 382) hC 311 d_Mo_define_382 rfl ?_
            refine Y_sub (pc := 311) [2, 3, 0] rfl ?_
            exact ih _ _ h
        · have h := ifn cc_350 h
          refine Y_aload_n (pc := 353) hC d_Mo_define_353 rfl 1 rfl ?_
          refine Y_getR (pc := 354) hC sm_0 fl_Mo_85 rfl d_Mo_define_354 ?_
          refine Y_iload_n (pc := 357) hC d_Mo_define_357 rfl 3 rfl ?_
          refine Y_iconst (pc := 358) hC d_Mo_define_358 ki_0 ?_
          obtain ⟨hi, h⟩ := ck_some h
          obtain ⟨V12, hV12, h⟩ := nm_some h
          refine Y_iast (pc := 359) hC sm_22 (by decide) rfl hi hw rfl hV12 d_Mo_define_359 ?_
          refine Y_goto (pc := 360) hC 379 d_Mo_define_360 rfl ?_
          refine Y_iinc (pc := 379) hC (v := x2 + 1) (L' := [(2, .int (x2 + 1)), (3, .int z3), (0, .ref (C.a 0)), (1, .int x1)]) d_Mo_define_379 3 rfl rfl (by decide) rfl ?_
          refine Y_goto (pc := 382) hC 311 d_Mo_define_382 rfl ?_
          refine Y_sub (pc := 311) [2, 3, 0] rfl ?_
          exact ih _ _ h
      refine Y_icmp_eq (pc := 325) hC 347 d_Mo_define_325 rfl (fun cc_325 => ?_) (fun cc_325 => ?_)
      · have h := ifp cc_325 h
        refine Y_iconst (pc := 347) hC d_Mo_define_347 ki_0 ?_
        refine Y_sub (pc := 348) [0, 1, 2] rfl ?_
        exact kj3 _ h
      · have h := ifn cc_325 h
        refine Y_aload_n (pc := 328) hC d_Mo_define_328 rfl 0 rfl ?_
        refine Y_getR (pc := 329) hC sm_0 fl_Mo_51 rfl d_Mo_define_329 ?_
        refine Y_aload_n (pc := 332) hC d_Mo_define_332 rfl 0 rfl ?_
        refine Y_getR (pc := 333) hC sm_0 fl_Mo_82 rfl d_Mo_define_333 ?_
        refine Y_iload_n (pc := 336) hC d_Mo_define_336 rfl 2 rfl ?_
        obtain ⟨hi, h⟩ := ck_some h
        refine Y_iald (pc := 337) hC sm_21 rfl hi d_Mo_define_337 ?_
        obtain ⟨hi, h⟩ := ck_some h
        refine Y_iald (pc := 338) hC sm_14 rfl hi d_Mo_define_338 ?_
        refine Y_iconst (pc := 339) hC d_Mo_define_339 ki_1 ?_
        refine Y_icmp_ne (pc := 340) hC 347 d_Mo_define_340 rfl (fun cc_340 => ?_) (fun cc_340 => ?_)
        · have h := ifn cc_340 h
          refine Y_iconst (pc := 347) hC d_Mo_define_347 ki_0 ?_
          refine Y_sub (pc := 348) [0, 1, 2] rfl ?_
          exact kj3 _ h
        · have h := ifp cc_340 h
          refine Y_iconst (pc := 343) hC d_Mo_define_343 ki_1 ?_
          refine Y_goto (pc := 344) hC 348 d_Mo_define_344 rfl ?_
          refine Y_sub (pc := 348) [0, 1, 2] rfl ?_
          exact kj3 _ h
set_option maxHeartbeats 4000000 in
set_option maxRecDepth 100000 in
theorem c_Mo_define (l : Launch) (D : va_G) (cI cZ : ClassId) (a : Nat → Nat) {V : Sto} {r : Int32} {V' : Sto} (h : f_Mo_define V = some (r, V')) : YMi l D cI cZ a shpM y_Mo_define b_Mo_define 6 (some .boolean) rm_Mo_define true [.ref (a 0)] V r V' := by
  refine YMi_of (by decide) (Nat.le_of_ble_eq_true rfl) ?_
  intro C hl hDD hcI hcZ ha hC hw hE
  subst hl hDD hcI hcZ ha
  show Y C shpM 6 0 [(0, .ref (C.a 0))] [] V
  have hw := hw rfl
  rw [f_Mo_define] at h
  refine Y_sipush (pc := 0) hC d_Mo_define_0 ks_200 ?_
  refine Y_istore_n (pc := 3) hC (L' := [(1, .int 200), (0, .ref (C.a 0))]) d_Mo_define_3 rfl (by decide) rfl ?_
  refine Y_iconst (pc := 4) hC d_Mo_define_4 ki_0 ?_
  refine Y_istore_n (pc := 5) hC (L' := [(2, .int 0), (1, .int 200), (0, .ref (C.a 0))]) d_Mo_define_5 rfl (by decide) rfl ?_
  refine Y_sub (pc := 6) [2, 1, 0] rfl ?_
  refine ylp_Mo_define_6 hC hw hE (fun V3 h => ?_) FU _ _ h
  refine Y_iconst (pc := 33) hC d_Mo_define_33 ki_0 ?_
  refine Y_istore_n (pc := 34) hC (L' := [(2, .int 0), (0, .ref (C.a 0)), (1, .int 200)]) d_Mo_define_34 rfl (by decide) rfl ?_
  refine Y_sub (pc := 35) [1, 2, 0] rfl ?_
  refine ylp_Mo_define_35 hC hw hE (fun V5 h => ?_) FU _ _ h
  refine Y_iconst (pc := 120) hC d_Mo_define_120 ki_0 ?_
  refine Y_istore_n (pc := 121) hC (L' := [(2, .int 0), (0, .ref (C.a 0)), (1, .int 200)]) d_Mo_define_121 rfl (by decide) rfl ?_
  refine Y_sub (pc := 122) [1, 2, 0] rfl ?_
  refine ylp_Mo_define_122 hC hw hE (fun y2 V10 h => ?_) FU _ _ _ h
  refine Y_iconst (pc := 309) hC d_Mo_define_309 ki_0 ?_
  refine Y_istore_n (pc := 310) hC (L' := [(2, .int 0), (0, .ref (C.a 0)), (1, .int y2)]) d_Mo_define_310 rfl (by decide) rfl ?_
  refine Y_sub (pc := 311) [1, 2, 0] rfl ?_
  refine ylp_Mo_define_311 hC hw hE (fun V13 h => ?_) FU _ _ h
  refine Y_iload_n (pc := 385) hC d_Mo_define_385 rfl 1 rfl ?_
  refine Y_sipush (pc := 386) hC d_Mo_define_386 ks_200 ?_
  refine Y_icmp_eq (pc := 389) hC 402 d_Mo_define_389 rfl (fun cc_389 => ?_) (fun cc_389 => ?_)
  · have h := ifp cc_389 h
    refine Y_iconst (pc := 402) hC d_Mo_define_402 ki_1 ?_
    refine Y_goto (pc := 403) hC 407 d_Mo_define_403 rfl ?_
    exact Y_zret (pc := 407) hC hE d_Mo_define_407 rfl h
  · have h := ifn cc_389 h
    refine Y_aload_n (pc := 392) hC d_Mo_define_392 rfl 0 rfl ?_
    refine Y_iconst (pc := 393) hC d_Mo_define_393 ki_1 ?_
    refine Y_iload_n (pc := 394) hC d_Mo_define_394 rfl 1 rfl ?_
    refine Y_iconst (pc := 395) hC d_Mo_define_395 ki_m1 ?_
    obtain ⟨r1, V14, hc_r1, h⟩ := cl_some h
    refine Y_callV (pc := 396) hC (c_Mo_fail C.l C.D C.cI C.cZ C.a hc_r1) (fun _ => hw) sm_0 cls_Mo ml_Mo_188 mv_Mo_fail (by decide) (Nat.le_of_ble_eq_true rfl) rfl d_Mo_define_396 ?_
    refine Y_if_eq (pc := 399) hC 406 d_Mo_define_399 rfl (fun cc_399 => ?_) (fun cc_399 => ?_)
    · have h := ifp cc_399 h
      refine Y_iconst (pc := 406) hC d_Mo_define_406 ki_0 ?_
      exact Y_zret (pc := 407) hC hE d_Mo_define_407 rfl h
    · have h := ifn cc_399 h
      refine Y_iconst (pc := 402) hC d_Mo_define_402 ki_1 ?_
      refine Y_goto (pc := 403) hC 407 d_Mo_define_403 rfl ?_
      exact Y_zret (pc := 407) hC hE d_Mo_define_407 rfl h
set_option maxHeartbeats 4000000 in
set_option maxRecDepth 100000 in
theorem c_Mo_itself (l : Launch) (D : va_G) (cI cZ : ClassId) (a : Nat → Nat) {V : Sto} {p1 : Int32} {r : Int32} {V' : Sto} (h : f_Mo_itself V p1 = some (r, V')) : YMi l D cI cZ a shpM y_Mo_itself b_Mo_itself 2 (some .int) rm_Mo_itself false [.ref (a 0), .int p1] V r V' := by
  refine YMi_of (by decide) (Nat.le_of_ble_eq_true rfl) ?_
  intro C hl hDD hcI hcZ ha hC hw hE
  subst hl hDD hcI hcZ ha
  show Y C shpM 2 0 [(0, .ref (C.a 0)), (1, .int p1)] [] V
  rw [f_Mo_itself] at h
  refine Y_aload_n (pc := 0) hC d_Mo_itself_0 rfl 0 rfl ?_
  refine Y_getR (pc := 1) hC sm_0 fl_Mo_51 rfl d_Mo_itself_1 ?_
  refine Y_iload_n (pc := 4) hC d_Mo_itself_4 rfl 1 rfl ?_
  obtain ⟨hi, h⟩ := ck_some h
  refine Y_iald (pc := 5) hC sm_14 rfl hi d_Mo_itself_5 ?_
  refine Y_if_ne (pc := 6) hC 13 d_Mo_itself_6 rfl (fun cc_6 => ?_) (fun cc_6 => ?_)
  · have h := ifn cc_6 h
    refine Y_aload_n (pc := 13) hC d_Mo_itself_13 rfl 0 rfl ?_
    refine Y_getR (pc := 14) hC sm_0 fl_Mo_82 rfl d_Mo_itself_14 ?_
    refine Y_aload_n (pc := 17) hC d_Mo_itself_17 rfl 0 rfl ?_
    refine Y_getR (pc := 18) hC sm_0 fl_Mo_48 rfl d_Mo_itself_18 ?_
    refine Y_iload_n (pc := 21) hC d_Mo_itself_21 rfl 1 rfl ?_
    obtain ⟨hi, h⟩ := ck_some h
    refine Y_iald (pc := 22) hC sm_13 rfl hi d_Mo_itself_22 ?_
    obtain ⟨hi, h⟩ := ck_some h
    refine Y_iald (pc := 23) hC sm_21 rfl hi d_Mo_itself_23 ?_
    exact Y_iret (pc := 24) hC hE d_Mo_itself_24 h
  · have h := ifp cc_6 h
    refine Y_iload_n (pc := 9) hC d_Mo_itself_9 rfl 1 rfl ?_
    refine Y_goto (pc := 10) hC 24 d_Mo_itself_10 rfl ?_
    exact Y_iret (pc := 24) hC hE d_Mo_itself_24 h
set_option maxHeartbeats 4000000 in
set_option maxRecDepth 100000 in
theorem c_Mo_isCommon (l : Launch) (D : va_G) (cI cZ : ClassId) (a : Nat → Nat) {V : Sto} {p1 : Int32} {r : Int32} {V' : Sto} (h : f_Mo_isCommon V p1 = some (r, V')) : YMi l D cI cZ a shpM y_Mo_isCommon b_Mo_isCommon 2 (some .boolean) rm_Mo_isCommon false [.ref (a 0), .int p1] V r V' := by
  refine YMi_of (by decide) (Nat.le_of_ble_eq_true rfl) ?_
  intro C hl hDD hcI hcZ ha hC hw hE
  subst hl hDD hcI hcZ ha
  show Y C shpM 2 0 [(0, .ref (C.a 0)), (1, .int p1)] [] V
  rw [f_Mo_isCommon] at h
  refine Y_aload_n (pc := 0) hC d_Mo_isCommon_0 rfl 0 rfl ?_
  refine Y_getR (pc := 1) hC sm_0 fl_Mo_51 rfl d_Mo_isCommon_1 ?_
  refine Y_iload_n (pc := 4) hC d_Mo_isCommon_4 rfl 1 rfl ?_
  obtain ⟨hi, h⟩ := ck_some h
  refine Y_iald (pc := 5) hC sm_14 rfl hi d_Mo_isCommon_5 ?_
  refine Y_if_eq (pc := 6) hC 27 d_Mo_isCommon_6 rfl (fun cc_6 => ?_) (fun cc_6 => ?_)
  · have h := ifp cc_6 h
    refine Y_iconst (pc := 27) hC d_Mo_isCommon_27 ki_0 ?_
    exact Y_zret (pc := 28) hC hE d_Mo_isCommon_28 rfl h
  · have h := ifn cc_6 h
    refine Y_aload_n (pc := 9) hC d_Mo_isCommon_9 rfl 0 rfl ?_
    refine Y_getR (pc := 10) hC sm_0 fl_Mo_85 rfl d_Mo_isCommon_10 ?_
    refine Y_aload_n (pc := 13) hC d_Mo_isCommon_13 rfl 0 rfl ?_
    refine Y_getR (pc := 14) hC sm_0 fl_Mo_48 rfl d_Mo_isCommon_14 ?_
    refine Y_iload_n (pc := 17) hC d_Mo_isCommon_17 rfl 1 rfl ?_
    obtain ⟨hi, h⟩ := ck_some h
    refine Y_iald (pc := 18) hC sm_13 rfl hi d_Mo_isCommon_18 ?_
    obtain ⟨hi, h⟩ := ck_some h
    refine Y_iald (pc := 19) hC sm_22 rfl hi d_Mo_isCommon_19 ?_
    refine Y_if_le (pc := 20) hC 27 d_Mo_isCommon_20 rfl (fun cc_20 => ?_) (fun cc_20 => ?_)
    · have h := ifp cc_20 h
      refine Y_iconst (pc := 27) hC d_Mo_isCommon_27 ki_0 ?_
      exact Y_zret (pc := 28) hC hE d_Mo_isCommon_28 rfl h
    · have h := ifn cc_20 h
      refine Y_iconst (pc := 23) hC d_Mo_isCommon_23 ki_1 ?_
      refine Y_goto (pc := 24) hC 28 d_Mo_isCommon_24 rfl ?_
      exact Y_zret (pc := 28) hC hE d_Mo_isCommon_28 rfl h
set_option maxHeartbeats 4000000 in
set_option maxRecDepth 100000 in
theorem c_Mo_sortOf (l : Launch) (D : va_G) (cI cZ : ClassId) (a : Nat → Nat) {V : Sto} {p1 : Int32} {r : Int32} {V' : Sto} (h : f_Mo_sortOf V p1 = some (r, V')) : YMi l D cI cZ a shpM y_Mo_sortOf b_Mo_sortOf 3 (some .int) rm_Mo_sortOf false [.ref (a 0), .int p1] V r V' := by
  refine YMi_of (by decide) (Nat.le_of_ble_eq_true rfl) ?_
  intro C hl hDD hcI hcZ ha hC hw hE
  subst hl hDD hcI hcZ ha
  show Y C shpM 3 0 [(0, .ref (C.a 0)), (1, .int p1)] [] V
  rw [f_Mo_sortOf] at h
  refine Y_aload_n (pc := 0) hC d_Mo_sortOf_0 rfl 0 rfl ?_
  refine Y_iload_n (pc := 1) hC d_Mo_sortOf_1 rfl 1 rfl ?_
  obtain ⟨r1, V1, hc_r1, h⟩ := cl_some h
  refine Y_callV (pc := 2) hC (c_Mo_isCommon C.l C.D C.cI C.cZ C.a hc_r1) (fun q => nomatch q) sm_0 cls_Mo ml_Mo_191 mv_Mo_isCommon (by decide) (Nat.le_of_ble_eq_true rfl) rfl d_Mo_sortOf_2 ?_
  refine Y_if_eq (pc := 5) hC 10 d_Mo_sortOf_5 rfl (fun cc_5 => ?_) (fun cc_5 => ?_)
  · have h := ifp cc_5 h
    refine Y_aload_n (pc := 10) hC d_Mo_sortOf_10 rfl 0 rfl ?_
    refine Y_iload_n (pc := 11) hC d_Mo_sortOf_11 rfl 1 rfl ?_
    obtain ⟨r2, V2, hc_r2, h⟩ := cl_some h
    refine Y_callV (pc := 12) hC (c_Mo_itself C.l C.D C.cI C.cZ C.a hc_r2) (fun q => nomatch q) sm_0 cls_Mo ml_Mo_194 mv_Mo_itself (by decide) (Nat.le_of_ble_eq_true rfl) rfl d_Mo_sortOf_12 ?_
    refine Y_istore_n (pc := 15) hC (L' := [(2, .int r2), (0, .ref (C.a 0)), (1, .int p1)]) d_Mo_sortOf_15 rfl (by decide) rfl ?_
    refine Y_iload_n (pc := 16) hC d_Mo_sortOf_16 rfl 0 rfl ?_
    refine Y_iconst (pc := 17) hC d_Mo_sortOf_17 ki_m1 ?_
    refine Y_icmp_ne (pc := 18) hC 37 d_Mo_sortOf_18 rfl (fun cc_18 => ?_) (fun cc_18 => ?_)
    · have h := ifn cc_18 h
      refine Y_aload_n (pc := 37) hC d_Mo_sortOf_37 rfl 1 rfl ?_
      refine Y_getR (pc := 38) hC sm_0 fl_Mo_39 rfl d_Mo_sortOf_38 ?_
      refine Y_iload_n (pc := 41) hC d_Mo_sortOf_41 rfl 0 rfl ?_
      obtain ⟨hi, h⟩ := ck_some h
      refine Y_iald (pc := 42) hC sm_10 rfl hi d_Mo_sortOf_42 ?_
      refine Y_if_ne (pc := 43) hC 50 d_Mo_sortOf_43 rfl (fun cc_43 => ?_) (fun cc_43 => ?_)
      · have h := ifn cc_43 h
        refine Y_iconst (pc := 50) hC d_Mo_sortOf_50 ki_2 ?_
        exact Y_iret (pc := 51) hC hE d_Mo_sortOf_51 h
      · have h := ifp cc_43 h
        refine Y_iconst (pc := 46) hC d_Mo_sortOf_46 ki_1 ?_
        refine Y_goto (pc := 47) hC 51 d_Mo_sortOf_47 rfl ?_
        exact Y_iret (pc := 51) hC hE d_Mo_sortOf_51 h
    · have h := ifp cc_18 h
      refine Y_aload_n (pc := 21) hC d_Mo_sortOf_21 rfl 1 rfl ?_
      refine Y_getR (pc := 22) hC sm_0 fl_Mo_51 rfl d_Mo_sortOf_22 ?_
      refine Y_iload_n (pc := 25) hC d_Mo_sortOf_25 rfl 2 rfl ?_
      obtain ⟨hi, h⟩ := ck_some h
      refine Y_iald (pc := 26) hC sm_14 rfl hi d_Mo_sortOf_26 ?_
      refine Y_iconst (pc := 27) hC d_Mo_sortOf_27 ki_2 ?_
      refine Y_icmp_ne (pc := 28) hC 35 d_Mo_sortOf_28 rfl (fun cc_28 => ?_) (fun cc_28 => ?_)
      · have h := ifn cc_28 h
        refine Y_iconst (pc := 35) hC d_Mo_sortOf_35 ki_0 ?_
        exact Y_iret (pc := 36) hC hE d_Mo_sortOf_36 h
      · have h := ifp cc_28 h
        refine Y_iconst (pc := 31) hC d_Mo_sortOf_31 ki_2 ?_
        refine Y_goto (pc := 32) hC 36 d_Mo_sortOf_32 rfl ?_
        exact Y_iret (pc := 36) hC hE d_Mo_sortOf_36 h
  · have h := ifn cc_5 h
    refine Y_iconst (pc := 8) hC d_Mo_sortOf_8 ki_3 ?_
    exact Y_iret (pc := 9) hC hE d_Mo_sortOf_9 h
set_option maxHeartbeats 4000000 in
set_option maxRecDepth 100000 in
theorem c_Mo_numberOf (l : Launch) (D : va_G) (cI cZ : ClassId) (a : Nat → Nat) {V : Sto} {p1 : Int32} {r : Int32} {V' : Sto} (h : f_Mo_numberOf V p1 = some (r, V')) : YMi l D cI cZ a shpM y_Mo_numberOf b_Mo_numberOf 3 (some .int) rm_Mo_numberOf false [.ref (a 0), .int p1] V r V' := by
  refine YMi_of (by decide) (Nat.le_of_ble_eq_true rfl) ?_
  intro C hl hDD hcI hcZ ha hC hw hE
  subst hl hDD hcI hcZ ha
  show Y C shpM 3 0 [(0, .ref (C.a 0)), (1, .int p1)] [] V
  rw [f_Mo_numberOf] at h
  refine Y_aload_n (pc := 0) hC d_Mo_numberOf_0 rfl 0 rfl ?_
  refine Y_iload_n (pc := 1) hC d_Mo_numberOf_1 rfl 1 rfl ?_
  obtain ⟨r1, V1, hc_r1, h⟩ := cl_some h
  refine Y_callV (pc := 2) hC (c_Mo_itself C.l C.D C.cI C.cZ C.a hc_r1) (fun q => nomatch q) sm_0 cls_Mo ml_Mo_194 mv_Mo_itself (by decide) (Nat.le_of_ble_eq_true rfl) rfl d_Mo_numberOf_2 ?_
  refine Y_istore_n (pc := 5) hC (L' := [(2, .int r1), (0, .ref (C.a 0)), (1, .int p1)]) d_Mo_numberOf_5 rfl (by decide) rfl ?_
  refine Y_iload_n (pc := 6) hC d_Mo_numberOf_6 rfl 0 rfl ?_
  refine Y_iconst (pc := 7) hC d_Mo_numberOf_7 ki_m1 ?_
  refine Y_icmp_ne (pc := 8) hC 15 d_Mo_numberOf_8 rfl (fun cc_8 => ?_) (fun cc_8 => ?_)
  · have h := ifn cc_8 h
    refine Y_aload_n (pc := 15) hC d_Mo_numberOf_15 rfl 1 rfl ?_
    refine Y_getR (pc := 16) hC sm_0 fl_Mo_45 rfl d_Mo_numberOf_16 ?_
    refine Y_iload_n (pc := 19) hC d_Mo_numberOf_19 rfl 0 rfl ?_
    obtain ⟨hi, h⟩ := ck_some h
    refine Y_iald (pc := 20) hC sm_12 rfl hi d_Mo_numberOf_20 ?_
    exact Y_iret (pc := 21) hC hE d_Mo_numberOf_21 h
  · have h := ifp cc_8 h
    refine Y_iconst (pc := 11) hC d_Mo_numberOf_11 ki_0 ?_
    refine Y_goto (pc := 12) hC 21 d_Mo_numberOf_12 rfl ?_
    exact Y_iret (pc := 21) hC hE d_Mo_numberOf_21 h
set_option maxHeartbeats 4000000 in
set_option maxRecDepth 100000 in
theorem c_Mo_sectionOf (l : Launch) (D : va_G) (cI cZ : ClassId) (a : Nat → Nat) {V : Sto} {p1 : Int32} {r : Int32} {V' : Sto} (h : f_Mo_sectionOf V p1 = some (r, V')) : YMi l D cI cZ a shpM y_Mo_sectionOf b_Mo_sectionOf 2 (some .int) rm_Mo_sectionOf false [.ref (a 0), .int p1] V r V' := by
  refine YMi_of (by decide) (Nat.le_of_ble_eq_true rfl) ?_
  intro C hl hDD hcI hcZ ha hC hw hE
  subst hl hDD hcI hcZ ha
  show Y C shpM 2 0 [(0, .ref (C.a 0)), (1, .int p1)] [] V
  rw [f_Mo_sectionOf] at h
  refine Y_aload_n (pc := 0) hC d_Mo_sectionOf_0 rfl 0 rfl ?_
  refine Y_iload_n (pc := 1) hC d_Mo_sectionOf_1 rfl 1 rfl ?_
  obtain ⟨r1, V1, hc_r1, h⟩ := cl_some h
  refine Y_callV (pc := 2) hC (c_Mo_sortOf C.l C.D C.cI C.cZ C.a hc_r1) (fun q => nomatch q) sm_0 cls_Mo ml_Mo_198 mv_Mo_sortOf (by decide) (Nat.le_of_ble_eq_true rfl) rfl d_Mo_sectionOf_2 ?_
  refine Y_iconst (pc := 5) hC d_Mo_sectionOf_5 ki_1 ?_
  refine Y_icmp_ne (pc := 6) hC 22 d_Mo_sectionOf_6 rfl (fun cc_6 => ?_) (fun cc_6 => ?_)
  · have h := ifn cc_6 h
    refine Y_iconst (pc := 22) hC d_Mo_sectionOf_22 ki_m1 ?_
    exact Y_iret (pc := 23) hC hE d_Mo_sectionOf_23 h
  · have h := ifp cc_6 h
    refine Y_aload_n (pc := 9) hC d_Mo_sectionOf_9 rfl 0 rfl ?_
    refine Y_getR (pc := 10) hC sm_0 fl_Mo_42 rfl d_Mo_sectionOf_10 ?_
    refine Y_aload_n (pc := 13) hC d_Mo_sectionOf_13 rfl 0 rfl ?_
    refine Y_iload_n (pc := 14) hC d_Mo_sectionOf_14 rfl 1 rfl ?_
    obtain ⟨r2, V2, hc_r2, h⟩ := cl_some h
    refine Y_callV (pc := 15) hC (c_Mo_itself C.l C.D C.cI C.cZ C.a hc_r2) (fun q => nomatch q) sm_0 cls_Mo ml_Mo_194 mv_Mo_itself (by decide) (Nat.le_of_ble_eq_true rfl) rfl d_Mo_sectionOf_15 ?_
    obtain ⟨hi, h⟩ := ck_some h
    refine Y_iald (pc := 18) hC sm_11 rfl hi d_Mo_sectionOf_18 ?_
    refine Y_goto (pc := 19) hC 23 d_Mo_sectionOf_19 rfl ?_
    exact Y_iret (pc := 23) hC hE d_Mo_sectionOf_23 h
set_option maxHeartbeats 4000000 in
set_option maxRecDepth 100000 in
theorem c_Mo_reachBy (l : Launch) (D : va_G) (cI cZ : ClassId) (a : Nat → Nat) {V : Sto} {p1 : Int32} {r : Int32} {V' : Sto} (h : f_Mo_reachBy V p1 = some (r, V')) : YMi l D cI cZ a shpM y_Mo_reachBy b_Mo_reachBy 5 (some .boolean) rm_Mo_reachBy true [.ref (a 0), .int p1] V r V' := by
  refine YMi_of (by decide) (Nat.le_of_ble_eq_true rfl) ?_
  intro C hl hDD hcI hcZ ha hC hw hE
  subst hl hDD hcI hcZ ha
  show Y C shpM 5 0 [(0, .ref (C.a 0)), (1, .int p1)] [] V
  have hw := hw rfl
  rw [f_Mo_reachBy] at h
  refine Y_aload_n (pc := 0) hC d_Mo_reachBy_0 rfl 0 rfl ?_
  refine Y_getR (pc := 1) hC sm_0 fl_Mo_63 rfl d_Mo_reachBy_1 ?_
  refine Y_iload_n (pc := 4) hC d_Mo_reachBy_4 rfl 1 rfl ?_
  obtain ⟨hi, h⟩ := ck_some h
  refine Y_iald (pc := 5) hC sm_18 rfl hi d_Mo_reachBy_5 ?_
  refine Y_istore_n (pc := 6) hC (L' := [(2, .int (V 18 p1.toNatClampNeg)), (0, .ref (C.a 0)), (1, .int p1)]) d_Mo_reachBy_6 rfl (by decide) rfl ?_
  refine Y_aload_n (pc := 7) hC d_Mo_reachBy_7 rfl 1 rfl ?_
  refine Y_getR (pc := 8) hC sm_0 fl_Mo_94 rfl d_Mo_reachBy_8 ?_
  refine Y_aload_n (pc := 11) hC d_Mo_reachBy_11 rfl 1 rfl ?_
  refine Y_getR (pc := 12) hC sm_0 fl_Mo_54 rfl d_Mo_reachBy_12 ?_
  refine Y_iload_n (pc := 15) hC d_Mo_reachBy_15 rfl 2 rfl ?_
  obtain ⟨hi, h⟩ := ck_some h
  refine Y_iald (pc := 16) hC sm_15 rfl hi d_Mo_reachBy_16 ?_
  obtain ⟨hi, h⟩ := ck_some h
  refine Y_zald (pc := 17) hC sm_25 rfl hi d_Mo_reachBy_17 ?_
  refine Y_if_ne (pc := 18) hC 23 d_Mo_reachBy_18 rfl (fun cc_18 => ?_) (fun cc_18 => ?_)
  · have h := ifn cc_18 h
    refine Y_aload_n (pc := 23) hC d_Mo_reachBy_23 rfl 1 rfl ?_
    refine Y_iload_n (pc := 24) hC d_Mo_reachBy_24 rfl 0 rfl ?_
    obtain ⟨r1, V1, hc_r1, h⟩ := cl_some h
    refine Y_callV (pc := 25) hC (c_Mo_sectionOf C.l C.D C.cI C.cZ C.a hc_r1) (fun q => nomatch q) sm_0 cls_Mo ml_Mo_204 mv_Mo_sectionOf (by decide) (Nat.le_of_ble_eq_true rfl) rfl d_Mo_reachBy_25 ?_
    refine Y_istore_n (pc := 28) hC (L' := [(3, .int r1), (2, .int (V 18 p1.toNatClampNeg)), (0, .ref (C.a 0)), (1, .int p1)]) d_Mo_reachBy_28 rfl (by decide) rfl ?_
    refine Y_iload_n (pc := 29) hC d_Mo_reachBy_29 rfl 0 rfl ?_
    refine Y_iconst (pc := 30) hC d_Mo_reachBy_30 ki_m1 ?_
    obtain ⟨j1, hj1, h⟩ := jn_some h
    have kj1 : ∀ (z1 : Int32), j1 z1 = some (r, V') → Y C shpM 5 48 [(0, .ref (C.a 0)), (2, .int (V 18 p1.toNatClampNeg)), (3, .int r1)] [.int z1] V1 := by
      intro z1 h
      subst hj1
      dsimp only at h
      refine Y_istore (pc := 48) hC (L' := [(4, .int z1), (0, .ref (C.a 0)), (2, .int (V 18 p1.toNatClampNeg)), (3, .int r1)]) d_Mo_reachBy_48 (by decide) rfl ?_
      refine Y_iload (pc := 50) hC d_Mo_reachBy_50 0 rfl ?_
      obtain ⟨j2, hj2, h⟩ := jn_some h
      have kj2 : ∀ (V3 : Sto), j2 V3 = some (r, V') → Y C shpM 5 62 [(0, .ref (C.a 0)), (2, .int (V 18 p1.toNatClampNeg)), (4, .int z1)] [] V3 := by
        intro V3 h
        subst hj2
        dsimp only at h
        refine Y_aload_n (pc := 62) hC d_Mo_reachBy_62 rfl 0 rfl ?_
        refine Y_iload_n (pc := 63) hC d_Mo_reachBy_63 rfl 1 rfl ?_
        obtain ⟨r2, V4, hc_r2, h⟩ := cl_some h
        refine Y_callV (pc := 64) hC (c_Mo_isCommon C.l C.D C.cI C.cZ C.a hc_r2) (fun q => nomatch q) sm_0 cls_Mo ml_Mo_191 mv_Mo_isCommon (by decide) (Nat.le_of_ble_eq_true rfl) rfl d_Mo_reachBy_64 ?_
        refine Y_if_eq (pc := 67) hC 82 d_Mo_reachBy_67 rfl (fun cc_67 => ?_) (fun cc_67 => ?_)
        · have h := ifp cc_67 h
          refine Y_iload (pc := 82) hC d_Mo_reachBy_82 2 rfl ?_
          obtain ⟨hbb, h⟩ := ck_some h
          exact Y_zret (pc := 84) hC hE d_Mo_reachBy_84 hbb h
        · have h := ifn cc_67 h
          refine Y_aload_n (pc := 70) hC d_Mo_reachBy_70 rfl 0 rfl ?_
          refine Y_getR (pc := 71) hC sm_0 fl_Mo_88 rfl d_Mo_reachBy_71 ?_
          refine Y_aload_n (pc := 74) hC d_Mo_reachBy_74 rfl 0 rfl ?_
          refine Y_getR (pc := 75) hC sm_0 fl_Mo_48 rfl d_Mo_reachBy_75 ?_
          refine Y_iload_n (pc := 78) hC d_Mo_reachBy_78 rfl 1 rfl ?_
          obtain ⟨hi, h⟩ := ck_some h
          refine Y_iald (pc := 79) hC sm_13 rfl hi d_Mo_reachBy_79 ?_
          refine Y_iconst (pc := 80) hC d_Mo_reachBy_80 ki_1 ?_
          obtain ⟨hi, h⟩ := ck_some h
          obtain ⟨V5, hV5, h⟩ := nm_some h
          refine Y_zast (pc := 81) hC sm_23 (by decide) rfl hi hw rfl hV5 d_Mo_reachBy_81 ?_
          refine Y_iload (pc := 82) hC d_Mo_reachBy_82 2 rfl ?_
          obtain ⟨hbb, h⟩ := ck_some h
          exact Y_zret (pc := 84) hC hE d_Mo_reachBy_84 hbb h
      refine Y_if_eq (pc := 52) hC 62 d_Mo_reachBy_52 rfl (fun cc_52 => ?_) (fun cc_52 => ?_)
      · have h := ifp cc_52 h
        refine Y_sub (pc := 62) [1, 2, 0] rfl ?_
        exact kj2 _ h
      · have h := ifn cc_52 h
        refine Y_aload_n (pc := 55) hC d_Mo_reachBy_55 rfl 1 rfl ?_
        refine Y_getR (pc := 56) hC sm_0 fl_Mo_94 rfl d_Mo_reachBy_56 ?_
        refine Y_iload_n (pc := 59) hC d_Mo_reachBy_59 rfl 3 rfl ?_
        refine Y_iconst (pc := 60) hC d_Mo_reachBy_60 ki_1 ?_
        obtain ⟨hi, h⟩ := ck_some h
        obtain ⟨V2, hV2, h⟩ := nm_some h
        refine Y_zast (pc := 61) hC sm_25 (by decide) rfl hi hw rfl hV2 d_Mo_reachBy_61 ?_
        refine Y_sub (pc := 62) [1, 2, 0] rfl ?_
        exact kj2 _ h
    refine Y_icmp_eq (pc := 31) hC 47 d_Mo_reachBy_31 rfl (fun cc_31 => ?_) (fun cc_31 => ?_)
    · have h := ifp cc_31 h
      refine Y_iconst (pc := 47) hC d_Mo_reachBy_47 ki_0 ?_
      refine Y_sub (pc := 48) [2, 1, 0] rfl ?_
      exact kj1 _ h
    · have h := ifn cc_31 h
      refine Y_aload_n (pc := 34) hC d_Mo_reachBy_34 rfl 2 rfl ?_
      refine Y_getR (pc := 35) hC sm_0 fl_Mo_94 rfl d_Mo_reachBy_35 ?_
      refine Y_iload_n (pc := 38) hC d_Mo_reachBy_38 rfl 0 rfl ?_
      obtain ⟨hi, h⟩ := ck_some h
      refine Y_zald (pc := 39) hC sm_25 rfl hi d_Mo_reachBy_39 ?_
      refine Y_if_ne (pc := 40) hC 47 d_Mo_reachBy_40 rfl (fun cc_40 => ?_) (fun cc_40 => ?_)
      · have h := ifn cc_40 h
        refine Y_iconst (pc := 47) hC d_Mo_reachBy_47 ki_0 ?_
        refine Y_sub (pc := 48) [2, 1, 0] rfl ?_
        exact kj1 _ h
      · have h := ifp cc_40 h
        refine Y_iconst (pc := 43) hC d_Mo_reachBy_43 ki_1 ?_
        refine Y_goto (pc := 44) hC 48 d_Mo_reachBy_44 rfl ?_
        refine Y_sub (pc := 48) [2, 1, 0] rfl ?_
        exact kj1 _ h
  · have h := ifp cc_18 h
    refine Y_iconst (pc := 21) hC d_Mo_reachBy_21 ki_0 ?_
    exact Y_zret (pc := 22) hC hE d_Mo_reachBy_22 rfl h
