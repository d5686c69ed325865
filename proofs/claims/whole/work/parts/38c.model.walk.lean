set_option maxHeartbeats 4000000 in
set_option maxRecDepth 100000 in
theorem c_Mo_means (l : Launch) (D : va_G) (cI cZ : ClassId) (a : Nat → Nat) {V : Sto} {p1 : Int32} {p2 : Int32} {r : Int32} {V' : Sto} (h : f_Mo_means V p1 p2 = some (r, V')) : YMi l D cI cZ a shpM y_Mo_means b_Mo_means 6 (some .int) rm_Mo_means true [.ref (a 0), .int p1, .int p2] V r V' := by
  refine YMi_of (by decide) (Nat.le_of_ble_eq_true rfl) ?_
  intro C hl hDD hcI hcZ ha hC hw hE
  subst hl hDD hcI hcZ ha
  show Y C shpM 6 0 [(0, .ref (C.a 0)), (1, .int p1), (2, .int p2)] [] V
  have hw := hw rfl
  rw [f_Mo_means] at h
  refine Y_aload_n (pc := 0) hC d_Mo_means_0 rfl 0 rfl ?_
  refine Y_aload_n (pc := 1) hC d_Mo_means_1 rfl 0 rfl ?_
  refine Y_getI (pc := 2) hC sm_0 fl_Mo_118 rfl d_Mo_means_2 ?_
  obtain ⟨j1, hj1, h⟩ := jn_some h
  have kj1 : ∀ (z1 : Int32), j1 z1 = some (r, V') → Y C shpM 6 13 [(0, .ref (C.a 0)), (1, .int p1), (2, .int p2)] [.int z1, .ref (C.a 0)] V := by
    intro z1 h
    subst hj1
    dsimp only at h
    refine Y_aload_n (pc := 13) hC d_Mo_means_13 rfl 0 rfl ?_
    refine Y_getI (pc := 14) hC sm_0 fl_Mo_118 rfl d_Mo_means_14 ?_
    obtain ⟨j2, hj2, h⟩ := jn_some h
    have kj2 : ∀ (z2 : Int32) (V3 : Sto), j2 z2 V3 = some (r, V') → Y C shpM 6 48 [(0, .ref (C.a 0)), (1, .int p1), (2, .int p2)] [.int z2, .int z1, .ref (C.a 0)] V3 := by
      intro z2 V3 h
      subst hj2
      dsimp only at h
      obtain ⟨r3, V4, hc_r3, h⟩ := cl_some h
      refine Y_callV (pc := 48) hC (c_Mo_refuse C.l C.D C.cI C.cZ C.a hc_r3) (fun _ => hw) sm_0 cls_Mo ml_Mo_132 mv_Mo_refuse (by decide) (Nat.le_of_ble_eq_true rfl) rfl d_Mo_means_48 ?_
      refine Y_if_eq (pc := 51) hC 56 d_Mo_means_51 rfl (fun cc_51 => ?_) (fun cc_51 => ?_)
      · have h := ifp cc_51 h
        refine Y_aload_n (pc := 56) hC d_Mo_means_56 rfl 0 rfl ?_
        refine Y_getR (pc := 57) hC sm_0 fl_Mo_79 rfl d_Mo_means_57 ?_
        refine Y_aload_n (pc := 60) hC d_Mo_means_60 rfl 0 rfl ?_
        refine Y_getR (pc := 61) hC sm_0 fl_Mo_36 rfl d_Mo_means_61 ?_
        refine Y_iload_n (pc := 64) hC d_Mo_means_64 rfl 1 rfl ?_
        obtain ⟨hi, h⟩ := ck_some h
        refine Y_iald (pc := 65) hC sm_9 rfl hi d_Mo_means_65 ?_
        obtain ⟨hi, h⟩ := ck_some h
        refine Y_zald (pc := 66) hC sm_20 rfl hi d_Mo_means_66 ?_
        refine Y_istore_n (pc := 67) hC (L' := [(3, .int (V4 20 (V4 9 p1.toNatClampNeg).toNatClampNeg)), (0, .ref (C.a 0)), (1, .int p1), (2, .int p2)]) d_Mo_means_67 rfl (by decide) rfl ?_
        refine Y_iload_n (pc := 68) hC d_Mo_means_68 rfl 0 rfl ?_
        obtain ⟨j3, hj3, h⟩ := jn_some h
        have kj3 : ∀ (z3 : Int32) (V6 : Sto), j3 z3 V6 = some (r, V') → Y C shpM 6 81 [(0, .ref (C.a 0)), (1, .int p1), (2, .int p2)] [.int z3] V6 := by
          intro z3 V6 h
          subst hj3
          dsimp only at h
          refine Y_istore (pc := 81) hC (L' := [(4, .int z3), (0, .ref (C.a 0)), (1, .int p1), (2, .int p2)]) d_Mo_means_81 (by decide) rfl ?_
          refine Y_iload_n (pc := 83) hC d_Mo_means_83 rfl 3 rfl ?_
          refine Y_if_ne (pc := 84) hC 90 d_Mo_means_84 rfl (fun cc_84 => ?_) (fun cc_84 => ?_)
          · have h := ifn cc_84 h
            refine Y_iload_n (pc := 90) hC d_Mo_means_90 rfl 3 rfl ?_
            refine Y_iconst (pc := 91) hC d_Mo_means_91 ki_1 ?_
            refine Y_icmp_ne (pc := 92) hC 111 d_Mo_means_92 rfl (fun cc_92 => ?_) (fun cc_92 => ?_)
            · have h := ifn cc_92 h
              refine Y_iload (pc := 111) hC d_Mo_means_111 0 rfl ?_
              refine Y_iconst (pc := 113) hC d_Mo_means_113 ki_2 ?_
              refine Y_icmp_eq (pc := 114) hC 156 d_Mo_means_114 rfl (fun cc_114 => ?_) (fun cc_114 => ?_)
              · have h := ifp cc_114 h
                refine Y_iconst (pc := 156) hC d_Mo_means_156 ki_1 ?_
                refine Y_goto (pc := 157) hC 161 d_Mo_means_157 rfl ?_
                refine Y_istore (pc := 161) hC (L' := [(5, .int 1), (4, .int z3), (0, .ref (C.a 0)), (1, .int p1), (2, .int p2)]) d_Mo_means_161 (by decide) rfl ?_
                refine Y_iload (pc := 163) hC d_Mo_means_163 0 rfl ?_
                refine Y_if_eq (pc := 165) hC 176 d_Mo_means_165 rfl (fun q => absurd q (by decide)) (fun _ => ?_)
                refine Y_aload_n (pc := 168) hC d_Mo_means_168 rfl 2 rfl ?_
                refine Y_iload_n (pc := 169) hC d_Mo_means_169 rfl 3 rfl ?_
                obtain ⟨r5, V7, hc_r5, h⟩ := cl_some h
                refine Y_callV (pc := 170) hC (c_Mo_meaning C.l C.D C.cI C.cZ C.a hc_r5) (fun q => nomatch q) sm_0 cls_Mo ml_Mo_256 mv_Mo_meaning (by decide) (Nat.le_of_ble_eq_true rfl) rfl d_Mo_means_170 ?_
                refine Y_goto (pc := 173) hC 177 d_Mo_means_173 rfl ?_
                exact Y_iret (pc := 177) hC hE d_Mo_means_177 h
              · have h := ifn cc_114 h
                refine Y_iload (pc := 117) hC d_Mo_means_117 0 rfl ?_
                refine Y_iconst (pc := 119) hC d_Mo_means_119 ki_1 ?_
                refine Y_icmp_ne (pc := 120) hC 136 d_Mo_means_120 rfl (fun cc_120 => ?_) (fun cc_120 => ?_)
                · have h := ifn cc_120 h
                  refine Y_iload (pc := 136) hC d_Mo_means_136 0 rfl ?_
                  refine Y_iconst (pc := 138) hC d_Mo_means_138 ki_3 ?_
                  refine Y_icmp_ne (pc := 139) hC 160 d_Mo_means_139 rfl (fun cc_139 => ?_) (fun cc_139 => ?_)
                  · have h := ifn cc_139 h
                    refine Y_iconst (pc := 160) hC d_Mo_means_160 ki_0 ?_
                    refine Y_istore (pc := 161) hC (L' := [(5, .int 0), (4, .int z3), (0, .ref (C.a 0)), (1, .int p1), (2, .int p2)]) d_Mo_means_161 (by decide) rfl ?_
                    refine Y_iload (pc := 163) hC d_Mo_means_163 0 rfl ?_
                    refine Y_if_eq (pc := 165) hC 176 d_Mo_means_165 rfl (fun _ => ?_) (fun q => absurd q (by decide))
                    refine Y_iconst (pc := 176) hC d_Mo_means_176 ki_0 ?_
                    exact Y_iret (pc := 177) hC hE d_Mo_means_177 h
                  · have h := ifp cc_139 h
                    refine Y_aload_n (pc := 142) hC d_Mo_means_142 rfl 1 rfl ?_
                    refine Y_getR (pc := 143) hC sm_0 fl_Mo_88 rfl d_Mo_means_143 ?_
                    refine Y_aload_n (pc := 146) hC d_Mo_means_146 rfl 1 rfl ?_
                    refine Y_getR (pc := 147) hC sm_0 fl_Mo_48 rfl d_Mo_means_147 ?_
                    refine Y_iload_n (pc := 150) hC d_Mo_means_150 rfl 2 rfl ?_
                    obtain ⟨hi, h⟩ := ck_some h
                    refine Y_iald (pc := 151) hC sm_13 rfl hi d_Mo_means_151 ?_
                    obtain ⟨hi, h⟩ := ck_some h
                    refine Y_zald (pc := 152) hC sm_23 rfl hi d_Mo_means_152 ?_
                    refine Y_if_eq (pc := 153) hC 160 d_Mo_means_153 rfl (fun cc_153 => ?_) (fun cc_153 => ?_)
                    · have h := ifp cc_153 h
                      refine Y_iconst (pc := 160) hC d_Mo_means_160 ki_0 ?_
                      refine Y_istore (pc := 161) hC (L' := [(5, .int 0), (4, .int z3), (0, .ref (C.a 0)), (1, .int p1), (2, .int p2)]) d_Mo_means_161 (by decide) rfl ?_
                      refine Y_iload (pc := 163) hC d_Mo_means_163 0 rfl ?_
                      refine Y_if_eq (pc := 165) hC 176 d_Mo_means_165 rfl (fun _ => ?_) (fun q => absurd q (by decide))
                      refine Y_iconst (pc := 176) hC d_Mo_means_176 ki_0 ?_
                      exact Y_iret (pc := 177) hC hE d_Mo_means_177 h
                    · have h := ifn cc_153 h
                      refine Y_iconst (pc := 156) hC d_Mo_means_156 ki_1 ?_
                      refine Y_goto (pc := 157) hC 161 d_Mo_means_157 rfl ?_
                      refine Y_istore (pc := 161) hC (L' := [(5, .int 1), (4, .int z3), (0, .ref (C.a 0)), (1, .int p1), (2, .int p2)]) d_Mo_means_161 (by decide) rfl ?_
                      refine Y_iload (pc := 163) hC d_Mo_means_163 0 rfl ?_
                      refine Y_if_eq (pc := 165) hC 176 d_Mo_means_165 rfl (fun q => absurd q (by decide)) (fun _ => ?_)
                      refine Y_aload_n (pc := 168) hC d_Mo_means_168 rfl 2 rfl ?_
                      refine Y_iload_n (pc := 169) hC d_Mo_means_169 rfl 3 rfl ?_
                      obtain ⟨r6, V8, hc_r6, h⟩ := cl_some h
                      refine Y_callV (pc := 170) hC (c_Mo_meaning C.l C.D C.cI C.cZ C.a hc_r6) (fun q => nomatch q) sm_0 cls_Mo ml_Mo_256 mv_Mo_meaning (by decide) (Nat.le_of_ble_eq_true rfl) rfl d_Mo_means_170 ?_
                      refine Y_goto (pc := 173) hC 177 d_Mo_means_173 rfl ?_
                      exact Y_iret (pc := 177) hC hE d_Mo_means_177 h
                · have h := ifp cc_120 h
                  refine Y_aload_n (pc := 123) hC d_Mo_means_123 rfl 1 rfl ?_
                  refine Y_getR (pc := 124) hC sm_0 fl_Mo_94 rfl d_Mo_means_124 ?_
                  refine Y_aload_n (pc := 127) hC d_Mo_means_127 rfl 1 rfl ?_
                  refine Y_iload_n (pc := 128) hC d_Mo_means_128 rfl 2 rfl ?_
                  obtain ⟨r7, V9, hc_r7, h⟩ := cl_some h
                  refine Y_callV (pc := 129) hC (c_Mo_sectionOf C.l C.D C.cI C.cZ C.a hc_r7) (fun q => nomatch q) sm_0 cls_Mo ml_Mo_204 mv_Mo_sectionOf (by decide) (Nat.le_of_ble_eq_true rfl) rfl d_Mo_means_129 ?_
                  obtain ⟨hi, h⟩ := ck_some h
                  refine Y_zald (pc := 132) hC sm_25 rfl hi d_Mo_means_132 ?_
                  refine Y_if_ne (pc := 133) hC 156 d_Mo_means_133 rfl (fun cc_133 => ?_) (fun cc_133 => ?_)
                  · have h := ifn cc_133 h
                    refine Y_iconst (pc := 156) hC d_Mo_means_156 ki_1 ?_
                    refine Y_goto (pc := 157) hC 161 d_Mo_means_157 rfl ?_
                    refine Y_istore (pc := 161) hC (L' := [(5, .int 1), (4, .int z3), (0, .ref (C.a 0)), (1, .int p1), (2, .int p2)]) d_Mo_means_161 (by decide) rfl ?_
                    refine Y_iload (pc := 163) hC d_Mo_means_163 0 rfl ?_
                    refine Y_if_eq (pc := 165) hC 176 d_Mo_means_165 rfl (fun q => absurd q (by decide)) (fun _ => ?_)
                    refine Y_aload_n (pc := 168) hC d_Mo_means_168 rfl 2 rfl ?_
                    refine Y_iload_n (pc := 169) hC d_Mo_means_169 rfl 3 rfl ?_
                    obtain ⟨r8, V10, hc_r8, h⟩ := cl_some h
                    refine Y_callV (pc := 170) hC (c_Mo_meaning C.l C.D C.cI C.cZ C.a hc_r8) (fun q => nomatch q) sm_0 cls_Mo ml_Mo_256 mv_Mo_meaning (by decide) (Nat.le_of_ble_eq_true rfl) rfl d_Mo_means_170 ?_
                    refine Y_goto (pc := 173) hC 177 d_Mo_means_173 rfl ?_
                    exact Y_iret (pc := 177) hC hE d_Mo_means_177 h
                  · have h := ifp cc_133 h
                    refine Y_iload (pc := 136) hC d_Mo_means_136 0 rfl ?_
                    refine Y_iconst (pc := 138) hC d_Mo_means_138 ki_3 ?_
                    refine Y_icmp_ne (pc := 139) hC 160 d_Mo_means_139 rfl (fun cc_139 => ?_) (fun cc_139 => ?_)
                    · have h := ifn cc_139 h
                      refine Y_iconst (pc := 160) hC d_Mo_means_160 ki_0 ?_
                      refine Y_istore (pc := 161) hC (L' := [(5, .int 0), (4, .int z3), (0, .ref (C.a 0)), (1, .int p1), (2, .int p2)]) d_Mo_means_161 (by decide) rfl ?_
                      refine Y_iload (pc := 163) hC d_Mo_means_163 0 rfl ?_
                      refine Y_if_eq (pc := 165) hC 176 d_Mo_means_165 rfl (fun _ => ?_) (fun q => absurd q (by decide))
                      refine Y_iconst (pc := 176) hC d_Mo_means_176 ki_0 ?_
                      exact Y_iret (pc := 177) hC hE d_Mo_means_177 h
                    · have h := ifp cc_139 h
                      refine Y_aload_n (pc := 142) hC d_Mo_means_142 rfl 1 rfl ?_
                      refine Y_getR (pc := 143) hC sm_0 fl_Mo_88 rfl d_Mo_means_143 ?_
                      refine Y_aload_n (pc := 146) hC d_Mo_means_146 rfl 1 rfl ?_
                      refine Y_getR (pc := 147) hC sm_0 fl_Mo_48 rfl d_Mo_means_147 ?_
                      refine Y_iload_n (pc := 150) hC d_Mo_means_150 rfl 2 rfl ?_
                      obtain ⟨hi, h⟩ := ck_some h
                      refine Y_iald (pc := 151) hC sm_13 rfl hi d_Mo_means_151 ?_
                      obtain ⟨hi, h⟩ := ck_some h
                      refine Y_zald (pc := 152) hC sm_23 rfl hi d_Mo_means_152 ?_
                      refine Y_if_eq (pc := 153) hC 160 d_Mo_means_153 rfl (fun cc_153 => ?_) (fun cc_153 => ?_)
                      · have h := ifp cc_153 h
                        refine Y_iconst (pc := 160) hC d_Mo_means_160 ki_0 ?_
                        refine Y_istore (pc := 161) hC (L' := [(5, .int 0), (4, .int z3), (0, .ref (C.a 0)), (1, .int p1), (2, .int p2)]) d_Mo_means_161 (by decide) rfl ?_
                        refine Y_iload (pc := 163) hC d_Mo_means_163 0 rfl ?_
                        refine Y_if_eq (pc := 165) hC 176 d_Mo_means_165 rfl (fun _ => ?_) (fun q => absurd q (by decide))
                        refine Y_iconst (pc := 176) hC d_Mo_means_176 ki_0 ?_
                        exact Y_iret (pc := 177) hC hE d_Mo_means_177 h
                      · have h := ifn cc_153 h
                        refine Y_iconst (pc := 156) hC d_Mo_means_156 ki_1 ?_
                        refine Y_goto (pc := 157) hC 161 d_Mo_means_157 rfl ?_
                        refine Y_istore (pc := 161) hC (L' := [(5, .int 1), (4, .int z3), (0, .ref (C.a 0)), (1, .int p1), (2, .int p2)]) d_Mo_means_161 (by decide) rfl ?_
                        refine Y_iload (pc := 163) hC d_Mo_means_163 0 rfl ?_
                        refine Y_if_eq (pc := 165) hC 176 d_Mo_means_165 rfl (fun q => absurd q (by decide)) (fun _ => ?_)
                        refine Y_aload_n (pc := 168) hC d_Mo_means_168 rfl 2 rfl ?_
                        refine Y_iload_n (pc := 169) hC d_Mo_means_169 rfl 3 rfl ?_
                        obtain ⟨r9, V11, hc_r9, h⟩ := cl_some h
                        refine Y_callV (pc := 170) hC (c_Mo_meaning C.l C.D C.cI C.cZ C.a hc_r9) (fun q => nomatch q) sm_0 cls_Mo ml_Mo_256 mv_Mo_meaning (by decide) (Nat.le_of_ble_eq_true rfl) rfl d_Mo_means_170 ?_
                        refine Y_goto (pc := 173) hC 177 d_Mo_means_173 rfl ?_
                        exact Y_iret (pc := 177) hC hE d_Mo_means_177 h
            · have h := ifp cc_92 h
              refine Y_iload (pc := 95) hC d_Mo_means_95 0 rfl ?_
              refine Y_iconst (pc := 97) hC d_Mo_means_97 ki_1 ?_
              refine Y_icmp_ne (pc := 98) hC 109 d_Mo_means_98 rfl (fun cc_98 => ?_) (fun cc_98 => ?_)
              · have h := ifn cc_98 h
                refine Y_iconst (pc := 109) hC d_Mo_means_109 ki_m1 ?_
                exact Y_iret (pc := 110) hC hE d_Mo_means_110 h
              · have h := ifp cc_98 h
                refine Y_aload_n (pc := 101) hC d_Mo_means_101 rfl 1 rfl ?_
                refine Y_iload_n (pc := 102) hC d_Mo_means_102 rfl 2 rfl ?_
                obtain ⟨r10, V12, hc_r10, h⟩ := cl_some h
                refine Y_callV (pc := 103) hC (c_Mo_sectionOf C.l C.D C.cI C.cZ C.a hc_r10) (fun q => nomatch q) sm_0 cls_Mo ml_Mo_204 mv_Mo_sectionOf (by decide) (Nat.le_of_ble_eq_true rfl) rfl d_Mo_means_103 ?_
                refine Y_goto (pc := 106) hC 110 d_Mo_means_106 rfl ?_
                exact Y_iret (pc := 110) hC hE d_Mo_means_110 h
          · have h := ifp cc_84 h
            refine Y_iload (pc := 87) hC d_Mo_means_87 0 rfl ?_
            exact Y_iret (pc := 89) hC hE d_Mo_means_89 h
        refine Y_if_eq (pc := 69) hC 80 d_Mo_means_69 rfl (fun cc_69 => ?_) (fun cc_69 => ?_)
        · have h := ifp cc_69 h
          refine Y_iconst (pc := 80) hC d_Mo_means_80 ki_m1 ?_
          refine Y_sub (pc := 81) [1, 2, 3] rfl ?_
          exact kj3 _ _ h
        · have h := ifn cc_69 h
          refine Y_aload_n (pc := 72) hC d_Mo_means_72 rfl 1 rfl ?_
          refine Y_iload_n (pc := 73) hC d_Mo_means_73 rfl 2 rfl ?_
          obtain ⟨r4, V5, hc_r4, h⟩ := cl_some h
          refine Y_callV (pc := 74) hC (c_Mo_sortOf C.l C.D C.cI C.cZ C.a hc_r4) (fun q => nomatch q) sm_0 cls_Mo ml_Mo_198 mv_Mo_sortOf (by decide) (Nat.le_of_ble_eq_true rfl) rfl d_Mo_means_74 ?_
          refine Y_goto (pc := 77) hC 81 d_Mo_means_77 rfl ?_
          refine Y_sub (pc := 81) [1, 2, 3] rfl ?_
          exact kj3 _ _ h
      · have h := ifn cc_51 h
        refine Y_iconst (pc := 54) hC d_Mo_means_54 ki_0 ?_
        exact Y_iret (pc := 55) hC hE d_Mo_means_55 h
    refine Y_if_eq (pc := 17) hC 47 d_Mo_means_17 rfl (fun cc_17 => ?_) (fun cc_17 => ?_)
    · have h := ifp cc_17 h
      refine Y_iconst (pc := 47) hC d_Mo_means_47 ki_0 ?_
      refine Y_sub (pc := 48) [0, 1, 2] rfl ?_
      exact kj2 _ _ h
    · have h := ifn cc_17 h
      refine Y_iload_n (pc := 20) hC d_Mo_means_20 rfl 1 rfl ?_
      refine Y_iconst (pc := 21) hC d_Mo_means_21 ki_0 ?_
      refine Y_aload_n (pc := 22) hC d_Mo_means_22 rfl 0 rfl ?_
      refine Y_getI (pc := 23) hC sm_0 fl_Mo_157 rfl d_Mo_means_23 ?_
      refine Y_iconst (pc := 26) hC d_Mo_means_26 ki_1 ?_
      refine Y_isub (pc := 27) hC d_Mo_means_27 ?_
      obtain ⟨r1, V1, hc_r1, h⟩ := cl_some h
      refine Y_callS (pc := 28) hC (c_Mo_within C.l C.D C.cI C.cZ C.a hc_r1) (fun q => nomatch q) ml_Mo_125 ms_Mo_within (by decide) (Nat.le_of_ble_eq_true rfl) rfl d_Mo_means_28 ?_
      refine Y_if_eq (pc := 31) hC 43 d_Mo_means_31 rfl (fun cc_31 => ?_) (fun cc_31 => ?_)
      · have h := ifp cc_31 h
        refine Y_iconst (pc := 43) hC d_Mo_means_43 ki_1 ?_
        refine Y_goto (pc := 44) hC 48 d_Mo_means_44 rfl ?_
        refine Y_sub (pc := 48) [0, 1, 2] rfl ?_
        exact kj2 _ _ h
      · have h := ifn cc_31 h
        refine Y_iload_n (pc := 34) hC d_Mo_means_34 rfl 2 rfl ?_
        refine Y_iconst (pc := 35) hC d_Mo_means_35 ki_0 ?_
        refine Y_iconst (pc := 36) hC d_Mo_means_36 ki_2 ?_
        obtain ⟨r2, V2, hc_r2, h⟩ := cl_some h
        refine Y_callS (pc := 37) hC (c_Mo_within C.l C.D C.cI C.cZ C.a hc_r2) (fun q => nomatch q) ml_Mo_125 ms_Mo_within (by decide) (Nat.le_of_ble_eq_true rfl) rfl d_Mo_means_37 ?_
        refine Y_if_ne (pc := 40) hC 47 d_Mo_means_40 rfl (fun cc_40 => ?_) (fun cc_40 => ?_)
        · have h := ifn cc_40 h
          refine Y_iconst (pc := 47) hC d_Mo_means_47 ki_0 ?_
          refine Y_sub (pc := 48) [0, 1, 2] rfl ?_
          exact kj2 _ _ h
        · have h := ifp cc_40 h
          refine Y_iconst (pc := 43) hC d_Mo_means_43 ki_1 ?_
          refine Y_goto (pc := 44) hC 48 d_Mo_means_44 rfl ?_
          refine Y_sub (pc := 48) [0, 1, 2] rfl ?_
          exact kj2 _ _ h
  refine Y_if_ne (pc := 5) hC 12 d_Mo_means_5 rfl (fun cc_5 => ?_) (fun cc_5 => ?_)
  · have h := ifn cc_5 h
    refine Y_iconst (pc := 12) hC d_Mo_means_12 ki_0 ?_
    refine Y_sub (pc := 13) [0, 1, 2] rfl ?_
    exact kj1 _ h
  · have h := ifp cc_5 h
    refine Y_iconst (pc := 8) hC d_Mo_means_8 ki_1 ?_
    refine Y_goto (pc := 9) hC 13 d_Mo_means_9 rfl ?_
    refine Y_sub (pc := 13) [0, 1, 2] rfl ?_
    exact kj1 _ h
set_option maxHeartbeats 4000000 in
set_option maxRecDepth 100000 in
theorem c_Mo_common (l : Launch) (D : va_G) (cI cZ : ClassId) (a : Nat → Nat) {V : Sto} {p1 : Int32} {r : Int32} {V' : Sto} (h : f_Mo_common V p1 = some (r, V')) : YMi l D cI cZ a shpM y_Mo_common b_Mo_common 2 (some .int) rm_Mo_common true [.ref (a 0), .int p1] V r V' := by
  refine YMi_of (by decide) (Nat.le_of_ble_eq_true rfl) ?_
  intro C hl hDD hcI hcZ ha hC hw hE
  subst hl hDD hcI hcZ ha
  show Y C shpM 2 0 [(0, .ref (C.a 0)), (1, .int p1)] [] V
  have hw := hw rfl
  rw [f_Mo_common] at h
  refine Y_aload_n (pc := 0) hC d_Mo_common_0 rfl 0 rfl ?_
  refine Y_aload_n (pc := 1) hC d_Mo_common_1 rfl 0 rfl ?_
  refine Y_getI (pc := 2) hC sm_0 fl_Mo_118 rfl d_Mo_common_2 ?_
  obtain ⟨j1, hj1, h⟩ := jn_some h
  have kj1 : ∀ (z1 : Int32), j1 z1 = some (r, V') → Y C shpM 2 13 [(0, .ref (C.a 0)), (1, .int p1)] [.int z1, .ref (C.a 0)] V := by
    intro z1 h
    subst hj1
    dsimp only at h
    refine Y_aload_n (pc := 13) hC d_Mo_common_13 rfl 0 rfl ?_
    refine Y_getI (pc := 14) hC sm_0 fl_Mo_118 rfl d_Mo_common_14 ?_
    obtain ⟨j2, hj2, h⟩ := jn_some h
    have kj2 : ∀ (z2 : Int32) (V2 : Sto), j2 z2 V2 = some (r, V') → Y C shpM 2 36 [(0, .ref (C.a 0)), (1, .int p1)] [.int z2, .int z1, .ref (C.a 0)] V2 := by
      intro z2 V2 h
      subst hj2
      dsimp only at h
      obtain ⟨r2, V3, hc_r2, h⟩ := cl_some h
      refine Y_callV (pc := 36) hC (c_Mo_refuse C.l C.D C.cI C.cZ C.a hc_r2) (fun _ => hw) sm_0 cls_Mo ml_Mo_132 mv_Mo_refuse (by decide) (Nat.le_of_ble_eq_true rfl) rfl d_Mo_common_36 ?_
      refine Y_if_eq (pc := 39) hC 44 d_Mo_common_39 rfl (fun cc_39 => ?_) (fun cc_39 => ?_)
      · have h := ifp cc_39 h
        refine Y_aload_n (pc := 44) hC d_Mo_common_44 rfl 0 rfl ?_
        refine Y_getR (pc := 45) hC sm_0 fl_Mo_88 rfl d_Mo_common_45 ?_
        refine Y_iload_n (pc := 48) hC d_Mo_common_48 rfl 1 rfl ?_
        obtain ⟨hi, h⟩ := ck_some h
        refine Y_zald (pc := 49) hC sm_23 rfl hi d_Mo_common_49 ?_
        refine Y_if_eq (pc := 50) hC 62 d_Mo_common_50 rfl (fun cc_50 => ?_) (fun cc_50 => ?_)
        · have h := ifp cc_50 h
          refine Y_iconst (pc := 62) hC d_Mo_common_62 ki_m1 ?_
          exact Y_iret (pc := 63) hC hE d_Mo_common_63 h
        · have h := ifn cc_50 h
          refine Y_aload_n (pc := 53) hC d_Mo_common_53 rfl 0 rfl ?_
          refine Y_getR (pc := 54) hC sm_0 fl_Mo_91 rfl d_Mo_common_54 ?_
          refine Y_iload_n (pc := 57) hC d_Mo_common_57 rfl 1 rfl ?_
          obtain ⟨hi, h⟩ := ck_some h
          refine Y_iald (pc := 58) hC sm_24 rfl hi d_Mo_common_58 ?_
          refine Y_goto (pc := 59) hC 63 d_Mo_common_59 rfl ?_
          exact Y_iret (pc := 63) hC hE d_Mo_common_63 h
      · have h := ifn cc_39 h
        refine Y_iconst (pc := 42) hC d_Mo_common_42 ki_0 ?_
        exact Y_iret (pc := 43) hC hE d_Mo_common_43 h
    refine Y_if_eq (pc := 17) hC 35 d_Mo_common_17 rfl (fun cc_17 => ?_) (fun cc_17 => ?_)
    · have h := ifp cc_17 h
      refine Y_iconst (pc := 35) hC d_Mo_common_35 ki_0 ?_
      refine Y_sub (pc := 36) [0, 1] rfl ?_
      exact kj2 _ _ h
    · have h := ifn cc_17 h
      refine Y_iload_n (pc := 20) hC d_Mo_common_20 rfl 1 rfl ?_
      refine Y_iconst (pc := 21) hC d_Mo_common_21 ki_0 ?_
      refine Y_sipush (pc := 22) hC d_Mo_common_22 ks_199 ?_
      obtain ⟨r1, V1, hc_r1, h⟩ := cl_some h
      refine Y_callS (pc := 25) hC (c_Mo_within C.l C.D C.cI C.cZ C.a hc_r1) (fun q => nomatch q) ml_Mo_125 ms_Mo_within (by decide) (Nat.le_of_ble_eq_true rfl) rfl d_Mo_common_25 ?_
      refine Y_if_ne (pc := 28) hC 35 d_Mo_common_28 rfl (fun cc_28 => ?_) (fun cc_28 => ?_)
      · have h := ifn cc_28 h
        refine Y_iconst (pc := 35) hC d_Mo_common_35 ki_0 ?_
        refine Y_sub (pc := 36) [0, 1] rfl ?_
        exact kj2 _ _ h
      · have h := ifp cc_28 h
        refine Y_iconst (pc := 31) hC d_Mo_common_31 ki_1 ?_
        refine Y_goto (pc := 32) hC 36 d_Mo_common_32 rfl ?_
        refine Y_sub (pc := 36) [0, 1] rfl ?_
        exact kj2 _ _ h
  refine Y_if_ne (pc := 5) hC 12 d_Mo_common_5 rfl (fun cc_5 => ?_) (fun cc_5 => ?_)
  · have h := ifn cc_5 h
    refine Y_iconst (pc := 12) hC d_Mo_common_12 ki_0 ?_
    refine Y_sub (pc := 13) [0, 1] rfl ?_
    exact kj1 _ h
  · have h := ifp cc_5 h
    refine Y_iconst (pc := 8) hC d_Mo_common_8 ki_1 ?_
    refine Y_goto (pc := 9) hC 13 d_Mo_common_9 rfl ?_
    refine Y_sub (pc := 13) [0, 1] rfl ?_
    exact kj1 _ h
set_option maxHeartbeats 4000000 in
set_option maxRecDepth 100000 in
theorem ylp_Mo_at_58 {C : YC} {r : Int32} {V' : Sto} {x1 : Int32} {k112 : Int32 → Sto → RT} {k141 : Sto → RT} (hC : YF C R_Mo b_Mo_at 3 rm_Mo_at) (hw : YWr C shpM) (hE : YEi C .int shpM r V') (hk112 : ∀ (y2 : Int32) (V1 : Sto), k112 y2 V1 = some (r, V') → Y C shpM 3 112 [(0, .ref (C.a 0)), (1, .int x1), (2, .int y2)] [] V1) (hk141 : ∀ (V1 : Sto), k141 V1 = some (r, V') → Y C shpM 3 141 [(0, .ref (C.a 0)), (1, .int x1)] [] V1) : ∀ (n : Nat) (x2 : Int32) (V : Sto), lp_Mo_at_58 x1 k112 k141 n x2 V = some (r, V') → Y C shpM 3 58 [(0, .ref (C.a 0)), (1, .int x1), (2, .int x2)] [] V := by
  intro n
  induction n with
  | zero =>
    intro x2 V h
    rw [lp_Mo_at_58] at h
    cases h
  | succ n ih =>
    intro x2 V h
    rw [lp_Mo_at_58] at h
    refine Y_iload_n (pc := 58) hC d_Mo_at_58 rfl 2 rfl ?_
    refine Y_aload_n (pc := 59) hC d_Mo_at_59 rfl 0 rfl ?_
    refine Y_getI (pc := 60) hC sm_0 fl_Mo_143 rfl d_Mo_at_60 ?_
    refine Y_icmp_ge (pc := 63) hC 141 d_Mo_at_63 rfl (fun cc_63 => ?_) (fun cc_63 => ?_)
    · have h := ifp cc_63 h
      refine Y_sub (pc := 141) [0, 1] rfl ?_
      exact hk141 _ h
    · have h := ifn cc_63 h
      refine Y_aload_n (pc := 66) hC d_Mo_at_66 rfl 0 rfl ?_
      refine Y_iload_n (pc := 67) hC d_Mo_at_67 rfl 2 rfl ?_
      obtain ⟨r3, V4, hc_r3, h⟩ := cl_some h
      refine Y_callV (pc := 68) hC (c_Mo_stays C.l C.D C.cI C.cZ C.a hc_r3) (fun q => nomatch q) sm_0 cls_Mo ml_Mo_226 mv_Mo_stays (by decide) (Nat.le_of_ble_eq_true rfl) rfl d_Mo_at_68 ?_
      refine Y_if_eq (pc := 71) hC 135 d_Mo_at_71 rfl (fun cc_71 => ?_) (fun cc_71 => ?_)
      · have h := ifp cc_71 h
        refine Y_iinc (pc := 135) hC (v := x2 + 1) (L' := [(2, .int (x2 + 1)), (0, .ref (C.a 0)), (1, .int x1)]) d_Mo_at_135 2 rfl rfl (by decide) rfl ?_
        refine Y_goto (pc := 138) hC 58 d_Mo_at_138 rfl ?_
        refine Y_sub (pc := 58) [1, 2, 0] rfl ?_
        exact ih _ _ h
      · have h := ifn cc_71 h
        refine Y_aload_n (pc := 74) hC d_Mo_at_74 rfl 0 rfl ?_
        refine Y_getR (pc := 75) hC sm_0 fl_Mo_16 rfl d_Mo_at_75 ?_
        refine Y_iload_n (pc := 78) hC d_Mo_at_78 rfl 2 rfl ?_
        obtain ⟨hi, h⟩ := ck_some h
        refine Y_iald (pc := 79) hC sm_3 rfl hi d_Mo_at_79 ?_
        refine Y_iconst (pc := 80) hC d_Mo_at_80 ki_2 ?_
        refine Y_icmp_eq (pc := 81) hC 135 d_Mo_at_81 rfl (fun cc_81 => ?_) (fun cc_81 => ?_)
        · have h := ifp cc_81 h
          refine Y_iinc (pc := 135) hC (v := x2 + 1) (L' := [(2, .int (x2 + 1)), (0, .ref (C.a 0)), (1, .int x1)]) d_Mo_at_135 2 rfl rfl (by decide) rfl ?_
          refine Y_goto (pc := 138) hC 58 d_Mo_at_138 rfl ?_
          refine Y_sub (pc := 58) [1, 2, 0] rfl ?_
          exact ih _ _ h
        · have h := ifn cc_81 h
          refine Y_iload_n (pc := 84) hC d_Mo_at_84 rfl 1 rfl ?_
          refine Y_aload_n (pc := 85) hC d_Mo_at_85 rfl 0 rfl ?_
          refine Y_getR (pc := 86) hC sm_0 fl_Mo_100 rfl d_Mo_at_86 ?_
          refine Y_iload_n (pc := 89) hC d_Mo_at_89 rfl 2 rfl ?_
          obtain ⟨hi, h⟩ := ck_some h
          refine Y_iald (pc := 90) hC sm_27 rfl hi d_Mo_at_90 ?_
          refine Y_aload_n (pc := 91) hC d_Mo_at_91 rfl 0 rfl ?_
          refine Y_getR (pc := 92) hC sm_0 fl_Mo_100 rfl d_Mo_at_92 ?_
          refine Y_iload_n (pc := 95) hC d_Mo_at_95 rfl 2 rfl ?_
          obtain ⟨hi, h⟩ := ck_some h
          refine Y_iald (pc := 96) hC sm_27 rfl hi d_Mo_at_96 ?_
          refine Y_aload_n (pc := 97) hC d_Mo_at_97 rfl 0 rfl ?_
          refine Y_getR (pc := 98) hC sm_0 fl_Mo_19 rfl d_Mo_at_98 ?_
          refine Y_iload_n (pc := 101) hC d_Mo_at_101 rfl 2 rfl ?_
          obtain ⟨hi, h⟩ := ck_some h
          refine Y_iald (pc := 102) hC sm_4 rfl hi d_Mo_at_102 ?_
          refine Y_iadd (pc := 103) hC d_Mo_at_103 ?_
          refine Y_iconst (pc := 104) hC d_Mo_at_104 ki_1 ?_
          refine Y_isub (pc := 105) hC d_Mo_at_105 ?_
          obtain ⟨r4, V5, hc_r4, h⟩ := cl_some h
          refine Y_callS (pc := 106) hC (c_Mo_within C.l C.D C.cI C.cZ C.a hc_r4) (fun q => nomatch q) ml_Mo_125 ms_Mo_within (by decide) (Nat.le_of_ble_eq_true rfl) rfl d_Mo_at_106 ?_
          refine Y_if_eq (pc := 109) hC 135 d_Mo_at_109 rfl (fun cc_109 => ?_) (fun cc_109 => ?_)
          · have h := ifp cc_109 h
            refine Y_iinc (pc := 135) hC (v := x2 + 1) (L' := [(2, .int (x2 + 1)), (0, .ref (C.a 0)), (1, .int x1)]) d_Mo_at_135 2 rfl rfl (by decide) rfl ?_
            refine Y_goto (pc := 138) hC 58 d_Mo_at_138 rfl ?_
            refine Y_sub (pc := 58) [1, 2, 0] rfl ?_
            exact ih _ _ h
          · have h := ifn cc_109 h
            refine Y_sub (pc := 112) [0, 1, 2] rfl ?_
            exact hk112 _ _ h
set_option maxHeartbeats 4000000 in
set_option maxRecDepth 100000 in
theorem c_Mo_at (l : Launch) (D : va_G) (cI cZ : ClassId) (a : Nat → Nat) {V : Sto} {p1 : Int32} {r : Int32} {V' : Sto} (h : f_Mo_at V p1 = some (r, V')) : YMi l D cI cZ a shpM y_Mo_at b_Mo_at 3 (some .int) rm_Mo_at true [.ref (a 0), .int p1] V r V' := by
  refine YMi_of (by decide) (Nat.le_of_ble_eq_true rfl) ?_
  intro C hl hDD hcI hcZ ha hC hw hE
  subst hl hDD hcI hcZ ha
  show Y C shpM 3 0 [(0, .ref (C.a 0)), (1, .int p1)] [] V
  have hw := hw rfl
  rw [f_Mo_at] at h
  refine Y_aload_n (pc := 0) hC d_Mo_at_0 rfl 0 rfl ?_
  refine Y_aload_n (pc := 1) hC d_Mo_at_1 rfl 0 rfl ?_
  refine Y_getI (pc := 2) hC sm_0 fl_Mo_118 rfl d_Mo_at_2 ?_
  obtain ⟨j1, hj1, h⟩ := jn_some h
  have kj1 : ∀ (z1 : Int32), j1 z1 = some (r, V') → Y C shpM 3 13 [(0, .ref (C.a 0)), (1, .int p1)] [.int z1, .ref (C.a 0)] V := by
    intro z1 h
    subst hj1
    dsimp only at h
    refine Y_aload_n (pc := 13) hC d_Mo_at_13 rfl 0 rfl ?_
    refine Y_getI (pc := 14) hC sm_0 fl_Mo_118 rfl d_Mo_at_14 ?_
    obtain ⟨j2, hj2, h⟩ := jn_some h
    have kj2 : ∀ (z2 : Int32) (V2 : Sto), j2 z2 V2 = some (r, V') → Y C shpM 3 48 [(0, .ref (C.a 0)), (1, .int p1)] [.int z2, .int z1, .ref (C.a 0)] V2 := by
      intro z2 V2 h
      subst hj2
      dsimp only at h
      obtain ⟨r2, V3, hc_r2, h⟩ := cl_some h
      refine Y_callV (pc := 48) hC (c_Mo_refuse C.l C.D C.cI C.cZ C.a hc_r2) (fun _ => hw) sm_0 cls_Mo ml_Mo_132 mv_Mo_refuse (by decide) (Nat.le_of_ble_eq_true rfl) rfl d_Mo_at_48 ?_
      refine Y_if_eq (pc := 51) hC 56 d_Mo_at_51 rfl (fun cc_51 => ?_) (fun cc_51 => ?_)
      · have h := ifp cc_51 h
        refine Y_iconst (pc := 56) hC d_Mo_at_56 ki_0 ?_
        refine Y_istore_n (pc := 57) hC (L' := [(2, .int 0), (0, .ref (C.a 0)), (1, .int p1)]) d_Mo_at_57 rfl (by decide) rfl ?_
        refine Y_sub (pc := 58) [1, 2, 0] rfl ?_
        refine ylp_Mo_at_58 hC hw hE (fun y1 V6 h => ?_) (fun V7 h => ?_) FU _ _ h
        · have h := h
          refine Y_aload_n (pc := 112) hC d_Mo_at_112 rfl 0 rfl ?_
          refine Y_getR (pc := 113) hC sm_0 fl_Mo_106 rfl d_Mo_at_113 ?_
          refine Y_aload_n (pc := 116) hC d_Mo_at_116 rfl 0 rfl ?_
          refine Y_getR (pc := 117) hC sm_0 fl_Mo_25 rfl d_Mo_at_117 ?_
          refine Y_iload_n (pc := 120) hC d_Mo_at_120 rfl 2 rfl ?_
          obtain ⟨hi, h⟩ := ck_some h
          refine Y_iald (pc := 121) hC sm_6 rfl hi d_Mo_at_121 ?_
          refine Y_iload_n (pc := 122) hC d_Mo_at_122 rfl 1 rfl ?_
          refine Y_aload_n (pc := 123) hC d_Mo_at_123 rfl 0 rfl ?_
          refine Y_getR (pc := 124) hC sm_0 fl_Mo_100 rfl d_Mo_at_124 ?_
          refine Y_iload_n (pc := 127) hC d_Mo_at_127 rfl 2 rfl ?_
          obtain ⟨hi, h⟩ := ck_some h
          refine Y_iald (pc := 128) hC sm_27 rfl hi d_Mo_at_128 ?_
          refine Y_isub (pc := 129) hC d_Mo_at_129 ?_
          refine Y_iconst (pc := 130) hC d_Mo_at_130 ki_4 ?_
          refine Y_idiv (pc := 131) hC d_Mo_at_131 (by decide) ?_
          refine Y_iadd (pc := 132) hC d_Mo_at_132 ?_
          obtain ⟨hi, h⟩ := ck_some h
          refine Y_iald (pc := 133) hC sm_29 rfl hi d_Mo_at_133 ?_
          exact Y_iret (pc := 134) hC hE d_Mo_at_134 h
        · have h := h
          refine Y_aload_n (pc := 141) hC d_Mo_at_141 rfl 0 rfl ?_
          refine Y_getI (pc := 142) hC sm_0 fl_Mo_241 rfl d_Mo_at_142 ?_
          refine Y_if_le (pc := 145) hC 224 d_Mo_at_145 rfl (fun cc_145 => ?_) (fun cc_145 => ?_)
          · have h := ifp cc_145 h
            refine Y_iconst (pc := 224) hC d_Mo_at_224 ki_0 ?_
            exact Y_iret (pc := 225) hC hE d_Mo_at_225 h
          · have h := ifn cc_145 h
            refine Y_iload_n (pc := 148) hC d_Mo_at_148 rfl 1 rfl ?_
            refine Y_aload_n (pc := 149) hC d_Mo_at_149 rfl 0 rfl ?_
            refine Y_getI (pc := 150) hC sm_0 fl_Mo_244 rfl d_Mo_at_150 ?_
            refine Y_aload_n (pc := 153) hC d_Mo_at_153 rfl 0 rfl ?_
            refine Y_getI (pc := 154) hC sm_0 fl_Mo_244 rfl d_Mo_at_154 ?_
            refine Y_bipush (pc := 157) hC d_Mo_at_157 kb_8 ?_
            refine Y_aload_n (pc := 159) hC d_Mo_at_159 rfl 0 rfl ?_
            refine Y_getI (pc := 160) hC sm_0 fl_Mo_241 rfl d_Mo_at_160 ?_
            refine Y_imul (pc := 163) hC d_Mo_at_163 ?_
            refine Y_iadd (pc := 164) hC d_Mo_at_164 ?_
            refine Y_iconst (pc := 165) hC d_Mo_at_165 ki_1 ?_
            refine Y_isub (pc := 166) hC d_Mo_at_166 ?_
            obtain ⟨r5, V8, hc_r5, h⟩ := cl_some h
            refine Y_callS (pc := 167) hC (c_Mo_within C.l C.D C.cI C.cZ C.a hc_r5) (fun q => nomatch q) ml_Mo_125 ms_Mo_within (by decide) (Nat.le_of_ble_eq_true rfl) rfl d_Mo_at_167 ?_
            refine Y_if_eq (pc := 170) hC 224 d_Mo_at_170 rfl (fun cc_170 => ?_) (fun cc_170 => ?_)
            · have h := ifp cc_170 h
              refine Y_iconst (pc := 224) hC d_Mo_at_224 ki_0 ?_
              exact Y_iret (pc := 225) hC hE d_Mo_at_225 h
            · have h := ifn cc_170 h
              refine Y_iload_n (pc := 173) hC d_Mo_at_173 rfl 1 rfl ?_
              refine Y_aload_n (pc := 174) hC d_Mo_at_174 rfl 0 rfl ?_
              refine Y_getI (pc := 175) hC sm_0 fl_Mo_244 rfl d_Mo_at_175 ?_
              refine Y_isub (pc := 178) hC d_Mo_at_178 ?_
              refine Y_bipush (pc := 179) hC d_Mo_at_179 kb_8 ?_
              refine Y_idiv (pc := 181) hC d_Mo_at_181 (by decide) ?_
              refine Y_istore_n (pc := 182) hC (L' := [(2, .int ((p1 - (V8 0 49)) / 8)), (0, .ref (C.a 0)), (1, .int p1)]) d_Mo_at_182 rfl (by decide) rfl ?_
              refine Y_iload_n (pc := 183) hC d_Mo_at_183 rfl 2 rfl ?_
              refine Y_aload_n (pc := 184) hC d_Mo_at_184 rfl 1 rfl ?_
              refine Y_iload_n (pc := 185) hC d_Mo_at_185 rfl 0 rfl ?_
              obtain ⟨r6, V9, hc_r6, h⟩ := cl_some h
              refine Y_callV (pc := 186) hC (c_Mo_islandAt C.l C.D C.cI C.cZ C.a hc_r6) (fun q => nomatch q) sm_0 cls_Mo ml_Mo_279 mv_Mo_islandAt (by decide) (Nat.le_of_ble_eq_true rfl) rfl d_Mo_at_186 ?_
              refine Y_icmp_ne (pc := 189) hC 222 d_Mo_at_189 rfl (fun cc_189 => ?_) (fun cc_189 => ?_)
              · have h := ifn cc_189 h
                refine Y_iconst (pc := 222) hC d_Mo_at_222 ki_0 ?_
                exact Y_iret (pc := 223) hC hE d_Mo_at_223 h
              · have h := ifp cc_189 h
                refine Y_aload_n (pc := 192) hC d_Mo_at_192 rfl 1 rfl ?_
                refine Y_aload_n (pc := 193) hC d_Mo_at_193 rfl 1 rfl ?_
                refine Y_getR (pc := 194) hC sm_0 fl_Mo_63 rfl d_Mo_at_194 ?_
                refine Y_aload_n (pc := 197) hC d_Mo_at_197 rfl 1 rfl ?_
                refine Y_getR (pc := 198) hC sm_0 fl_Mo_112 rfl d_Mo_at_198 ?_
                refine Y_iload_n (pc := 201) hC d_Mo_at_201 rfl 0 rfl ?_
                obtain ⟨hi, h⟩ := ck_some h
                refine Y_iald (pc := 202) hC sm_31 rfl hi d_Mo_at_202 ?_
                obtain ⟨hi, h⟩ := ck_some h
                refine Y_iald (pc := 203) hC sm_18 rfl hi d_Mo_at_203 ?_
                obtain ⟨r7, V10, hc_r7, h⟩ := cl_some h
                refine Y_callV (pc := 204) hC (c_Mo_meaning C.l C.D C.cI C.cZ C.a hc_r7) (fun q => nomatch q) sm_0 cls_Mo ml_Mo_256 mv_Mo_meaning (by decide) (Nat.le_of_ble_eq_true rfl) rfl d_Mo_at_204 ?_
                refine Y_aload_n (pc := 207) hC d_Mo_at_207 rfl 1 rfl ?_
                refine Y_getR (pc := 208) hC sm_0 fl_Mo_66 rfl d_Mo_at_208 ?_
                refine Y_aload_n (pc := 211) hC d_Mo_at_211 rfl 1 rfl ?_
                refine Y_getR (pc := 212) hC sm_0 fl_Mo_112 rfl d_Mo_at_212 ?_
                refine Y_iload_n (pc := 215) hC d_Mo_at_215 rfl 0 rfl ?_
                obtain ⟨hi, h⟩ := ck_some h
                refine Y_iald (pc := 216) hC sm_31 rfl hi d_Mo_at_216 ?_
                obtain ⟨hi, h⟩ := ck_some h
                refine Y_iald (pc := 217) hC sm_19 rfl hi d_Mo_at_217 ?_
                refine Y_iadd (pc := 218) hC d_Mo_at_218 ?_
                refine Y_goto (pc := 219) hC 223 d_Mo_at_219 rfl ?_
                exact Y_iret (pc := 223) hC hE d_Mo_at_223 h
      · have h := ifn cc_51 h
        refine Y_iconst (pc := 54) hC d_Mo_at_54 ki_0 ?_
        exact Y_iret (pc := 55) hC hE d_Mo_at_55 h
    refine Y_if_eq (pc := 17) hC 47 d_Mo_at_17 rfl (fun cc_17 => ?_) (fun cc_17 => ?_)
    · have h := ifp cc_17 h
      refine Y_iconst (pc := 47) hC d_Mo_at_47 ki_0 ?_
      refine Y_sub (pc := 48) [0, 1] rfl ?_
      exact kj2 _ _ h
    · have h := ifn cc_17 h
      refine Y_iload_n (pc := 20) hC d_Mo_at_20 rfl 1 rfl ?_
      refine Y_iconst (pc := 21) hC d_Mo_at_21 ki_4 ?_
      refine Y_irem (pc := 22) hC d_Mo_at_22 (by decide) ?_
      refine Y_if_ne (pc := 23) hC 43 d_Mo_at_23 rfl (fun cc_23 => ?_) (fun cc_23 => ?_)
      · have h := ifn cc_23 h
        refine Y_iconst (pc := 43) hC d_Mo_at_43 ki_1 ?_
        refine Y_goto (pc := 44) hC 48 d_Mo_at_44 rfl ?_
        refine Y_sub (pc := 48) [0, 1] rfl ?_
        exact kj2 _ _ h
      · have h := ifp cc_23 h
        refine Y_iload_n (pc := 26) hC d_Mo_at_26 rfl 1 rfl ?_
        refine Y_aload_n (pc := 27) hC d_Mo_at_27 rfl 0 rfl ?_
        refine Y_getI (pc := 28) hC sm_0 fl_Mo_235 rfl d_Mo_at_28 ?_
        refine Y_aload_n (pc := 31) hC d_Mo_at_31 rfl 0 rfl ?_
        refine Y_getI (pc := 32) hC sm_0 fl_Mo_247 rfl d_Mo_at_32 ?_
        refine Y_iconst (pc := 35) hC d_Mo_at_35 ki_1 ?_
        refine Y_isub (pc := 36) hC d_Mo_at_36 ?_
        obtain ⟨r1, V1, hc_r1, h⟩ := cl_some h
        refine Y_callS (pc := 37) hC (c_Mo_within C.l C.D C.cI C.cZ C.a hc_r1) (fun q => nomatch q) ml_Mo_125 ms_Mo_within (by decide) (Nat.le_of_ble_eq_true rfl) rfl d_Mo_at_37 ?_
        refine Y_if_ne (pc := 40) hC 47 d_Mo_at_40 rfl (fun cc_40 => ?_) (fun cc_40 => ?_)
        · have h := ifn cc_40 h
          refine Y_iconst (pc := 47) hC d_Mo_at_47 ki_0 ?_
          refine Y_sub (pc := 48) [0, 1] rfl ?_
          exact kj2 _ _ h
        · have h := ifp cc_40 h
          refine Y_iconst (pc := 43) hC d_Mo_at_43 ki_1 ?_
          refine Y_goto (pc := 44) hC 48 d_Mo_at_44 rfl ?_
          refine Y_sub (pc := 48) [0, 1] rfl ?_
          exact kj2 _ _ h
  refine Y_if_ne (pc := 5) hC 12 d_Mo_at_5 rfl (fun cc_5 => ?_) (fun cc_5 => ?_)
  · have h := ifn cc_5 h
    refine Y_iconst (pc := 12) hC d_Mo_at_12 ki_0 ?_
    refine Y_sub (pc := 13) [0, 1] rfl ?_
    exact kj1 _ h
  · have h := ifp cc_5 h
    refine Y_iconst (pc := 8) hC d_Mo_at_8 ki_1 ?_
    refine Y_goto (pc := 9) hC 13 d_Mo_at_9 rfl ?_
    refine Y_sub (pc := 13) [0, 1] rfl ?_
    exact kj1 _ h
set_option maxHeartbeats 4000000 in
set_option maxRecDepth 100000 in
theorem ylp_Mo_about_90 {C : YC} {r : Int32} {V' : Sto} {k121 : Int32 → Sto → RT} (hC : YF C R_Mo b_Mo_about 4 rm_Mo_about) (hw : YWr C shpM) (hE : YEi C .int shpM r V') (hk121 : ∀ (y2 : Int32) (V1 : Sto), k121 y2 V1 = some (r, V') → Y C shpM 4 121 [(2, .int y2)] [] V1) : ∀ (n : Nat) (x2 x3 : Int32) (V : Sto), lp_Mo_about_90 k121 n x2 x3 V = some (r, V') → Y C shpM 4 90 [(0, .ref (C.a 0)), (2, .int x2), (3, .int x3)] [] V := by
  intro n
  induction n with
  | zero =>
    intro x2 x3 V h
    rw [lp_Mo_about_90] at h
    cases h
  | succ n ih =>
    intro x2 x3 V h
    rw [lp_Mo_about_90] at h
    refine Y_iload_n (pc := 90) hC d_Mo_about_90 rfl 2 rfl ?_
    refine Y_aload_n (pc := 91) hC d_Mo_about_91 rfl 0 rfl ?_
    refine Y_getI (pc := 92) hC sm_0 fl_Mo_129 rfl d_Mo_about_92 ?_
    refine Y_icmp_ge (pc := 95) hC 121 d_Mo_about_95 rfl (fun cc_95 => ?_) (fun cc_95 => ?_)
    · have h := ifp cc_95 h
      refine Y_sub (pc := 121) [1] rfl ?_
      exact hk121 _ _ h
    · have h := ifn cc_95 h
      refine Y_aload_n (pc := 98) hC d_Mo_about_98 rfl 0 rfl ?_
      refine Y_getR (pc := 99) hC sm_0 fl_Mo_79 rfl d_Mo_about_99 ?_
      refine Y_iload_n (pc := 102) hC d_Mo_about_102 rfl 2 rfl ?_
      obtain ⟨hi, h⟩ := ck_some h
      refine Y_zald (pc := 103) hC sm_20 rfl hi d_Mo_about_103 ?_
      refine Y_if_eq (pc := 104) hC 113 d_Mo_about_104 rfl (fun cc_104 => ?_) (fun cc_104 => ?_)
      · have h := ifp cc_104 h
        refine Y_iload_n (pc := 113) hC d_Mo_about_113 rfl 1 rfl ?_
        refine Y_istore_n (pc := 114) hC (L' := [(2, .int x2), (0, .ref (C.a 0)), (3, .int x3)]) d_Mo_about_114 rfl (by decide) rfl ?_
        refine Y_iinc (pc := 115) hC (v := x3 + 1) (L' := [(3, .int (x3 + 1)), (2, .int x2), (0, .ref (C.a 0))]) d_Mo_about_115 2 rfl rfl (by decide) rfl ?_
        refine Y_goto (pc := 118) hC 90 d_Mo_about_118 rfl ?_
        refine Y_sub (pc := 90) [2, 1, 0] rfl ?_
        exact ih _ _ _ h
      · have h := ifn cc_104 h
        refine Y_iload_n (pc := 107) hC d_Mo_about_107 rfl 1 rfl ?_
        refine Y_iconst (pc := 108) hC d_Mo_about_108 ki_1 ?_
        refine Y_iadd (pc := 109) hC d_Mo_about_109 ?_
        refine Y_goto (pc := 110) hC 114 d_Mo_about_110 rfl ?_
        refine Y_istore_n (pc := 114) hC (L' := [(2, .int (x2 + 1)), (0, .ref (C.a 0)), (3, .int x3)]) d_Mo_about_114 rfl (by decide) rfl ?_
        refine Y_iinc (pc := 115) hC (v := x3 + 1) (L' := [(3, .int (x3 + 1)), (2, .int (x2 + 1)), (0, .ref (C.a 0))]) d_Mo_about_115 2 rfl rfl (by decide) rfl ?_
        refine Y_goto (pc := 118) hC 90 d_Mo_about_118 rfl ?_
        refine Y_sub (pc := 90) [2, 1, 0] rfl ?_
        exact ih _ _ _ h
set_option maxHeartbeats 4000000 in
set_option maxRecDepth 100000 in
theorem ylp_Mo_about_125 {C : YC} {r : Int32} {V' : Sto} {k156 : Int32 → Sto → RT} (hC : YF C R_Mo b_Mo_about 4 rm_Mo_about) (hw : YWr C shpM) (hE : YEi C .int shpM r V') (hk156 : ∀ (y2 : Int32) (V1 : Sto), k156 y2 V1 = some (r, V') → Y C shpM 4 156 [(2, .int y2)] [] V1) : ∀ (n : Nat) (x2 x3 : Int32) (V : Sto), lp_Mo_about_125 k156 n x2 x3 V = some (r, V') → Y C shpM 4 125 [(0, .ref (C.a 0)), (2, .int x2), (3, .int x3)] [] V := by
  intro n
  induction n with
  | zero =>
    intro x2 x3 V h
    rw [lp_Mo_about_125] at h
    cases h
  | succ n ih =>
    intro x2 x3 V h
    rw [lp_Mo_about_125] at h
    refine Y_iload_n (pc := 125) hC d_Mo_about_125 rfl 2 rfl ?_
    refine Y_aload_n (pc := 126) hC d_Mo_about_126 rfl 0 rfl ?_
    refine Y_getI (pc := 127) hC sm_0 fl_Mo_143 rfl d_Mo_about_127 ?_
    refine Y_icmp_ge (pc := 130) hC 156 d_Mo_about_130 rfl (fun cc_130 => ?_) (fun cc_130 => ?_)
    · have h := ifp cc_130 h
      refine Y_sub (pc := 156) [1] rfl ?_
      exact hk156 _ _ h
    · have h := ifn cc_130 h
      refine Y_aload_n (pc := 133) hC d_Mo_about_133 rfl 0 rfl ?_
      refine Y_getR (pc := 134) hC sm_0 fl_Mo_94 rfl d_Mo_about_134 ?_
      refine Y_iload_n (pc := 137) hC d_Mo_about_137 rfl 2 rfl ?_
      obtain ⟨hi, h⟩ := ck_some h
      refine Y_zald (pc := 138) hC sm_25 rfl hi d_Mo_about_138 ?_
      refine Y_if_eq (pc := 139) hC 148 d_Mo_about_139 rfl (fun cc_139 => ?_) (fun cc_139 => ?_)
      · have h := ifp cc_139 h
        refine Y_iload_n (pc := 148) hC d_Mo_about_148 rfl 1 rfl ?_
        refine Y_istore_n (pc := 149) hC (L' := [(2, .int x2), (0, .ref (C.a 0)), (3, .int x3)]) d_Mo_about_149 rfl (by decide) rfl ?_
        refine Y_iinc (pc := 150) hC (v := x3 + 1) (L' := [(3, .int (x3 + 1)), (2, .int x2), (0, .ref (C.a 0))]) d_Mo_about_150 2 rfl rfl (by decide) rfl ?_
        refine Y_goto (pc := 153) hC 125 d_Mo_about_153 rfl ?_
        refine Y_sub (pc := 125) [2, 1, 0] rfl ?_
        exact ih _ _ _ h
      · have h := ifn cc_139 h
        refine Y_iload_n (pc := 142) hC d_Mo_about_142 rfl 1 rfl ?_
        refine Y_iconst (pc := 143) hC d_Mo_about_143 ki_1 ?_
        refine Y_iadd (pc := 144) hC d_Mo_about_144 ?_
        refine Y_goto (pc := 145) hC 149 d_Mo_about_145 rfl ?_
        refine Y_istore_n (pc := 149) hC (L' := [(2, .int (x2 + 1)), (0, .ref (C.a 0)), (3, .int x3)]) d_Mo_about_149 rfl (by decide) rfl ?_
        refine Y_iinc (pc := 150) hC (v := x3 + 1) (L' := [(3, .int (x3 + 1)), (2, .int (x2 + 1)), (0, .ref (C.a 0))]) d_Mo_about_150 2 rfl rfl (by decide) rfl ?_
        refine Y_goto (pc := 153) hC 125 d_Mo_about_153 rfl ?_
        refine Y_sub (pc := 125) [2, 1, 0] rfl ?_
        exact ih _ _ _ h
set_option maxHeartbeats 4000000 in
set_option maxRecDepth 100000 in
theorem ylp_Mo_about_160 {C : YC} {r : Int32} {V' : Sto} {k201 : Int32 → Sto → RT} (hC : YF C R_Mo b_Mo_about 4 rm_Mo_about) (hw : YWr C shpM) (hE : YEi C .int shpM r V') (hk201 : ∀ (y2 : Int32) (V1 : Sto), k201 y2 V1 = some (r, V') → Y C shpM 4 201 [(2, .int y2)] [] V1) : ∀ (n : Nat) (x2 x3 : Int32) (V : Sto), lp_Mo_about_160 k201 n x2 x3 V = some (r, V') → Y C shpM 4 160 [(0, .ref (C.a 0)), (2, .int x2), (3, .int x3)] [] V := by
  intro n
  induction n with
  | zero =>
    intro x2 x3 V h
    rw [lp_Mo_about_160] at h
    cases h
  | succ n ih =>
    intro x2 x3 V h
    rw [lp_Mo_about_160] at h
    refine Y_iload_n (pc := 160) hC d_Mo_about_160 rfl 2 rfl ?_
    refine Y_aload_n (pc := 161) hC d_Mo_about_161 rfl 0 rfl ?_
    refine Y_getI (pc := 162) hC sm_0 fl_Mo_143 rfl d_Mo_about_162 ?_
    refine Y_icmp_ge (pc := 165) hC 201 d_Mo_about_165 rfl (fun cc_165 => ?_) (fun cc_165 => ?_)
    · have h := ifp cc_165 h
      refine Y_sub (pc := 201) [1] rfl ?_
      exact hk201 _ _ h
    · have h := ifn cc_165 h
      refine Y_aload_n (pc := 168) hC d_Mo_about_168 rfl 0 rfl ?_
      refine Y_getR (pc := 169) hC sm_0 fl_Mo_94 rfl d_Mo_about_169 ?_
      refine Y_iload_n (pc := 172) hC d_Mo_about_172 rfl 2 rfl ?_
      obtain ⟨hi, h⟩ := ck_some h
      refine Y_zald (pc := 173) hC sm_25 rfl hi d_Mo_about_173 ?_
      refine Y_if_eq (pc := 174) hC 193 d_Mo_about_174 rfl (fun cc_174 => ?_) (fun cc_174 => ?_)
      · have h := ifp cc_174 h
        refine Y_iload_n (pc := 193) hC d_Mo_about_193 rfl 1 rfl ?_
        refine Y_istore_n (pc := 194) hC (L' := [(2, .int x2), (0, .ref (C.a 0)), (3, .int x3)]) d_Mo_about_194 rfl (by decide) rfl ?_
        refine Y_iinc (pc := 195) hC (v := x3 + 1) (L' := [(3, .int (x3 + 1)), (2, .int x2), (0, .ref (C.a 0))]) d_Mo_about_195 2 rfl rfl (by decide) rfl ?_
        refine Y_goto (pc := 198) hC 160 d_Mo_about_198 rfl ?_
        refine Y_sub (pc := 160) [2, 1, 0] rfl ?_
        exact ih _ _ _ h
      · have h := ifn cc_174 h
        refine Y_aload_n (pc := 177) hC d_Mo_about_177 rfl 0 rfl ?_
        refine Y_getR (pc := 178) hC sm_0 fl_Mo_97 rfl d_Mo_about_178 ?_
        refine Y_iload_n (pc := 181) hC d_Mo_about_181 rfl 2 rfl ?_
        obtain ⟨hi, h⟩ := ck_some h
        refine Y_iald (pc := 182) hC sm_26 rfl hi d_Mo_about_182 ?_
        refine Y_iload_n (pc := 183) hC d_Mo_about_183 rfl 2 rfl ?_
        refine Y_icmp_eq (pc := 184) hC 193 d_Mo_about_184 rfl (fun cc_184 => ?_) (fun cc_184 => ?_)
        · have h := ifp cc_184 h
          refine Y_iload_n (pc := 193) hC d_Mo_about_193 rfl 1 rfl ?_
          refine Y_istore_n (pc := 194) hC (L' := [(2, .int x2), (0, .ref (C.a 0)), (3, .int x3)]) d_Mo_about_194 rfl (by decide) rfl ?_
          refine Y_iinc (pc := 195) hC (v := x3 + 1) (L' := [(3, .int (x3 + 1)), (2, .int x2), (0, .ref (C.a 0))]) d_Mo_about_195 2 rfl rfl (by decide) rfl ?_
          refine Y_goto (pc := 198) hC 160 d_Mo_about_198 rfl ?_
          refine Y_sub (pc := 160) [2, 1, 0] rfl ?_
          exact ih _ _ _ h
        · have h := ifn cc_184 h
          refine Y_iload_n (pc := 187) hC d_Mo_about_187 rfl 1 rfl ?_
          refine Y_iconst (pc := 188) hC d_Mo_about_188 ki_1 ?_
          refine Y_iadd (pc := 189) hC d_Mo_about_189 ?_
          refine Y_goto (pc := 190) hC 194 d_Mo_about_190 rfl ?_
          refine Y_istore_n (pc := 194) hC (L' := [(2, .int (x2 + 1)), (0, .ref (C.a 0)), (3, .int x3)]) d_Mo_about_194 rfl (by decide) rfl ?_
          refine Y_iinc (pc := 195) hC (v := x3 + 1) (L' := [(3, .int (x3 + 1)), (2, .int (x2 + 1)), (0, .ref (C.a 0))]) d_Mo_about_195 2 rfl rfl (by decide) rfl ?_
          refine Y_goto (pc := 198) hC 160 d_Mo_about_198 rfl ?_
          refine Y_sub (pc := 160) [2, 1, 0] rfl ?_
          exact ih _ _ _ h
set_option maxHeartbeats 4000000 in
set_option maxRecDepth 100000 in
theorem ylp_Mo_about_226 {C : YC} {r : Int32} {V' : Sto} {k258 : Int32 → Sto → RT} (hC : YF C R_Mo b_Mo_about 4 rm_Mo_about) (hw : YWr C shpM) (hE : YEi C .int shpM r V') (hk258 : ∀ (y2 : Int32) (V1 : Sto), k258 y2 V1 = some (r, V') → Y C shpM 4 258 [(2, .int y2)] [] V1) : ∀ (n : Nat) (x2 x3 : Int32) (V : Sto), lp_Mo_about_226 k258 n x2 x3 V = some (r, V') → Y C shpM 4 226 [(0, .ref (C.a 0)), (2, .int x2), (3, .int x3)] [] V := by
  intro n
  induction n with
  | zero =>
    intro x2 x3 V h
    rw [lp_Mo_about_226] at h
    cases h
  | succ n ih =>
    intro x2 x3 V h
    rw [lp_Mo_about_226] at h
    refine Y_iload_n (pc := 226) hC d_Mo_about_226 rfl 2 rfl ?_
    refine Y_aload_n (pc := 227) hC d_Mo_about_227 rfl 0 rfl ?_
    refine Y_getI (pc := 228) hC sm_0 fl_Mo_167 rfl d_Mo_about_228 ?_
    refine Y_icmp_ge (pc := 231) hC 258 d_Mo_about_231 rfl (fun cc_231 => ?_) (fun cc_231 => ?_)
    · have h := ifp cc_231 h
      refine Y_sub (pc := 258) [1] rfl ?_
      exact hk258 _ _ h
    · have h := ifn cc_231 h
      refine Y_aload_n (pc := 234) hC d_Mo_about_234 rfl 0 rfl ?_
      refine Y_getR (pc := 235) hC sm_0 fl_Mo_109 rfl d_Mo_about_235 ?_
      refine Y_iload_n (pc := 238) hC d_Mo_about_238 rfl 2 rfl ?_
      obtain ⟨hi, h⟩ := ck_some h
      refine Y_iald (pc := 239) hC sm_30 rfl hi d_Mo_about_239 ?_
      refine Y_iconst (pc := 240) hC d_Mo_about_240 ki_m1 ?_
      refine Y_icmp_eq (pc := 241) hC 250 d_Mo_about_241 rfl (fun cc_241 => ?_) (fun cc_241 => ?_)
      · have h := ifp cc_241 h
        refine Y_iload_n (pc := 250) hC d_Mo_about_250 rfl 1 rfl ?_
        refine Y_istore_n (pc := 251) hC (L' := [(2, .int x2), (0, .ref (C.a 0)), (3, .int x3)]) d_Mo_about_251 rfl (by decide) rfl ?_
        refine Y_iinc (pc := 252) hC (v := x3 + 1) (L' := [(3, .int (x3 + 1)), (2, .int x2), (0, .ref (C.a 0))]) d_Mo_about_252 2 rfl rfl (by decide) rfl ?_
        refine Y_goto (pc := 255) hC 226 d_Mo_about_255 rfl ?_
        refine Y_sub (pc := 226) [2, 1, 0] rfl ?_
        exact ih _ _ _ h
      · have h := ifn cc_241 h
        refine Y_iload_n (pc := 244) hC d_Mo_about_244 rfl 1 rfl ?_
        refine Y_iconst (pc := 245) hC d_Mo_about_245 ki_1 ?_
        refine Y_iadd (pc := 246) hC d_Mo_about_246 ?_
        refine Y_goto (pc := 247) hC 251 d_Mo_about_247 rfl ?_
        refine Y_istore_n (pc := 251) hC (L' := [(2, .int (x2 + 1)), (0, .ref (C.a 0)), (3, .int x3)]) d_Mo_about_251 rfl (by decide) rfl ?_
        refine Y_iinc (pc := 252) hC (v := x3 + 1) (L' := [(3, .int (x3 + 1)), (2, .int (x2 + 1)), (0, .ref (C.a 0))]) d_Mo_about_252 2 rfl rfl (by decide) rfl ?_
        refine Y_goto (pc := 255) hC 226 d_Mo_about_255 rfl ?_
        refine Y_sub (pc := 226) [2, 1, 0] rfl ?_
        exact ih _ _ _ h
set_option maxHeartbeats 4000000 in
set_option maxRecDepth 100000 in
theorem c_Mo_about (l : Launch) (D : va_G) (cI cZ : ClassId) (a : Nat → Nat) {V : Sto} {p1 : Int32} {r : Int32} {V' : Sto} (h : f_Mo_about V p1 = some (r, V')) : YMi l D cI cZ a shpM y_Mo_about b_Mo_about 4 (some .int) rm_Mo_about true [.ref (a 0), .int p1] V r V' := by
  refine YMi_of (by decide) (Nat.le_of_ble_eq_true rfl) ?_
  intro C hl hDD hcI hcZ ha hC hw hE
  subst hl hDD hcI hcZ ha
  show Y C shpM 4 0 [(0, .ref (C.a 0)), (1, .int p1)] [] V
  have hw := hw rfl
  rw [f_Mo_about] at h
  refine Y_aload_n (pc := 0) hC d_Mo_about_0 rfl 0 rfl ?_
  refine Y_aload_n (pc := 1) hC d_Mo_about_1 rfl 0 rfl ?_
  refine Y_getI (pc := 2) hC sm_0 fl_Mo_118 rfl d_Mo_about_2 ?_
  obtain ⟨j1, hj1, h⟩ := jn_some h
  have kj1 : ∀ (z1 : Int32), j1 z1 = some (r, V') → Y C shpM 4 13 [(0, .ref (C.a 0)), (1, .int p1)] [.int z1, .ref (C.a 0)] V := by
    intro z1 h
    subst hj1
    dsimp only at h
    refine Y_aload_n (pc := 13) hC d_Mo_about_13 rfl 0 rfl ?_
    refine Y_getI (pc := 14) hC sm_0 fl_Mo_118 rfl d_Mo_about_14 ?_
    obtain ⟨j2, hj2, h⟩ := jn_some h
    have kj2 : ∀ (z2 : Int32) (V2 : Sto), j2 z2 V2 = some (r, V') → Y C shpM 4 35 [(0, .ref (C.a 0)), (1, .int p1)] [.int z2, .int z1, .ref (C.a 0)] V2 := by
      intro z2 V2 h
      subst hj2
      dsimp only at h
      obtain ⟨r2, V3, hc_r2, h⟩ := cl_some h
      refine Y_callV (pc := 35) hC (c_Mo_refuse C.l C.D C.cI C.cZ C.a hc_r2) (fun _ => hw) sm_0 cls_Mo ml_Mo_132 mv_Mo_refuse (by decide) (Nat.le_of_ble_eq_true rfl) rfl d_Mo_about_35 ?_
      refine Y_if_eq (pc := 38) hC 43 d_Mo_about_38 rfl (fun cc_38 => ?_) (fun cc_38 => ?_)
      · have h := ifp cc_38 h
        refine Y_iconst (pc := 43) hC d_Mo_about_43 ki_0 ?_
        refine Y_istore_n (pc := 44) hC (L' := [(2, .int 0), (0, .ref (C.a 0)), (1, .int p1)]) d_Mo_about_44 rfl (by decide) rfl ?_
        refine Y_iload_n (pc := 45) hC d_Mo_about_45 rfl 2 rfl ?_
        by_cases cs_46_0 : p1 = 0
        · have h := ifp cs_46_0 h
          refine Y_tableIn (pc := 46) hC (off := 42) 88 d_Mo_about_46 (by rw [cs_46_0]; decide) (by rw [cs_46_0]; decide) (by rw [cs_46_0]; try rfl) rfl ?_
          refine Y_iconst (pc := 88) hC d_Mo_about_88 ki_0 ?_
          refine Y_istore_n (pc := 89) hC (L' := [(3, .int 0), (2, .int 0), (0, .ref (C.a 0)), (1, .int p1)]) d_Mo_about_89 rfl (by decide) rfl ?_
          refine Y_sub (pc := 90) [2, 1, 0] rfl ?_
          refine ylp_Mo_about_90 hC hw hE (fun y1 V4 h => ?_) FU _ _ _ h
          refine Y_iload_n (pc := 121) hC d_Mo_about_121 rfl 0 rfl ?_
          exact Y_iret (pc := 122) hC hE d_Mo_about_122 h
        · have h := ifn cs_46_0 h
          by_cases cs_46_1 : p1 = 1
          · have h := ifp cs_46_1 h
            refine Y_tableIn (pc := 46) hC (off := 77) 123 d_Mo_about_46 (by rw [cs_46_1]; decide) (by rw [cs_46_1]; decide) (by rw [cs_46_1]; try rfl) rfl ?_
            refine Y_iconst (pc := 123) hC d_Mo_about_123 ki_0 ?_
            refine Y_istore_n (pc := 124) hC (L' := [(3, .int 0), (2, .int 0), (0, .ref (C.a 0)), (1, .int p1)]) d_Mo_about_124 rfl (by decide) rfl ?_
            refine Y_sub (pc := 125) [2, 1, 0] rfl ?_
            refine ylp_Mo_about_125 hC hw hE (fun y2 V5 h => ?_) FU _ _ _ h
            refine Y_iload_n (pc := 156) hC d_Mo_about_156 rfl 0 rfl ?_
            exact Y_iret (pc := 157) hC hE d_Mo_about_157 h
          · have h := ifn cs_46_1 h
            by_cases cs_46_2 : p1 = 2
            · have h := ifp cs_46_2 h
              refine Y_tableIn (pc := 46) hC (off := 112) 158 d_Mo_about_46 (by rw [cs_46_2]; decide) (by rw [cs_46_2]; decide) (by rw [cs_46_2]; try rfl) rfl ?_
              refine Y_iconst (pc := 158) hC d_Mo_about_158 ki_0 ?_
              refine Y_istore_n (pc := 159) hC (L' := [(3, .int 0), (2, .int 0), (0, .ref (C.a 0)), (1, .int p1)]) d_Mo_about_159 rfl (by decide) rfl ?_
              refine Y_sub (pc := 160) [2, 1, 0] rfl ?_
              refine ylp_Mo_about_160 hC hw hE (fun y3 V6 h => ?_) FU _ _ _ h
              refine Y_iload_n (pc := 201) hC d_Mo_about_201 rfl 0 rfl ?_
              exact Y_iret (pc := 202) hC hE d_Mo_about_202 h
            · have h := ifn cs_46_2 h
              by_cases cs_46_3 : p1 = 3
              · have h := ifp cs_46_3 h
                refine Y_tableIn (pc := 46) hC (off := 157) 203 d_Mo_about_46 (by rw [cs_46_3]; decide) (by rw [cs_46_3]; decide) (by rw [cs_46_3]; try rfl) rfl ?_
                refine Y_aload_n (pc := 203) hC d_Mo_about_203 rfl 1 rfl ?_
                refine Y_getI (pc := 204) hC sm_0 fl_Mo_241 rfl d_Mo_about_204 ?_
                exact Y_iret (pc := 207) hC hE d_Mo_about_207 h
              · have h := ifn cs_46_3 h
                by_cases cs_46_4 : p1 = 4
                · have h := ifp cs_46_4 h
                  refine Y_tableIn (pc := 46) hC (off := 162) 208 d_Mo_about_46 (by rw [cs_46_4]; decide) (by rw [cs_46_4]; decide) (by rw [cs_46_4]; try rfl) rfl ?_
                  refine Y_aload_n (pc := 208) hC d_Mo_about_208 rfl 1 rfl ?_
                  refine Y_getI (pc := 209) hC sm_0 fl_Mo_241 rfl d_Mo_about_209 ?_
                  refine Y_if_le (pc := 212) hC 222 d_Mo_about_212 rfl (fun cc_212 => ?_) (fun cc_212 => ?_)
                  · have h := ifp cc_212 h
                    refine Y_iconst (pc := 222) hC d_Mo_about_222 ki_m1 ?_
                    exact Y_iret (pc := 223) hC hE d_Mo_about_223 h
                  · have h := ifn cc_212 h
                    refine Y_aload_n (pc := 215) hC d_Mo_about_215 rfl 1 rfl ?_
                    refine Y_getI (pc := 216) hC sm_0 fl_Mo_244 rfl d_Mo_about_216 ?_
                    refine Y_goto (pc := 219) hC 223 d_Mo_about_219 rfl ?_
                    exact Y_iret (pc := 223) hC hE d_Mo_about_223 h
                · have h := ifn cs_46_4 h
                  by_cases cs_46_5 : p1 = 5
                  · have h := ifp cs_46_5 h
                    refine Y_tableIn (pc := 46) hC (off := 178) 224 d_Mo_about_46 (by rw [cs_46_5]; decide) (by rw [cs_46_5]; decide) (by rw [cs_46_5]; try rfl) rfl ?_
                    refine Y_iconst (pc := 224) hC d_Mo_about_224 ki_0 ?_
                    refine Y_istore_n (pc := 225) hC (L' := [(3, .int 0), (2, .int 0), (0, .ref (C.a 0)), (1, .int p1)]) d_Mo_about_225 rfl (by decide) rfl ?_
                    refine Y_sub (pc := 226) [2, 1, 0] rfl ?_
                    refine ylp_Mo_about_226 hC hw hE (fun y4 V7 h => ?_) FU _ _ _ h
                    refine Y_iload_n (pc := 258) hC d_Mo_about_258 rfl 0 rfl ?_
                    exact Y_iret (pc := 259) hC hE d_Mo_about_259 h
                  · have h := ifn cs_46_5 h
                    by_cases cs_46_6 : p1 = 6
                    · have h := ifp cs_46_6 h
                      refine Y_tableIn (pc := 46) hC (off := 214) 260 d_Mo_about_46 (by rw [cs_46_6]; decide) (by rw [cs_46_6]; decide) (by rw [cs_46_6]; try rfl) rfl ?_
                      refine Y_aload_n (pc := 260) hC d_Mo_about_260 rfl 1 rfl ?_
                      refine Y_getI (pc := 261) hC sm_0 fl_Mo_247 rfl d_Mo_about_261 ?_
                      exact Y_iret (pc := 264) hC hE d_Mo_about_264 h
                    · have h := ifn cs_46_6 h
                      have cn_0 := i32_ne cs_46_0
                      have cn_1 := i32_ne cs_46_1
                      have cn_2 := i32_ne cs_46_2
                      have cn_3 := i32_ne cs_46_3
                      have cn_4 := i32_ne cs_46_4
                      have cn_5 := i32_ne cs_46_5
                      have cn_6 := i32_ne cs_46_6
                      simp only [i32lit_0, i32lit_1, i32lit_2, i32lit_3, i32lit_4, i32lit_5, i32lit_6] at cn_0 cn_1 cn_2 cn_3 cn_4 cn_5 cn_6
                      refine Y_tableOut (pc := 46) hC 265 d_Mo_about_46 (by omega) rfl ?_
                      refine Y_aload_n (pc := 265) hC d_Mo_about_265 rfl 1 rfl ?_
                      refine Y_getI (pc := 266) hC sm_0 fl_Mo_232 rfl d_Mo_about_266 ?_
                      exact Y_iret (pc := 269) hC hE d_Mo_about_269 h
      · have h := ifn cc_38 h
        refine Y_iconst (pc := 41) hC d_Mo_about_41 ki_0 ?_
        exact Y_iret (pc := 42) hC hE d_Mo_about_42 h
    refine Y_if_eq (pc := 17) hC 34 d_Mo_about_17 rfl (fun cc_17 => ?_) (fun cc_17 => ?_)
    · have h := ifp cc_17 h
      refine Y_iconst (pc := 34) hC d_Mo_about_34 ki_0 ?_
      refine Y_sub (pc := 35) [0, 1] rfl ?_
      exact kj2 _ _ h
    · have h := ifn cc_17 h
      refine Y_iload_n (pc := 20) hC d_Mo_about_20 rfl 1 rfl ?_
      refine Y_iconst (pc := 21) hC d_Mo_about_21 ki_0 ?_
      refine Y_bipush (pc := 22) hC d_Mo_about_22 kb_7 ?_
      obtain ⟨r1, V1, hc_r1, h⟩ := cl_some h
      refine Y_callS (pc := 24) hC (c_Mo_within C.l C.D C.cI C.cZ C.a hc_r1) (fun q => nomatch q) ml_Mo_125 ms_Mo_within (by decide) (Nat.le_of_ble_eq_true rfl) rfl d_Mo_about_24 ?_
      refine Y_if_ne (pc := 27) hC 34 d_Mo_about_27 rfl (fun cc_27 => ?_) (fun cc_27 => ?_)
      · have h := ifn cc_27 h
        refine Y_iconst (pc := 34) hC d_Mo_about_34 ki_0 ?_
        refine Y_sub (pc := 35) [0, 1] rfl ?_
        exact kj2 _ _ h
      · have h := ifp cc_27 h
        refine Y_iconst (pc := 30) hC d_Mo_about_30 ki_1 ?_
        refine Y_goto (pc := 31) hC 35 d_Mo_about_31 rfl ?_
        refine Y_sub (pc := 35) [0, 1] rfl ?_
        exact kj2 _ _ h
  refine Y_if_ne (pc := 5) hC 12 d_Mo_about_5 rfl (fun cc_5 => ?_) (fun cc_5 => ?_)
  · have h := ifn cc_5 h
    refine Y_iconst (pc := 12) hC d_Mo_about_12 ki_0 ?_
    refine Y_sub (pc := 13) [0, 1] rfl ?_
    exact kj1 _ h
  · have h := ifp cc_5 h
    refine Y_iconst (pc := 8) hC d_Mo_about_8 ki_1 ?_
    refine Y_goto (pc := 9) hC 13 d_Mo_about_9 rfl ?_
    refine Y_sub (pc := 13) [0, 1] rfl ?_
    exact kj1 _ h
