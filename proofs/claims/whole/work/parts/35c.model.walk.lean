set_option maxHeartbeats 4000000 in
set_option maxRecDepth 100000 in
theorem ylp_Mo_findLike_12 {C : YC} {r : Int32} {V' : Sto} {x1 : Int32} {k79 : Sto → RT} (hC : YF C R_Mo b_Mo_findLike 5 rm_Mo_findLike) (hw : YWr C shpM) (hE : YEv C shpM V') (hk79 : ∀ (V1 : Sto), k79 V1 = some (r, V') → Y C shpM 5 79 [(0, .ref (C.a 0)), (1, .int x1)] [] V1) : ∀ (n : Nat) (x2 : Int32) (V : Sto), lp_Mo_findLike_12 x1 k79 n x2 V = some (r, V') → Y C shpM 5 12 [(0, .ref (C.a 0)), (1, .int x1), (2, .int x2)] [] V := by
  intro n
  induction n with
  | zero =>
    intro x2 V h
    rw [lp_Mo_findLike_12] at h
    cases h
  | succ n ih =>
    intro x2 V h
    rw [lp_Mo_findLike_12] at h
    refine Y_iload_n (pc := 12) hC d_Mo_findLike_12 rfl 2 rfl ?_
    refine Y_aload_n (pc := 13) hC d_Mo_findLike_13 rfl 0 rfl ?_
    refine Y_getI (pc := 14) hC sm_0 fl_Mo_143 rfl d_Mo_findLike_14 ?_
    refine Y_icmp_ge (pc := 17) hC 79 d_Mo_findLike_17 rfl (fun cc_17 => ?_) (fun cc_17 => ?_)
    · have h := ifp cc_17 h
      refine Y_sub (pc := 79) [0, 1] rfl ?_
      exact hk79 _ h
    · have h := ifn cc_17 h
      refine Y_aload_n (pc := 20) hC d_Mo_findLike_20 rfl 0 rfl ?_
      refine Y_getR (pc := 21) hC sm_0 fl_Mo_103 rfl d_Mo_findLike_21 ?_
      refine Y_bipush (pc := 24) hC d_Mo_findLike_24 kb_96 ?_
      refine Y_iload_n (pc := 26) hC d_Mo_findLike_26 rfl 1 rfl ?_
      refine Y_imul (pc := 27) hC d_Mo_findLike_27 ?_
      refine Y_iload_n (pc := 28) hC d_Mo_findLike_28 rfl 2 rfl ?_
      refine Y_iadd (pc := 29) hC d_Mo_findLike_29 ?_
      refine Y_aload_n (pc := 30) hC d_Mo_findLike_30 rfl 0 rfl ?_
      refine Y_getI (pc := 31) hC sm_0 fl_Mo_170 rfl d_Mo_findLike_31 ?_
      refine Y_if_eq (pc := 34) hC 71 d_Mo_findLike_34 rfl (fun cc_34 => ?_) (fun cc_34 => ?_)
      · have h := ifp cc_34 h
        refine Y_iconst (pc := 71) hC d_Mo_findLike_71 ki_0 ?_
        obtain ⟨hi, h⟩ := ck_some h
        obtain ⟨V1, hV1, h⟩ := nm_some h
        refine Y_zast (pc := 72) hC sm_28 (by decide) rfl hi hw rfl hV1 d_Mo_findLike_72 ?_
        refine Y_iinc (pc := 73) hC (v := x2 + 1) (L' := [(2, .int (x2 + 1)), (0, .ref (C.a 0)), (1, .int x1)]) d_Mo_findLike_73 2 rfl rfl (by decide) rfl ?_
        refine Y_goto (pc := 76) hC 12 d_Mo_findLike_76 rfl ?_
        refine Y_sub (pc := 12) [1, 2, 0] rfl ?_
        exact ih _ _ h
      · have h := ifn cc_34 h
        refine Y_iload_n (pc := 37) hC d_Mo_findLike_37 rfl 1 rfl ?_
        refine Y_iload_n (pc := 38) hC d_Mo_findLike_38 rfl 2 rfl ?_
        refine Y_icmp_eq (pc := 39) hC 71 d_Mo_findLike_39 rfl (fun cc_39 => ?_) (fun cc_39 => ?_)
        · have h := ifp cc_39 h
          refine Y_iconst (pc := 71) hC d_Mo_findLike_71 ki_0 ?_
          obtain ⟨hi, h⟩ := ck_some h
          obtain ⟨V2, hV2, h⟩ := nm_some h
          refine Y_zast (pc := 72) hC sm_28 (by decide) rfl hi hw rfl hV2 d_Mo_findLike_72 ?_
          refine Y_iinc (pc := 73) hC (v := x2 + 1) (L' := [(2, .int (x2 + 1)), (0, .ref (C.a 0)), (1, .int x1)]) d_Mo_findLike_73 2 rfl rfl (by decide) rfl ?_
          refine Y_goto (pc := 76) hC 12 d_Mo_findLike_76 rfl ?_
          refine Y_sub (pc := 12) [1, 2, 0] rfl ?_
          exact ih _ _ h
        · have h := ifn cc_39 h
          refine Y_aload_n (pc := 42) hC d_Mo_findLike_42 rfl 0 rfl ?_
          refine Y_iload_n (pc := 43) hC d_Mo_findLike_43 rfl 1 rfl ?_
          obtain ⟨r1, V3, hc_r1, h⟩ := cl_some h
          refine Y_callV (pc := 44) hC (c_Mo_mayFold C.l C.D C.cI C.cZ C.a hc_r1) (fun q => nomatch q) sm_0 cls_Mo ml_Mo_217 mv_Mo_mayFold (by decide) (Nat.le_of_ble_eq_true rfl) rfl d_Mo_findLike_44 ?_
          refine Y_if_eq (pc := 47) hC 71 d_Mo_findLike_47 rfl (fun cc_47 => ?_) (fun cc_47 => ?_)
          · have h := ifp cc_47 h
            refine Y_iconst (pc := 71) hC d_Mo_findLike_71 ki_0 ?_
            obtain ⟨hi, h⟩ := ck_some h
            obtain ⟨V4, hV4, h⟩ := nm_some h
            refine Y_zast (pc := 72) hC sm_28 (by decide) rfl hi hw rfl hV4 d_Mo_findLike_72 ?_
            refine Y_iinc (pc := 73) hC (v := x2 + 1) (L' := [(2, .int (x2 + 1)), (0, .ref (C.a 0)), (1, .int x1)]) d_Mo_findLike_73 2 rfl rfl (by decide) rfl ?_
            refine Y_goto (pc := 76) hC 12 d_Mo_findLike_76 rfl ?_
            refine Y_sub (pc := 12) [1, 2, 0] rfl ?_
            exact ih _ _ h
          · have h := ifn cc_47 h
            refine Y_aload_n (pc := 50) hC d_Mo_findLike_50 rfl 0 rfl ?_
            refine Y_iload_n (pc := 51) hC d_Mo_findLike_51 rfl 2 rfl ?_
            obtain ⟨r2, V5, hc_r2, h⟩ := cl_some h
            refine Y_callV (pc := 52) hC (c_Mo_mayFold C.l C.D C.cI C.cZ C.a hc_r2) (fun q => nomatch q) sm_0 cls_Mo ml_Mo_217 mv_Mo_mayFold (by decide) (Nat.le_of_ble_eq_true rfl) rfl d_Mo_findLike_52 ?_
            refine Y_if_eq (pc := 55) hC 71 d_Mo_findLike_55 rfl (fun cc_55 => ?_) (fun cc_55 => ?_)
            · have h := ifp cc_55 h
              refine Y_iconst (pc := 71) hC d_Mo_findLike_71 ki_0 ?_
              obtain ⟨hi, h⟩ := ck_some h
              obtain ⟨V6, hV6, h⟩ := nm_some h
              refine Y_zast (pc := 72) hC sm_28 (by decide) rfl hi hw rfl hV6 d_Mo_findLike_72 ?_
              refine Y_iinc (pc := 73) hC (v := x2 + 1) (L' := [(2, .int (x2 + 1)), (0, .ref (C.a 0)), (1, .int x1)]) d_Mo_findLike_73 2 rfl rfl (by decide) rfl ?_
              refine Y_goto (pc := 76) hC 12 d_Mo_findLike_76 rfl ?_
              refine Y_sub (pc := 12) [1, 2, 0] rfl ?_
              exact ih _ _ h
            · have h := ifn cc_55 h
              refine Y_aload_n (pc := 58) hC d_Mo_findLike_58 rfl 0 rfl ?_
              refine Y_iload_n (pc := 59) hC d_Mo_findLike_59 rfl 1 rfl ?_
              refine Y_iload_n (pc := 60) hC d_Mo_findLike_60 rfl 2 rfl ?_
              obtain ⟨r3, V7, hc_r3, h⟩ := cl_some h
              refine Y_callV (pc := 61) hC (c_Mo_haveLikeWords C.l C.D C.cI C.cZ C.a hc_r3) (fun q => nomatch q) sm_0 cls_Mo ml_Mo_220 mv_Mo_haveLikeWords (by decide) (Nat.le_of_ble_eq_true rfl) rfl d_Mo_findLike_61 ?_
              refine Y_if_eq (pc := 64) hC 71 d_Mo_findLike_64 rfl (fun cc_64 => ?_) (fun cc_64 => ?_)
              · have h := ifp cc_64 h
                refine Y_iconst (pc := 71) hC d_Mo_findLike_71 ki_0 ?_
                obtain ⟨hi, h⟩ := ck_some h
                obtain ⟨V8, hV8, h⟩ := nm_some h
                refine Y_zast (pc := 72) hC sm_28 (by decide) rfl hi hw rfl hV8 d_Mo_findLike_72 ?_
                refine Y_iinc (pc := 73) hC (v := x2 + 1) (L' := [(2, .int (x2 + 1)), (0, .ref (C.a 0)), (1, .int x1)]) d_Mo_findLike_73 2 rfl rfl (by decide) rfl ?_
                refine Y_goto (pc := 76) hC 12 d_Mo_findLike_76 rfl ?_
                refine Y_sub (pc := 12) [1, 2, 0] rfl ?_
                exact ih _ _ h
              · have h := ifn cc_64 h
                refine Y_iconst (pc := 67) hC d_Mo_findLike_67 ki_1 ?_
                refine Y_goto (pc := 68) hC 72 d_Mo_findLike_68 rfl ?_
                obtain ⟨hi, h⟩ := ck_some h
                obtain ⟨V9, hV9, h⟩ := nm_some h
                refine Y_zast (pc := 72) hC sm_28 (by decide) rfl hi hw rfl hV9 d_Mo_findLike_72 ?_
                refine Y_iinc (pc := 73) hC (v := x2 + 1) (L' := [(2, .int (x2 + 1)), (0, .ref (C.a 0)), (1, .int x1)]) d_Mo_findLike_73 2 rfl rfl (by decide) rfl ?_
                refine Y_goto (pc := 76) hC 12 d_Mo_findLike_76 rfl ?_
                refine Y_sub (pc := 12) [1, 2, 0] rfl ?_
                exact ih _ _ h
set_option maxHeartbeats 4000000 in
set_option maxRecDepth 100000 in
theorem ylp_Mo_findLike_2 {C : YC} {r : Int32} {V' : Sto} {k85 : Sto → RT} (hC : YF C R_Mo b_Mo_findLike 5 rm_Mo_findLike) (hw : YWr C shpM) (hE : YEv C shpM V') (hk85 : ∀ (V1 : Sto), k85 V1 = some (r, V') → Y C shpM 5 85 [(0, .ref (C.a 0))] [] V1) : ∀ (n : Nat) (x1 : Int32) (V : Sto), lp_Mo_findLike_2 k85 n x1 V = some (r, V') → Y C shpM 5 2 [(0, .ref (C.a 0)), (1, .int x1)] [] V := by
  intro n
  induction n with
  | zero =>
    intro x1 V h
    rw [lp_Mo_findLike_2] at h
    cases h
  | succ n ih =>
    intro x1 V h
    rw [lp_Mo_findLike_2] at h
    refine Y_iload_n (pc := 2) hC d_Mo_findLike_2 rfl 1 rfl ?_
    refine Y_aload_n (pc := 3) hC d_Mo_findLike_3 rfl 0 rfl ?_
    refine Y_getI (pc := 4) hC sm_0 fl_Mo_143 rfl d_Mo_findLike_4 ?_
    refine Y_icmp_ge (pc := 7) hC 85 d_Mo_findLike_7 rfl (fun cc_7 => ?_) (fun cc_7 => ?_)
    · have h := ifp cc_7 h
      refine Y_sub (pc := 85) [0] rfl ?_
      exact hk85 _ h
    · have h := ifn cc_7 h
      refine Y_iconst (pc := 10) hC d_Mo_findLike_10 ki_0 ?_
      refine Y_istore_n (pc := 11) hC (L' := [(2, .int 0), (0, .ref (C.a 0)), (1, .int x1)]) d_Mo_findLike_11 rfl (by decide) rfl ?_
      refine Y_sub (pc := 12) [1, 2, 0] rfl ?_
      refine ylp_Mo_findLike_12 hC hw hE (fun V10 h => ?_) FU _ _ h
      refine Y_iinc (pc := 79) hC (v := x1 + 1) (L' := [(1, .int (x1 + 1)), (0, .ref (C.a 0))]) d_Mo_findLike_79 1 rfl rfl (by decide) rfl ?_
      refine Y_goto (pc := 82) hC 2 d_Mo_findLike_82 rfl ?_
      refine Y_sub (pc := 2) [1, 0] rfl ?_
      exact ih _ _ h
set_option maxHeartbeats 4000000 in
set_option maxRecDepth 100000 in
theorem ylp_Mo_findLike_98 {C : YC} {r : Int32} {V' : Sto} {k163 : Int32 → Sto → RT} (hC : YF C R_Mo b_Mo_findLike 5 rm_Mo_findLike) (hw : YWr C shpM) (hE : YEv C shpM V') (hk163 : ∀ (y1 : Int32) (V1 : Sto), k163 y1 V1 = some (r, V') → Y C shpM 5 163 [(0, .ref (C.a 0)), (1, .int y1)] [] V1) : ∀ (n : Nat) (x1 x2 : Int32) (V : Sto), lp_Mo_findLike_98 k163 n x1 x2 V = some (r, V') → Y C shpM 5 98 [(0, .ref (C.a 0)), (1, .int x1), (2, .int x2)] [] V := by
  intro n
  induction n with
  | zero =>
    intro x1 x2 V h
    rw [lp_Mo_findLike_98] at h
    cases h
  | succ n ih =>
    intro x1 x2 V h
    rw [lp_Mo_findLike_98] at h
    refine Y_iload_n (pc := 98) hC d_Mo_findLike_98 rfl 2 rfl ?_
    refine Y_bipush (pc := 99) hC d_Mo_findLike_99 kb_96 ?_
    refine Y_aload_n (pc := 101) hC d_Mo_findLike_101 rfl 0 rfl ?_
    refine Y_getI (pc := 102) hC sm_0 fl_Mo_143 rfl d_Mo_findLike_102 ?_
    refine Y_imul (pc := 105) hC d_Mo_findLike_105 ?_
    refine Y_icmp_ge (pc := 106) hC 163 d_Mo_findLike_106 rfl (fun cc_106 => ?_) (fun cc_106 => ?_)
    · have h := ifp cc_106 h
      refine Y_sub (pc := 163) [0, 1] rfl ?_
      exact hk163 _ _ h
    · have h := ifn cc_106 h
      refine Y_iload_n (pc := 109) hC d_Mo_findLike_109 rfl 2 rfl ?_
      refine Y_bipush (pc := 110) hC d_Mo_findLike_110 kb_96 ?_
      refine Y_idiv (pc := 112) hC d_Mo_findLike_112 (by decide) ?_
      refine Y_istore_n (pc := 113) hC (L' := [(3, .int (x2 / 96)), (0, .ref (C.a 0)), (1, .int x1), (2, .int x2)]) d_Mo_findLike_113 rfl (by decide) rfl ?_
      refine Y_iload_n (pc := 114) hC d_Mo_findLike_114 rfl 3 rfl ?_
      refine Y_bipush (pc := 115) hC d_Mo_findLike_115 kb_96 ?_
      refine Y_irem (pc := 117) hC d_Mo_findLike_117 (by decide) ?_
      refine Y_istore (pc := 118) hC (L' := [(4, .int (x2 - x2 / 96 * 96)), (3, .int (x2 / 96)), (0, .ref (C.a 0)), (1, .int x1), (2, .int x2)]) d_Mo_findLike_118 (by decide) rfl ?_
      refine Y_iload (pc := 120) hC d_Mo_findLike_120 0 rfl ?_
      refine Y_aload_n (pc := 122) hC d_Mo_findLike_122 rfl 2 rfl ?_
      refine Y_getI (pc := 123) hC sm_0 fl_Mo_143 rfl d_Mo_findLike_123 ?_
      refine Y_icmp_ge (pc := 126) hC 157 d_Mo_findLike_126 rfl (fun cc_126 => ?_) (fun cc_126 => ?_)
      · have h := ifp cc_126 h
        refine Y_iinc (pc := 157) hC (v := x2 + 1) (L' := [(2, .int (x2 + 1)), (4, .int (x2 - x2 / 96 * 96)), (3, .int (x2 / 96)), (0, .ref (C.a 0)), (1, .int x1)]) d_Mo_findLike_157 4 rfl rfl (by decide) rfl ?_
        refine Y_goto (pc := 160) hC 98 d_Mo_findLike_160 rfl ?_
        refine Y_sub (pc := 98) [3, 4, 0] rfl ?_
        exact ih _ _ _ h
      · have h := ifn cc_126 h
        refine Y_aload_n (pc := 129) hC d_Mo_findLike_129 rfl 2 rfl ?_
        refine Y_getR (pc := 130) hC sm_0 fl_Mo_103 rfl d_Mo_findLike_130 ?_
        refine Y_iload_n (pc := 133) hC d_Mo_findLike_133 rfl 4 rfl ?_
        obtain ⟨hi, h⟩ := ck_some h
        refine Y_zald (pc := 134) hC sm_28 rfl hi d_Mo_findLike_134 ?_
        refine Y_if_eq (pc := 135) hC 157 d_Mo_findLike_135 rfl (fun cc_135 => ?_) (fun cc_135 => ?_)
        · have h := ifp cc_135 h
          refine Y_iinc (pc := 157) hC (v := x2 + 1) (L' := [(2, .int (x2 + 1)), (4, .int (x2 - x2 / 96 * 96)), (3, .int (x2 / 96)), (0, .ref (C.a 0)), (1, .int x1)]) d_Mo_findLike_157 4 rfl rfl (by decide) rfl ?_
          refine Y_goto (pc := 160) hC 98 d_Mo_findLike_160 rfl ?_
          refine Y_sub (pc := 98) [3, 4, 0] rfl ?_
          exact ih _ _ _ h
        · have h := ifn cc_135 h
          refine Y_aload_n (pc := 138) hC d_Mo_findLike_138 rfl 2 rfl ?_
          refine Y_iload_n (pc := 139) hC d_Mo_findLike_139 rfl 1 rfl ?_
          refine Y_iload (pc := 140) hC d_Mo_findLike_140 0 rfl ?_
          obtain ⟨r4, V12, hc_r4, h⟩ := cl_some h
          refine Y_callV (pc := 142) hC (c_Mo_haveLikeRelocations C.l C.D C.cI C.cZ C.a hc_r4) (fun q => nomatch q) sm_0 cls_Mo ml_Mo_223 mv_Mo_haveLikeRelocations (by decide) (Nat.le_of_ble_eq_true rfl) rfl d_Mo_findLike_142 ?_
          refine Y_if_ne (pc := 145) hC 157 d_Mo_findLike_145 rfl (fun cc_145 => ?_) (fun cc_145 => ?_)
          · have h := ifn cc_145 h
            refine Y_iinc (pc := 157) hC (v := x2 + 1) (L' := [(2, .int (x2 + 1)), (4, .int (x2 - x2 / 96 * 96)), (3, .int (x2 / 96)), (0, .ref (C.a 0)), (1, .int x1)]) d_Mo_findLike_157 4 rfl rfl (by decide) rfl ?_
            refine Y_goto (pc := 160) hC 98 d_Mo_findLike_160 rfl ?_
            refine Y_sub (pc := 98) [3, 4, 0] rfl ?_
            exact ih _ _ _ h
          · have h := ifp cc_145 h
            refine Y_aload_n (pc := 148) hC d_Mo_findLike_148 rfl 2 rfl ?_
            refine Y_getR (pc := 149) hC sm_0 fl_Mo_103 rfl d_Mo_findLike_149 ?_
            refine Y_iload_n (pc := 152) hC d_Mo_findLike_152 rfl 4 rfl ?_
            refine Y_iconst (pc := 153) hC d_Mo_findLike_153 ki_0 ?_
            obtain ⟨hi, h⟩ := ck_some h
            obtain ⟨V13, hV13, h⟩ := nm_some h
            refine Y_zast (pc := 154) hC sm_28 (by decide) rfl hi hw rfl hV13 d_Mo_findLike_154 ?_
            refine Y_iconst (pc := 155) hC d_Mo_findLike_155 ki_1 ?_
            refine Y_istore_n (pc := 156) hC (L' := [(1, .int 1), (4, .int (x2 - x2 / 96 * 96)), (3, .int (x2 / 96)), (0, .ref (C.a 0)), (2, .int x2)]) d_Mo_findLike_156 rfl (by decide) rfl ?_
            refine Y_iinc (pc := 157) hC (v := x2 + 1) (L' := [(2, .int (x2 + 1)), (1, .int 1), (4, .int (x2 - x2 / 96 * 96)), (3, .int (x2 / 96)), (0, .ref (C.a 0))]) d_Mo_findLike_157 4 rfl rfl (by decide) rfl ?_
            refine Y_goto (pc := 160) hC 98 d_Mo_findLike_160 rfl ?_
            refine Y_sub (pc := 98) [4, 1, 0] rfl ?_
            exact ih _ _ _ h
set_option maxHeartbeats 4000000 in
set_option maxRecDepth 100000 in
theorem ylp_Mo_findLike_90 {C : YC} {r : Int32} {V' : Sto} {k166 : Sto → RT} (hC : YF C R_Mo b_Mo_findLike 5 rm_Mo_findLike) (hw : YWr C shpM) (hE : YEv C shpM V') (hk166 : ∀ (V1 : Sto), k166 V1 = some (r, V') → Y C shpM 5 166 [(0, .ref (C.a 0))] [] V1) : ∀ (n : Nat) (x1 : Int32) (V : Sto), lp_Mo_findLike_90 k166 n x1 V = some (r, V') → Y C shpM 5 90 [(0, .ref (C.a 0)), (1, .int x1)] [] V := by
  intro n
  induction n with
  | zero =>
    intro x1 V h
    rw [lp_Mo_findLike_90] at h
    cases h
  | succ n ih =>
    intro x1 V h
    rw [lp_Mo_findLike_90] at h
    refine Y_iload_n (pc := 90) hC d_Mo_findLike_90 rfl 1 rfl ?_
    refine Y_if_eq (pc := 91) hC 166 d_Mo_findLike_91 rfl (fun cc_91 => ?_) (fun cc_91 => ?_)
    · have h := ifp cc_91 h
      refine Y_sub (pc := 166) [0] rfl ?_
      exact hk166 _ h
    · have h := ifn cc_91 h
      refine Y_iconst (pc := 94) hC d_Mo_findLike_94 ki_0 ?_
      refine Y_istore_n (pc := 95) hC (L' := [(1, .int 0), (0, .ref (C.a 0))]) d_Mo_findLike_95 rfl (by decide) rfl ?_
      refine Y_iconst (pc := 96) hC d_Mo_findLike_96 ki_0 ?_
      refine Y_istore_n (pc := 97) hC (L' := [(2, .int 0), (1, .int 0), (0, .ref (C.a 0))]) d_Mo_findLike_97 rfl (by decide) rfl ?_
      refine Y_sub (pc := 98) [2, 1, 0] rfl ?_
      refine ylp_Mo_findLike_98 hC hw hE (fun y1 V14 h => ?_) FU _ _ _ h
      refine Y_goto (pc := 163) hC 90 d_Mo_findLike_163 rfl ?_
      refine Y_sub (pc := 90) [0, 1] rfl ?_
      exact ih _ _ h
set_option maxHeartbeats 4000000 in
set_option maxRecDepth 100000 in
theorem ylp_Mo_findLike_187 {C : YC} {r : Int32} {V' : Sto} {x2 : Int32} {k227 : Sto → RT} (hC : YF C R_Mo b_Mo_findLike 5 rm_Mo_findLike) (hw : YWr C shpM) (hE : YEv C shpM V') (hk227 : ∀ (V1 : Sto), k227 V1 = some (r, V') → Y C shpM 5 227 [(0, .ref (C.a 0)), (2, .int x2)] [] V1) : ∀ (n : Nat) (x3 : Int32) (V : Sto), lp_Mo_findLike_187 x2 k227 n x3 V = some (r, V') → Y C shpM 5 187 [(0, .ref (C.a 0)), (2, .int x2), (3, .int x3)] [] V := by
  intro n
  induction n with
  | zero =>
    intro x3 V h
    rw [lp_Mo_findLike_187] at h
    cases h
  | succ n ih =>
    intro x3 V h
    rw [lp_Mo_findLike_187] at h
    refine Y_iload_n (pc := 187) hC d_Mo_findLike_187 rfl 2 rfl ?_
    refine Y_if_lt (pc := 188) hC 227 d_Mo_findLike_188 rfl (fun cc_188 => ?_) (fun cc_188 => ?_)
    · have h := ifp cc_188 h
      refine Y_sub (pc := 227) [0, 1] rfl ?_
      exact hk227 _ h
    · have h := ifn cc_188 h
      refine Y_aload_n (pc := 191) hC d_Mo_findLike_191 rfl 0 rfl ?_
      refine Y_getR (pc := 192) hC sm_0 fl_Mo_97 rfl d_Mo_findLike_192 ?_
      refine Y_iload_n (pc := 195) hC d_Mo_findLike_195 rfl 1 rfl ?_
      refine Y_aload_n (pc := 196) hC d_Mo_findLike_196 rfl 0 rfl ?_
      refine Y_getR (pc := 197) hC sm_0 fl_Mo_103 rfl d_Mo_findLike_197 ?_
      refine Y_bipush (pc := 200) hC d_Mo_findLike_200 kb_96 ?_
      refine Y_iload_n (pc := 202) hC d_Mo_findLike_202 rfl 1 rfl ?_
      refine Y_imul (pc := 203) hC d_Mo_findLike_203 ?_
      refine Y_iload_n (pc := 204) hC d_Mo_findLike_204 rfl 2 rfl ?_
      refine Y_iadd (pc := 205) hC d_Mo_findLike_205 ?_
      obtain ⟨hi, h⟩ := ck_some h
      refine Y_zald (pc := 206) hC sm_28 rfl hi d_Mo_findLike_206 ?_
      refine Y_if_eq (pc := 207) hC 214 d_Mo_findLike_207 rfl (fun cc_207 => ?_) (fun cc_207 => ?_)
      · have h := ifp cc_207 h
        refine Y_aload_n (pc := 214) hC d_Mo_findLike_214 rfl 0 rfl ?_
        refine Y_getR (pc := 215) hC sm_0 fl_Mo_97 rfl d_Mo_findLike_215 ?_
        refine Y_iload_n (pc := 218) hC d_Mo_findLike_218 rfl 1 rfl ?_
        obtain ⟨hi, h⟩ := ck_some h
        refine Y_iald (pc := 219) hC sm_26 rfl hi d_Mo_findLike_219 ?_
        obtain ⟨hi, h⟩ := ck_some h
        obtain ⟨V17, hV17, h⟩ := nm_some h
        refine Y_iast (pc := 220) hC sm_26 (by decide) rfl hi hw rfl hV17 d_Mo_findLike_220 ?_
        refine Y_iinc (pc := 221) hC (v := x3 + (-1)) (L' := [(3, .int (x3 + (-1))), (0, .ref (C.a 0)), (2, .int x2)]) d_Mo_findLike_221 2 rfl rfl (by decide) rfl ?_
        refine Y_goto (pc := 224) hC 187 d_Mo_findLike_224 rfl ?_
        refine Y_sub (pc := 187) [1, 2, 0] rfl ?_
        exact ih _ _ h
      · have h := ifn cc_207 h
        refine Y_iload_n (pc := 210) hC d_Mo_findLike_210 rfl 2 rfl ?_
        refine Y_goto (pc := 211) hC 220 d_Mo_findLike_211 rfl ?_
        obtain ⟨hi, h⟩ := ck_some h
        obtain ⟨V18, hV18, h⟩ := nm_some h
        refine Y_iast (pc := 220) hC sm_26 (by decide) rfl hi hw rfl hV18 d_Mo_findLike_220 ?_
        refine Y_iinc (pc := 221) hC (v := x3 + (-1)) (L' := [(3, .int (x3 + (-1))), (0, .ref (C.a 0)), (2, .int x2)]) d_Mo_findLike_221 2 rfl rfl (by decide) rfl ?_
        refine Y_goto (pc := 224) hC 187 d_Mo_findLike_224 rfl ?_
        refine Y_sub (pc := 187) [1, 2, 0] rfl ?_
        exact ih _ _ h
set_option maxHeartbeats 4000000 in
set_option maxRecDepth 100000 in
theorem ylp_Mo_findLike_168 {C : YC} {r : Int32} {V' : Sto} {k233 : Sto → RT} (hC : YF C R_Mo b_Mo_findLike 5 rm_Mo_findLike) (hw : YWr C shpM) (hE : YEv C shpM V') (hk233 : ∀ (V1 : Sto), k233 V1 = some (r, V') → Y C shpM 5 233 [] [] V1) : ∀ (n : Nat) (x2 : Int32) (V : Sto), lp_Mo_findLike_168 k233 n x2 V = some (r, V') → Y C shpM 5 168 [(0, .ref (C.a 0)), (2, .int x2)] [] V := by
  intro n
  induction n with
  | zero =>
    intro x2 V h
    rw [lp_Mo_findLike_168] at h
    cases h
  | succ n ih =>
    intro x2 V h
    rw [lp_Mo_findLike_168] at h
    refine Y_iload_n (pc := 168) hC d_Mo_findLike_168 rfl 1 rfl ?_
    refine Y_aload_n (pc := 169) hC d_Mo_findLike_169 rfl 0 rfl ?_
    refine Y_getI (pc := 170) hC sm_0 fl_Mo_143 rfl d_Mo_findLike_170 ?_
    refine Y_icmp_ge (pc := 173) hC 233 d_Mo_findLike_173 rfl (fun cc_173 => ?_) (fun cc_173 => ?_)
    · have h := ifp cc_173 h
      refine Y_sub (pc := 233) [] rfl ?_
      exact hk233 _ h
    · have h := ifn cc_173 h
      refine Y_aload_n (pc := 176) hC d_Mo_findLike_176 rfl 0 rfl ?_
      refine Y_getR (pc := 177) hC sm_0 fl_Mo_97 rfl d_Mo_findLike_177 ?_
      refine Y_iload_n (pc := 180) hC d_Mo_findLike_180 rfl 1 rfl ?_
      refine Y_iload_n (pc := 181) hC d_Mo_findLike_181 rfl 1 rfl ?_
      obtain ⟨hi, h⟩ := ck_some h
      obtain ⟨V16, hV16, h⟩ := nm_some h
      refine Y_iast (pc := 182) hC sm_26 (by decide) rfl hi hw rfl hV16 d_Mo_findLike_182 ?_
      refine Y_iload_n (pc := 183) hC d_Mo_findLike_183 rfl 1 rfl ?_
      refine Y_iconst (pc := 184) hC d_Mo_findLike_184 ki_1 ?_
      refine Y_isub (pc := 185) hC d_Mo_findLike_185 ?_
      refine Y_istore_n (pc := 186) hC (L' := [(3, .int (x2 - 1)), (0, .ref (C.a 0)), (2, .int x2)]) d_Mo_findLike_186 rfl (by decide) rfl ?_
      refine Y_sub (pc := 187) [1, 2, 0] rfl ?_
      refine ylp_Mo_findLike_187 hC hw hE (fun V19 h => ?_) FU _ _ h
      refine Y_iinc (pc := 227) hC (v := x2 + 1) (L' := [(2, .int (x2 + 1)), (0, .ref (C.a 0))]) d_Mo_findLike_227 1 rfl rfl (by decide) rfl ?_
      refine Y_goto (pc := 230) hC 168 d_Mo_findLike_230 rfl ?_
      refine Y_sub (pc := 168) [1, 0] rfl ?_
      exact ih _ _ h
set_option maxHeartbeats 4000000 in
set_option maxRecDepth 100000 in
theorem c_Mo_findLike (l : Launch) (D : va_G) (cI cZ : ClassId) (a : Nat → Nat) {V : Sto} {r : Int32} {V' : Sto} (h : f_Mo_findLike V = some (r, V')) : YMv l D cI cZ a shpM y_Mo_findLike b_Mo_findLike 5 rm_Mo_findLike true [.ref (a 0)] V V' := by
  refine YMv_of (by decide) (Nat.le_of_ble_eq_true rfl) ?_
  intro C hl hDD hcI hcZ ha hC hw hE
  subst hl hDD hcI hcZ ha
  show Y C shpM 5 0 [(0, .ref (C.a 0))] [] V
  have hw := hw rfl
  rw [f_Mo_findLike] at h
  refine Y_iconst (pc := 0) hC d_Mo_findLike_0 ki_0 ?_
  refine Y_istore_n (pc := 1) hC (L' := [(1, .int 0), (0, .ref (C.a 0))]) d_Mo_findLike_1 rfl (by decide) rfl ?_
  refine Y_sub (pc := 2) [1, 0] rfl ?_
  refine ylp_Mo_findLike_2 hC hw hE (fun V11 h => ?_) FU _ _ h
  refine Y_aload_n (pc := 85) hC d_Mo_findLike_85 rfl 0 rfl ?_
  refine Y_getI (pc := 86) hC sm_0 fl_Mo_170 rfl d_Mo_findLike_86 ?_
  refine Y_istore_n (pc := 89) hC (L' := [(1, .int (V11 0 27)), (0, .ref (C.a 0))]) d_Mo_findLike_89 rfl (by decide) rfl ?_
  refine Y_sub (pc := 90) [1, 0] rfl ?_
  refine ylp_Mo_findLike_90 hC hw hE (fun V15 h => ?_) FU _ _ h
  refine Y_iconst (pc := 166) hC d_Mo_findLike_166 ki_0 ?_
  refine Y_istore_n (pc := 167) hC (L' := [(2, .int 0), (0, .ref (C.a 0))]) d_Mo_findLike_167 rfl (by decide) rfl ?_
  refine Y_sub (pc := 168) [1, 0] rfl ?_
  refine ylp_Mo_findLike_168 hC hw hE (fun V20 h => ?_) FU _ _ h
  exact Y_vret (pc := 233) hC hE d_Mo_findLike_233 h
set_option maxHeartbeats 4000000 in
set_option maxRecDepth 100000 in
theorem c_Mo_stays (l : Launch) (D : va_G) (cI cZ : ClassId) (a : Nat → Nat) {V : Sto} {p1 : Int32} {r : Int32} {V' : Sto} (h : f_Mo_stays V p1 = some (r, V')) : YMi l D cI cZ a shpM y_Mo_stays b_Mo_stays 2 (some .boolean) rm_Mo_stays false [.ref (a 0), .int p1] V r V' := by
  refine YMi_of (by decide) (Nat.le_of_ble_eq_true rfl) ?_
  intro C hl hDD hcI hcZ ha hC hw hE
  subst hl hDD hcI hcZ ha
  show Y C shpM 2 0 [(0, .ref (C.a 0)), (1, .int p1)] [] V
  rw [f_Mo_stays] at h
  refine Y_aload_n (pc := 0) hC d_Mo_stays_0 rfl 0 rfl ?_
  refine Y_getR (pc := 1) hC sm_0 fl_Mo_94 rfl d_Mo_stays_1 ?_
  refine Y_iload_n (pc := 4) hC d_Mo_stays_4 rfl 1 rfl ?_
  obtain ⟨hi, h⟩ := ck_some h
  refine Y_zald (pc := 5) hC sm_25 rfl hi d_Mo_stays_5 ?_
  refine Y_if_eq (pc := 6) hC 23 d_Mo_stays_6 rfl (fun cc_6 => ?_) (fun cc_6 => ?_)
  · have h := ifp cc_6 h
    refine Y_iconst (pc := 23) hC d_Mo_stays_23 ki_0 ?_
    exact Y_zret (pc := 24) hC hE d_Mo_stays_24 rfl h
  · have h := ifn cc_6 h
    refine Y_aload_n (pc := 9) hC d_Mo_stays_9 rfl 0 rfl ?_
    refine Y_getR (pc := 10) hC sm_0 fl_Mo_97 rfl d_Mo_stays_10 ?_
    refine Y_iload_n (pc := 13) hC d_Mo_stays_13 rfl 1 rfl ?_
    obtain ⟨hi, h⟩ := ck_some h
    refine Y_iald (pc := 14) hC sm_26 rfl hi d_Mo_stays_14 ?_
    refine Y_iload_n (pc := 15) hC d_Mo_stays_15 rfl 1 rfl ?_
    refine Y_icmp_ne (pc := 16) hC 23 d_Mo_stays_16 rfl (fun cc_16 => ?_) (fun cc_16 => ?_)
    · have h := ifn cc_16 h
      refine Y_iconst (pc := 23) hC d_Mo_stays_23 ki_0 ?_
      exact Y_zret (pc := 24) hC hE d_Mo_stays_24 rfl h
    · have h := ifp cc_16 h
      refine Y_iconst (pc := 19) hC d_Mo_stays_19 ki_1 ?_
      refine Y_goto (pc := 20) hC 24 d_Mo_stays_20 rfl ?_
      exact Y_zret (pc := 24) hC hE d_Mo_stays_24 rfl h
set_option maxHeartbeats 4000000 in
set_option maxRecDepth 100000 in
theorem c_Mo_up (l : Launch) (D : va_G) (cI cZ : ClassId) (a : Nat → Nat) {V : Sto} {p0 : Int32} {p1 : Int32} {r : Int32} {V' : Sto} (h : f_Mo_up V p0 p1 = some (r, V')) : YMi l D cI cZ a shpM y_Mo_up b_Mo_up 2 (some .int) rm_Mo_up false [.int p0, .int p1] V r V' := by
  refine YMi_of (by decide) (Nat.le_of_ble_eq_true rfl) ?_
  intro C hl hDD hcI hcZ ha hC hw hE
  subst hl hDD hcI hcZ ha
  show Y C shpM 2 0 [(0, .int p0), (1, .int p1)] [] V
  rw [f_Mo_up] at h
  refine Y_iload_n (pc := 0) hC d_Mo_up_0 rfl 0 rfl ?_
  refine Y_iload_n (pc := 1) hC d_Mo_up_1 rfl 1 rfl ?_
  refine Y_iadd (pc := 2) hC d_Mo_up_2 ?_
  refine Y_iconst (pc := 3) hC d_Mo_up_3 ki_1 ?_
  refine Y_isub (pc := 4) hC d_Mo_up_4 ?_
  refine Y_iload_n (pc := 5) hC d_Mo_up_5 rfl 1 rfl ?_
  obtain ⟨hne, h⟩ := ck_some h
  refine Y_idiv (pc := 6) hC d_Mo_up_6 (by simpa using hne) ?_
  refine Y_iload_n (pc := 7) hC d_Mo_up_7 rfl 1 rfl ?_
  refine Y_imul (pc := 8) hC d_Mo_up_8 ?_
  exact Y_iret (pc := 9) hC hE d_Mo_up_9 h
set_option maxHeartbeats 4000000 in
set_option maxRecDepth 100000 in
theorem ylp_Mo_layKind_5 {C : YC} {r : Int32} {V' : Sto} {x1 : Int32} {k70 : Int32 → Sto → RT} (hC : YF C R_Mo b_Mo_layKind 5 rm_Mo_layKind) (hw : YWr C shpM) (hE : YEi C .int shpM r V') (hk70 : ∀ (y3 : Int32) (V1 : Sto), k70 y3 V1 = some (r, V') → Y C shpM 5 70 [(3, .int y3)] [] V1) : ∀ (n : Nat) (x3 x4 : Int32) (V : Sto), lp_Mo_layKind_5 x1 k70 n x3 x4 V = some (r, V') → Y C shpM 5 5 [(0, .ref (C.a 0)), (1, .int x1), (3, .int x3), (4, .int x4)] [] V := by
  intro n
  induction n with
  | zero =>
    intro x3 x4 V h
    rw [lp_Mo_layKind_5] at h
    cases h
  | succ n ih =>
    intro x3 x4 V h
    rw [lp_Mo_layKind_5] at h
    refine Y_iload (pc := 5) hC d_Mo_layKind_5 3 rfl ?_
    refine Y_aload_n (pc := 7) hC d_Mo_layKind_7 rfl 0 rfl ?_
    refine Y_getI (pc := 8) hC sm_0 fl_Mo_143 rfl d_Mo_layKind_8 ?_
    refine Y_icmp_ge (pc := 11) hC 70 d_Mo_layKind_11 rfl (fun cc_11 => ?_) (fun cc_11 => ?_)
    · have h := ifp cc_11 h
      refine Y_sub (pc := 70) [2] rfl ?_
      exact hk70 _ _ h
    · have h := ifn cc_11 h
      refine Y_aload_n (pc := 14) hC d_Mo_layKind_14 rfl 0 rfl ?_
      refine Y_iload (pc := 15) hC d_Mo_layKind_15 3 rfl ?_
      obtain ⟨r1, V1, hc_r1, h⟩ := cl_some h
      refine Y_callV (pc := 17) hC (c_Mo_stays C.l C.D C.cI C.cZ C.a hc_r1) (fun q => nomatch q) sm_0 cls_Mo ml_Mo_226 mv_Mo_stays (by decide) (Nat.le_of_ble_eq_true rfl) rfl d_Mo_layKind_17 ?_
      refine Y_if_eq (pc := 20) hC 64 d_Mo_layKind_20 rfl (fun cc_20 => ?_) (fun cc_20 => ?_)
      · have h := ifp cc_20 h
        refine Y_iinc (pc := 64) hC (v := x4 + 1) (L' := [(4, .int (x4 + 1)), (0, .ref (C.a 0)), (1, .int x1), (3, .int x3)]) d_Mo_layKind_64 3 rfl rfl (by decide) rfl ?_
        refine Y_goto (pc := 67) hC 5 d_Mo_layKind_67 rfl ?_
        refine Y_sub (pc := 5) [1, 2, 3, 0] rfl ?_
        exact ih _ _ _ h
      · have h := ifn cc_20 h
        refine Y_aload_n (pc := 23) hC d_Mo_layKind_23 rfl 0 rfl ?_
        refine Y_getR (pc := 24) hC sm_0 fl_Mo_16 rfl d_Mo_layKind_24 ?_
        refine Y_iload (pc := 27) hC d_Mo_layKind_27 3 rfl ?_
        obtain ⟨hi, h⟩ := ck_some h
        refine Y_iald (pc := 29) hC sm_3 rfl hi d_Mo_layKind_29 ?_
        refine Y_iload_n (pc := 30) hC d_Mo_layKind_30 rfl 1 rfl ?_
        refine Y_icmp_ne (pc := 31) hC 64 d_Mo_layKind_31 rfl (fun cc_31 => ?_) (fun cc_31 => ?_)
        · have h := ifn cc_31 h
          refine Y_iinc (pc := 64) hC (v := x4 + 1) (L' := [(4, .int (x4 + 1)), (0, .ref (C.a 0)), (1, .int x1), (3, .int x3)]) d_Mo_layKind_64 3 rfl rfl (by decide) rfl ?_
          refine Y_goto (pc := 67) hC 5 d_Mo_layKind_67 rfl ?_
          refine Y_sub (pc := 5) [1, 2, 3, 0] rfl ?_
          exact ih _ _ _ h
        · have h := ifp cc_31 h
          refine Y_iload_n (pc := 34) hC d_Mo_layKind_34 rfl 2 rfl ?_
          refine Y_aload_n (pc := 35) hC d_Mo_layKind_35 rfl 0 rfl ?_
          refine Y_getR (pc := 36) hC sm_0 fl_Mo_22 rfl d_Mo_layKind_36 ?_
          refine Y_iload (pc := 39) hC d_Mo_layKind_39 3 rfl ?_
          obtain ⟨hi, h⟩ := ck_some h
          refine Y_iald (pc := 41) hC sm_5 rfl hi d_Mo_layKind_41 ?_
          obtain ⟨r2, V2, hc_r2, h⟩ := cl_some h
          refine Y_callS (pc := 42) hC (c_Mo_up C.l C.D C.cI C.cZ C.a hc_r2) (fun q => nomatch q) ml_Mo_229 ms_Mo_up (by decide) (Nat.le_of_ble_eq_true rfl) rfl d_Mo_layKind_42 ?_
          refine Y_istore_n (pc := 45) hC (L' := [(3, .int r2), (0, .ref (C.a 0)), (1, .int x1), (4, .int x4)]) d_Mo_layKind_45 rfl (by decide) rfl ?_
          refine Y_aload_n (pc := 46) hC d_Mo_layKind_46 rfl 1 rfl ?_
          refine Y_getR (pc := 47) hC sm_0 fl_Mo_100 rfl d_Mo_layKind_47 ?_
          refine Y_iload (pc := 50) hC d_Mo_layKind_50 3 rfl ?_
          refine Y_iload_n (pc := 52) hC d_Mo_layKind_52 rfl 0 rfl ?_
          obtain ⟨hi, h⟩ := ck_some h
          obtain ⟨V3, hV3, h⟩ := nm_some h
          refine Y_iast (pc := 53) hC sm_27 (by decide) rfl hi hw rfl hV3 d_Mo_layKind_53 ?_
          refine Y_iload_n (pc := 54) hC d_Mo_layKind_54 rfl 0 rfl ?_
          refine Y_aload_n (pc := 55) hC d_Mo_layKind_55 rfl 1 rfl ?_
          refine Y_getR (pc := 56) hC sm_0 fl_Mo_19 rfl d_Mo_layKind_56 ?_
          refine Y_iload (pc := 59) hC d_Mo_layKind_59 3 rfl ?_
          obtain ⟨hi, h⟩ := ck_some h
          refine Y_iald (pc := 61) hC sm_4 rfl hi d_Mo_layKind_61 ?_
          refine Y_iadd (pc := 62) hC d_Mo_layKind_62 ?_
          refine Y_istore_n (pc := 63) hC (L' := [(3, .int (r2 + (V3 4 x4.toNatClampNeg))), (0, .ref (C.a 0)), (1, .int x1), (4, .int x4)]) d_Mo_layKind_63 rfl (by decide) rfl ?_
          refine Y_iinc (pc := 64) hC (v := x4 + 1) (L' := [(4, .int (x4 + 1)), (3, .int (r2 + (V3 4 x4.toNatClampNeg))), (0, .ref (C.a 0)), (1, .int x1)]) d_Mo_layKind_64 3 rfl rfl (by decide) rfl ?_
          refine Y_goto (pc := 67) hC 5 d_Mo_layKind_67 rfl ?_
          refine Y_sub (pc := 5) [2, 3, 1, 0] rfl ?_
          exact ih _ _ _ h
set_option maxHeartbeats 4000000 in
set_option maxRecDepth 100000 in
theorem c_Mo_layKind (l : Launch) (D : va_G) (cI cZ : ClassId) (a : Nat → Nat) {V : Sto} {p1 : Int32} {p2 : Int32} {r : Int32} {V' : Sto} (h : f_Mo_layKind V p1 p2 = some (r, V')) : YMi l D cI cZ a shpM y_Mo_layKind b_Mo_layKind 5 (some .int) rm_Mo_layKind true [.ref (a 0), .int p1, .int p2] V r V' := by
  refine YMi_of (by decide) (Nat.le_of_ble_eq_true rfl) ?_
  intro C hl hDD hcI hcZ ha hC hw hE
  subst hl hDD hcI hcZ ha
  show Y C shpM 5 0 [(0, .ref (C.a 0)), (1, .int p1), (2, .int p2)] [] V
  have hw := hw rfl
  rw [f_Mo_layKind] at h
  refine Y_iload_n (pc := 0) hC d_Mo_layKind_0 rfl 2 rfl ?_
  refine Y_istore_n (pc := 1) hC (L' := [(3, .int p2), (0, .ref (C.a 0)), (1, .int p1), (2, .int p2)]) d_Mo_layKind_1 rfl (by decide) rfl ?_
  refine Y_iconst (pc := 2) hC d_Mo_layKind_2 ki_0 ?_
  refine Y_istore (pc := 3) hC (L' := [(4, .int 0), (3, .int p2), (0, .ref (C.a 0)), (1, .int p1), (2, .int p2)]) d_Mo_layKind_3 (by decide) rfl ?_
  refine Y_sub (pc := 5) [2, 3, 1, 0] rfl ?_
  refine ylp_Mo_layKind_5 hC hw hE (fun y1 V4 h => ?_) FU _ _ _ h
  refine Y_iload_n (pc := 70) hC d_Mo_layKind_70 rfl 0 rfl ?_
  exact Y_iret (pc := 71) hC hE d_Mo_layKind_71 h
set_option maxHeartbeats 4000000 in
set_option maxRecDepth 100000 in
theorem ylp_Mo_lay_65 {C : YC} {r : Int32} {V' : Sto} {k112 : Int32 → Sto → RT} (hC : YF C R_Mo b_Mo_lay 3 rm_Mo_lay) (hw : YWr C shpM) (hE : YEv C shpM V') (hk112 : ∀ (y1 : Int32) (V1 : Sto), k112 y1 V1 = some (r, V') → Y C shpM 3 112 [(0, .ref (C.a 0)), (1, .int y1)] [] V1) : ∀ (n : Nat) (x1 x2 : Int32) (V : Sto), lp_Mo_lay_65 k112 n x1 x2 V = some (r, V') → Y C shpM 3 65 [(0, .ref (C.a 0)), (1, .int x1), (2, .int x2)] [] V := by
  intro n
  induction n with
  | zero =>
    intro x1 x2 V h
    rw [lp_Mo_lay_65] at h
    cases h
  | succ n ih =>
    intro x1 x2 V h
    rw [lp_Mo_lay_65] at h
    refine Y_iload_n (pc := 65) hC d_Mo_lay_65 rfl 2 rfl ?_
    refine Y_sipush (pc := 66) hC d_Mo_lay_66 ks_200 ?_
    refine Y_icmp_ge (pc := 69) hC 112 d_Mo_lay_69 rfl (fun cc_69 => ?_) (fun cc_69 => ?_)
    · have h := ifp cc_69 h
      refine Y_sub (pc := 112) [0, 1] rfl ?_
      exact hk112 _ _ h
    · have h := ifn cc_69 h
      refine Y_aload_n (pc := 72) hC d_Mo_lay_72 rfl 0 rfl ?_
      refine Y_getR (pc := 73) hC sm_0 fl_Mo_88 rfl d_Mo_lay_73 ?_
      refine Y_iload_n (pc := 76) hC d_Mo_lay_76 rfl 2 rfl ?_
      obtain ⟨hi, h⟩ := ck_some h
      refine Y_zald (pc := 77) hC sm_23 rfl hi d_Mo_lay_77 ?_
      refine Y_if_eq (pc := 78) hC 106 d_Mo_lay_78 rfl (fun cc_78 => ?_) (fun cc_78 => ?_)
      · have h := ifp cc_78 h
        refine Y_iinc (pc := 106) hC (v := x2 + 1) (L' := [(2, .int (x2 + 1)), (0, .ref (C.a 0)), (1, .int x1)]) d_Mo_lay_106 2 rfl rfl (by decide) rfl ?_
        refine Y_goto (pc := 109) hC 65 d_Mo_lay_109 rfl ?_
        refine Y_sub (pc := 65) [1, 2, 0] rfl ?_
        exact ih _ _ _ h
      · have h := ifn cc_78 h
        refine Y_aload_n (pc := 81) hC d_Mo_lay_81 rfl 0 rfl ?_
        refine Y_getR (pc := 82) hC sm_0 fl_Mo_91 rfl d_Mo_lay_82 ?_
        refine Y_iload_n (pc := 85) hC d_Mo_lay_85 rfl 2 rfl ?_
        refine Y_iload_n (pc := 86) hC d_Mo_lay_86 rfl 1 rfl ?_
        refine Y_iconst (pc := 87) hC d_Mo_lay_87 ki_4 ?_
        obtain ⟨r5, V8, hc_r5, h⟩ := cl_some h
        refine Y_callS (pc := 88) hC (c_Mo_up C.l C.D C.cI C.cZ C.a hc_r5) (fun q => nomatch q) ml_Mo_229 ms_Mo_up (by decide) (Nat.le_of_ble_eq_true rfl) rfl d_Mo_lay_88 ?_
        obtain ⟨hi, h⟩ := ck_some h
        obtain ⟨V9, hV9, h⟩ := nm_some h
        refine Y_iast (pc := 91) hC sm_24 (by decide) rfl hi hw rfl hV9 d_Mo_lay_91 ?_
        refine Y_aload_n (pc := 92) hC d_Mo_lay_92 rfl 0 rfl ?_
        refine Y_getR (pc := 93) hC sm_0 fl_Mo_91 rfl d_Mo_lay_93 ?_
        refine Y_iload_n (pc := 96) hC d_Mo_lay_96 rfl 2 rfl ?_
        obtain ⟨hi, h⟩ := ck_some h
        refine Y_iald (pc := 97) hC sm_24 rfl hi d_Mo_lay_97 ?_
        refine Y_aload_n (pc := 98) hC d_Mo_lay_98 rfl 0 rfl ?_
        refine Y_getR (pc := 99) hC sm_0 fl_Mo_85 rfl d_Mo_lay_99 ?_
        refine Y_iload_n (pc := 102) hC d_Mo_lay_102 rfl 2 rfl ?_
        obtain ⟨hi, h⟩ := ck_some h
        refine Y_iald (pc := 103) hC sm_22 rfl hi d_Mo_lay_103 ?_
        refine Y_iadd (pc := 104) hC d_Mo_lay_104 ?_
        refine Y_istore_n (pc := 105) hC (L' := [(1, .int ((V9 24 x2.toNatClampNeg) + (V9 22 x2.toNatClampNeg))), (0, .ref (C.a 0)), (2, .int x2)]) d_Mo_lay_105 rfl (by decide) rfl ?_
        refine Y_iinc (pc := 106) hC (v := x2 + 1) (L' := [(2, .int (x2 + 1)), (1, .int ((V9 24 x2.toNatClampNeg) + (V9 22 x2.toNatClampNeg))), (0, .ref (C.a 0))]) d_Mo_lay_106 2 rfl rfl (by decide) rfl ?_
        refine Y_goto (pc := 109) hC 65 d_Mo_lay_109 rfl ?_
        refine Y_sub (pc := 65) [2, 1, 0] rfl ?_
        exact ih _ _ _ h
set_option maxHeartbeats 4000000 in
set_option maxRecDepth 100000 in
theorem ylp_Mo_lay_119 {C : YC} {r : Int32} {V' : Sto} {k150 : Sto → RT} (hC : YF C R_Mo b_Mo_lay 3 rm_Mo_lay) (hw : YWr C shpM) (hE : YEv C shpM V') (hk150 : ∀ (V1 : Sto), k150 V1 = some (r, V') → Y C shpM 3 150 [] [] V1) : ∀ (n : Nat) (x2 : Int32) (V : Sto), lp_Mo_lay_119 k150 n x2 V = some (r, V') → Y C shpM 3 119 [(0, .ref (C.a 0)), (2, .int x2)] [] V := by
  intro n
  induction n with
  | zero =>
    intro x2 V h
    rw [lp_Mo_lay_119] at h
    cases h
  | succ n ih =>
    intro x2 V h
    rw [lp_Mo_lay_119] at h
    refine Y_iload_n (pc := 119) hC d_Mo_lay_119 rfl 1 rfl ?_
    refine Y_aload_n (pc := 120) hC d_Mo_lay_120 rfl 0 rfl ?_
    refine Y_getI (pc := 121) hC sm_0 fl_Mo_143 rfl d_Mo_lay_121 ?_
    refine Y_icmp_ge (pc := 124) hC 150 d_Mo_lay_124 rfl (fun cc_124 => ?_) (fun cc_124 => ?_)
    · have h := ifp cc_124 h
      refine Y_sub (pc := 150) [] rfl ?_
      exact hk150 _ h
    · have h := ifn cc_124 h
      refine Y_aload_n (pc := 127) hC d_Mo_lay_127 rfl 0 rfl ?_
      refine Y_getR (pc := 128) hC sm_0 fl_Mo_100 rfl d_Mo_lay_128 ?_
      refine Y_iload_n (pc := 131) hC d_Mo_lay_131 rfl 1 rfl ?_
      refine Y_aload_n (pc := 132) hC d_Mo_lay_132 rfl 0 rfl ?_
      refine Y_getR (pc := 133) hC sm_0 fl_Mo_100 rfl d_Mo_lay_133 ?_
      refine Y_aload_n (pc := 136) hC d_Mo_lay_136 rfl 0 rfl ?_
      refine Y_getR (pc := 137) hC sm_0 fl_Mo_97 rfl d_Mo_lay_137 ?_
      refine Y_iload_n (pc := 140) hC d_Mo_lay_140 rfl 1 rfl ?_
      obtain ⟨hi, h⟩ := ck_some h
      refine Y_iald (pc := 141) hC sm_26 rfl hi d_Mo_lay_141 ?_
      obtain ⟨hi, h⟩ := ck_some h
      refine Y_iald (pc := 142) hC sm_27 rfl hi d_Mo_lay_142 ?_
      obtain ⟨hi, h⟩ := ck_some h
      obtain ⟨V12, hV12, h⟩ := nm_some h
      refine Y_iast (pc := 143) hC sm_27 (by decide) rfl hi hw rfl hV12 d_Mo_lay_143 ?_
      refine Y_iinc (pc := 144) hC (v := x2 + 1) (L' := [(2, .int (x2 + 1)), (0, .ref (C.a 0))]) d_Mo_lay_144 1 rfl rfl (by decide) rfl ?_
      refine Y_goto (pc := 147) hC 119 d_Mo_lay_147 rfl ?_
      refine Y_sub (pc := 119) [1, 0] rfl ?_
      exact ih _ _ h
set_option maxHeartbeats 4000000 in
set_option maxRecDepth 100000 in
theorem c_Mo_lay (l : Launch) (D : va_G) (cI cZ : ClassId) (a : Nat → Nat) {V : Sto} {r : Int32} {V' : Sto} (h : f_Mo_lay V = some (r, V')) : YMv l D cI cZ a shpM y_Mo_lay b_Mo_lay 3 rm_Mo_lay true [.ref (a 0)] V V' := by
  refine YMv_of (by decide) (Nat.le_of_ble_eq_true rfl) ?_
  intro C hl hDD hcI hcZ ha hC hw hE
  subst hl hDD hcI hcZ ha
  show Y C shpM 3 0 [(0, .ref (C.a 0))] [] V
  have hw := hw rfl
  rw [f_Mo_lay] at h
  refine Y_aload_n (pc := 0) hC d_Mo_lay_0 rfl 0 rfl ?_
  refine Y_dup (pc := 1) hC d_Mo_lay_1 rfl ?_
  refine Y_getI (pc := 2) hC sm_0 fl_Mo_232 rfl d_Mo_lay_2 ?_
  refine Y_iconst (pc := 5) hC d_Mo_lay_5 ki_1 ?_
  refine Y_iadd (pc := 6) hC d_Mo_lay_6 ?_
  obtain ⟨V1, hV1, h⟩ := nm_some h
  refine Y_put (pc := 7) hC sm_0 fl_Mo_232 rfl (by decide) fp_Mo ft_Mo_35 rfl rfl hw hV1 d_Mo_lay_7 ?_
  refine Y_aload_n (pc := 10) hC d_Mo_lay_10 rfl 0 rfl ?_
  refine Y_iconst (pc := 11) hC d_Mo_lay_11 ki_0 ?_
  refine Y_aload_n (pc := 12) hC d_Mo_lay_12 rfl 0 rfl ?_
  refine Y_getI (pc := 13) hC sm_0 fl_Mo_235 rfl d_Mo_lay_13 ?_
  obtain ⟨r1, V2, hc_r1, h⟩ := cl_some h
  refine Y_callV (pc := 16) hC (c_Mo_layKind C.l C.D C.cI C.cZ C.a hc_r1) (fun _ => hw) sm_0 cls_Mo ml_Mo_238 mv_Mo_layKind (by decide) (Nat.le_of_ble_eq_true rfl) rfl d_Mo_lay_16 ?_
  refine Y_istore_n (pc := 19) hC (L' := [(1, .int r1), (0, .ref (C.a 0))]) d_Mo_lay_19 rfl (by decide) rfl ?_
  refine Y_aload_n (pc := 20) hC d_Mo_lay_20 rfl 1 rfl ?_
  refine Y_getI (pc := 21) hC sm_0 fl_Mo_241 rfl d_Mo_lay_21 ?_
  obtain ⟨j1, hj1, h⟩ := jn_some h
  have kj1 : ∀ (z1 : Int32) (V5 : Sto), j1 z1 V5 = some (r, V') → Y C shpM 3 49 [(0, .ref (C.a 0)), (1, .int z1)] [] V5 := by
    intro z1 V5 h
    subst hj1
    dsimp only at h
    refine Y_aload_n (pc := 49) hC d_Mo_lay_49 rfl 0 rfl ?_
    refine Y_iconst (pc := 50) hC d_Mo_lay_50 ki_1 ?_
    refine Y_iload_n (pc := 51) hC d_Mo_lay_51 rfl 1 rfl ?_
    obtain ⟨r3, V6, hc_r3, h⟩ := cl_some h
    refine Y_callV (pc := 52) hC (c_Mo_layKind C.l C.D C.cI C.cZ C.a hc_r3) (fun _ => hw) sm_0 cls_Mo ml_Mo_238 mv_Mo_layKind (by decide) (Nat.le_of_ble_eq_true rfl) rfl d_Mo_lay_52 ?_
    refine Y_istore_n (pc := 55) hC (L' := [(1, .int r3), (0, .ref (C.a 0))]) d_Mo_lay_55 rfl (by decide) rfl ?_
    refine Y_aload_n (pc := 56) hC d_Mo_lay_56 rfl 1 rfl ?_
    refine Y_iconst (pc := 57) hC d_Mo_lay_57 ki_2 ?_
    refine Y_iload_n (pc := 58) hC d_Mo_lay_58 rfl 0 rfl ?_
    obtain ⟨r4, V7, hc_r4, h⟩ := cl_some h
    refine Y_callV (pc := 59) hC (c_Mo_layKind C.l C.D C.cI C.cZ C.a hc_r4) (fun _ => hw) sm_0 cls_Mo ml_Mo_238 mv_Mo_layKind (by decide) (Nat.le_of_ble_eq_true rfl) rfl d_Mo_lay_59 ?_
    refine Y_istore_n (pc := 62) hC (L' := [(1, .int r4), (0, .ref (C.a 0))]) d_Mo_lay_62 rfl (by decide) rfl ?_
    refine Y_iconst (pc := 63) hC d_Mo_lay_63 ki_0 ?_
    refine Y_istore_n (pc := 64) hC (L' := [(2, .int 0), (1, .int r4), (0, .ref (C.a 0))]) d_Mo_lay_64 rfl (by decide) rfl ?_
    refine Y_sub (pc := 65) [2, 1, 0] rfl ?_
    refine ylp_Mo_lay_65 hC hw hE (fun y1 V10 h => ?_) FU _ _ _ h
    refine Y_aload_n (pc := 112) hC d_Mo_lay_112 rfl 0 rfl ?_
    refine Y_iload_n (pc := 113) hC d_Mo_lay_113 rfl 1 rfl ?_
    obtain ⟨V11, hV11, h⟩ := nm_some h
    refine Y_put (pc := 114) hC sm_0 fl_Mo_247 rfl (by decide) fp_Mo ft_Mo_34 rfl rfl hw hV11 d_Mo_lay_114 ?_
    refine Y_iconst (pc := 117) hC d_Mo_lay_117 ki_0 ?_
    refine Y_istore_n (pc := 118) hC (L' := [(2, .int 0), (0, .ref (C.a 0)), (1, .int y1)]) d_Mo_lay_118 rfl (by decide) rfl ?_
    refine Y_sub (pc := 119) [1, 0] rfl ?_
    refine ylp_Mo_lay_119 hC hw hE (fun V13 h => ?_) FU _ _ h
    exact Y_vret (pc := 150) hC hE d_Mo_lay_150 h
  refine Y_if_le (pc := 24) hC 49 d_Mo_lay_24 rfl (fun cc_24 => ?_) (fun cc_24 => ?_)
  · have h := ifp cc_24 h
    refine Y_sub (pc := 49) [1, 0] rfl ?_
    exact kj1 _ _ h
  · have h := ifn cc_24 h
    refine Y_aload_n (pc := 27) hC d_Mo_lay_27 rfl 1 rfl ?_
    refine Y_iload_n (pc := 28) hC d_Mo_lay_28 rfl 0 rfl ?_
    refine Y_iconst (pc := 29) hC d_Mo_lay_29 ki_4 ?_
    obtain ⟨r2, V3, hc_r2, h⟩ := cl_some h
    refine Y_callS (pc := 30) hC (c_Mo_up C.l C.D C.cI C.cZ C.a hc_r2) (fun q => nomatch q) ml_Mo_229 ms_Mo_up (by decide) (Nat.le_of_ble_eq_true rfl) rfl d_Mo_lay_30 ?_
    obtain ⟨V4, hV4, h⟩ := nm_some h
    refine Y_put (pc := 33) hC sm_0 fl_Mo_244 rfl (by decide) fp_Mo ft_Mo_49 rfl rfl hw hV4 d_Mo_lay_33 ?_
    refine Y_aload_n (pc := 36) hC d_Mo_lay_36 rfl 1 rfl ?_
    refine Y_getI (pc := 37) hC sm_0 fl_Mo_244 rfl d_Mo_lay_37 ?_
    refine Y_bipush (pc := 40) hC d_Mo_lay_40 kb_8 ?_
    refine Y_aload_n (pc := 42) hC d_Mo_lay_42 rfl 1 rfl ?_
    refine Y_getI (pc := 43) hC sm_0 fl_Mo_241 rfl d_Mo_lay_43 ?_
    refine Y_imul (pc := 46) hC d_Mo_lay_46 ?_
    refine Y_iadd (pc := 47) hC d_Mo_lay_47 ?_
    refine Y_istore_n (pc := 48) hC (L' := [(1, .int ((V4 0 49) + (8 * (V4 0 47)))), (0, .ref (C.a 0))]) d_Mo_lay_48 rfl (by decide) rfl ?_
    refine Y_sub (pc := 49) [1, 0] rfl ?_
    exact kj1 _ _ h
set_option maxHeartbeats 4000000 in
set_option maxRecDepth 100000 in
theorem c_Mo_meaning (l : Launch) (D : va_G) (cI cZ : ClassId) (a : Nat → Nat) {V : Sto} {p1 : Int32} {r : Int32} {V' : Sto} (h : f_Mo_meaning V p1 = some (r, V')) : YMi l D cI cZ a shpM y_Mo_meaning b_Mo_meaning 3 (some .int) rm_Mo_meaning false [.ref (a 0), .int p1] V r V' := by
  refine YMi_of (by decide) (Nat.le_of_ble_eq_true rfl) ?_
  intro C hl hDD hcI hcZ ha hC hw hE
  subst hl hDD hcI hcZ ha
  show Y C shpM 3 0 [(0, .ref (C.a 0)), (1, .int p1)] [] V
  rw [f_Mo_meaning] at h
  refine Y_aload_n (pc := 0) hC d_Mo_meaning_0 rfl 0 rfl ?_
  refine Y_iload_n (pc := 1) hC d_Mo_meaning_1 rfl 1 rfl ?_
  obtain ⟨r1, V1, hc_r1, h⟩ := cl_some h
  refine Y_callV (pc := 2) hC (c_Mo_sortOf C.l C.D C.cI C.cZ C.a hc_r1) (fun q => nomatch q) sm_0 cls_Mo ml_Mo_198 mv_Mo_sortOf (by decide) (Nat.le_of_ble_eq_true rfl) rfl d_Mo_meaning_2 ?_
  refine Y_istore_n (pc := 5) hC (L' := [(2, .int r1), (0, .ref (C.a 0)), (1, .int p1)]) d_Mo_meaning_5 rfl (by decide) rfl ?_
  refine Y_iload_n (pc := 6) hC d_Mo_meaning_6 rfl 0 rfl ?_
  refine Y_iconst (pc := 7) hC d_Mo_meaning_7 ki_1 ?_
  refine Y_icmp_ne (pc := 8) hC 30 d_Mo_meaning_8 rfl (fun cc_8 => ?_) (fun cc_8 => ?_)
  · have h := ifn cc_8 h
    refine Y_iload_n (pc := 30) hC d_Mo_meaning_30 rfl 0 rfl ?_
    refine Y_iconst (pc := 31) hC d_Mo_meaning_31 ki_3 ?_
    refine Y_icmp_ne (pc := 32) hC 49 d_Mo_meaning_32 rfl (fun cc_32 => ?_) (fun cc_32 => ?_)
    · have h := ifn cc_32 h
      refine Y_aload_n (pc := 49) hC d_Mo_meaning_49 rfl 1 rfl ?_
      refine Y_iload_n (pc := 50) hC d_Mo_meaning_50 rfl 2 rfl ?_
      obtain ⟨r2, V2, hc_r2, h⟩ := cl_some h
      refine Y_callV (pc := 51) hC (c_Mo_numberOf C.l C.D C.cI C.cZ C.a hc_r2) (fun q => nomatch q) sm_0 cls_Mo ml_Mo_207 mv_Mo_numberOf (by decide) (Nat.le_of_ble_eq_true rfl) rfl d_Mo_meaning_51 ?_
      exact Y_iret (pc := 54) hC hE d_Mo_meaning_54 h
    · have h := ifp cc_32 h
      refine Y_aload_n (pc := 35) hC d_Mo_meaning_35 rfl 1 rfl ?_
      refine Y_getR (pc := 36) hC sm_0 fl_Mo_91 rfl d_Mo_meaning_36 ?_
      refine Y_aload_n (pc := 39) hC d_Mo_meaning_39 rfl 1 rfl ?_
      refine Y_getR (pc := 40) hC sm_0 fl_Mo_48 rfl d_Mo_meaning_40 ?_
      refine Y_iload_n (pc := 43) hC d_Mo_meaning_43 rfl 2 rfl ?_
      obtain ⟨hi, h⟩ := ck_some h
      refine Y_iald (pc := 44) hC sm_13 rfl hi d_Mo_meaning_44 ?_
      obtain ⟨hi, h⟩ := ck_some h
      refine Y_iald (pc := 45) hC sm_24 rfl hi d_Mo_meaning_45 ?_
      refine Y_goto (pc := 46) hC 54 d_Mo_meaning_46 rfl ?_
      exact Y_iret (pc := 54) hC hE d_Mo_meaning_54 h
  · have h := ifp cc_8 h
    refine Y_aload_n (pc := 11) hC d_Mo_meaning_11 rfl 1 rfl ?_
    refine Y_getR (pc := 12) hC sm_0 fl_Mo_100 rfl d_Mo_meaning_12 ?_
    refine Y_aload_n (pc := 15) hC d_Mo_meaning_15 rfl 1 rfl ?_
    refine Y_iload_n (pc := 16) hC d_Mo_meaning_16 rfl 2 rfl ?_
    obtain ⟨r3, V3, hc_r3, h⟩ := cl_some h
    refine Y_callV (pc := 17) hC (c_Mo_sectionOf C.l C.D C.cI C.cZ C.a hc_r3) (fun q => nomatch q) sm_0 cls_Mo ml_Mo_204 mv_Mo_sectionOf (by decide) (Nat.le_of_ble_eq_true rfl) rfl d_Mo_meaning_17 ?_
    obtain ⟨hi, h⟩ := ck_some h
    refine Y_iald (pc := 20) hC sm_27 rfl hi d_Mo_meaning_20 ?_
    refine Y_aload_n (pc := 21) hC d_Mo_meaning_21 rfl 1 rfl ?_
    refine Y_iload_n (pc := 22) hC d_Mo_meaning_22 rfl 2 rfl ?_
    obtain ⟨r4, V4, hc_r4, h⟩ := cl_some h
    refine Y_callV (pc := 23) hC (c_Mo_numberOf C.l C.D C.cI C.cZ C.a hc_r4) (fun q => nomatch q) sm_0 cls_Mo ml_Mo_207 mv_Mo_numberOf (by decide) (Nat.le_of_ble_eq_true rfl) rfl d_Mo_meaning_23 ?_
    refine Y_iadd (pc := 26) hC d_Mo_meaning_26 ?_
    refine Y_goto (pc := 27) hC 54 d_Mo_meaning_27 rfl ?_
    exact Y_iret (pc := 54) hC hE d_Mo_meaning_54 h
set_option maxHeartbeats 4000000 in
set_option maxRecDepth 100000 in
theorem c_Mo_placeAt (l : Launch) (D : va_G) (cI cZ : ClassId) (a : Nat → Nat) {V : Sto} {p1 : Int32} {r : Int32} {V' : Sto} (h : f_Mo_placeAt V p1 = some (r, V')) : YMi l D cI cZ a shpM y_Mo_placeAt b_Mo_placeAt 2 (some .int) rm_Mo_placeAt false [.ref (a 0), .int p1] V r V' := by
  refine YMi_of (by decide) (Nat.le_of_ble_eq_true rfl) ?_
  intro C hl hDD hcI hcZ ha hC hw hE
  subst hl hDD hcI hcZ ha
  show Y C shpM 2 0 [(0, .ref (C.a 0)), (1, .int p1)] [] V
  rw [f_Mo_placeAt] at h
  refine Y_aload_n (pc := 0) hC d_Mo_placeAt_0 rfl 0 rfl ?_
  refine Y_getR (pc := 1) hC sm_0 fl_Mo_100 rfl d_Mo_placeAt_1 ?_
  refine Y_aload_n (pc := 4) hC d_Mo_placeAt_4 rfl 0 rfl ?_
  refine Y_getR (pc := 5) hC sm_0 fl_Mo_54 rfl d_Mo_placeAt_5 ?_
  refine Y_iload_n (pc := 8) hC d_Mo_placeAt_8 rfl 1 rfl ?_
  obtain ⟨hi, h⟩ := ck_some h
  refine Y_iald (pc := 9) hC sm_15 rfl hi d_Mo_placeAt_9 ?_
  obtain ⟨hi, h⟩ := ck_some h
  refine Y_iald (pc := 10) hC sm_27 rfl hi d_Mo_placeAt_10 ?_
  refine Y_aload_n (pc := 11) hC d_Mo_placeAt_11 rfl 0 rfl ?_
  refine Y_getR (pc := 12) hC sm_0 fl_Mo_57 rfl d_Mo_placeAt_12 ?_
  refine Y_iload_n (pc := 15) hC d_Mo_placeAt_15 rfl 1 rfl ?_
  obtain ⟨hi, h⟩ := ck_some h
  refine Y_iald (pc := 16) hC sm_16 rfl hi d_Mo_placeAt_16 ?_
  refine Y_iadd (pc := 17) hC d_Mo_placeAt_17 ?_
  exact Y_iret (pc := 18) hC hE d_Mo_placeAt_18 h
set_option maxHeartbeats 4000000 in
set_option maxRecDepth 100000 in
theorem c_Mo_isNear (l : Launch) (D : va_G) (cI cZ : ClassId) (a : Nat → Nat) {V : Sto} {p0 : Int64} {r : Int32} {V' : Sto} (h : f_Mo_isNear V p0 = some (r, V')) : YMi l D cI cZ a shpM y_Mo_isNear b_Mo_isNear 2 (some .boolean) rm_Mo_isNear false [.long p0] V r V' := by
  refine YMi_of (by decide) (Nat.le_of_ble_eq_true rfl) ?_
  intro C hl hDD hcI hcZ ha hC hw hE
  subst hl hDD hcI hcZ ha
  show Y C shpM 2 0 [(0, .long p0)] [] V
  rw [f_Mo_isNear] at h
  refine Y_lload_n (pc := 0) hC d_Mo_isNear_0 rfl 0 rfl ?_
  refine Y_ldc2 (pc := 1) hC kd_Mo_250 d_Mo_isNear_1 ?_
  refine Y_lrem (pc := 4) hC d_Mo_isNear_4 (by decide) ?_
  refine Y_lconst (pc := 5) hC d_Mo_isNear_5 (v := 0) rfl ?_
  refine Y_lcmp (pc := 6) hC d_Mo_isNear_6 ?_
  refine Y_if_ne (pc := 7) hC 30 d_Mo_isNear_7 rfl (fun cc_7 => ?_) (fun cc_7 => ?_)
  · have h := ifn cc_7 h
    refine Y_iconst (pc := 30) hC d_Mo_isNear_30 ki_0 ?_
    exact Y_zret (pc := 31) hC hE d_Mo_isNear_31 rfl h
  · have h := ifp cc_7 h
    refine Y_lload_n (pc := 10) hC d_Mo_isNear_10 rfl 0 rfl ?_
    refine Y_ldc2 (pc := 11) hC kd_Mo_252 d_Mo_isNear_11 ?_
    refine Y_lcmp (pc := 14) hC d_Mo_isNear_14 ?_
    refine Y_if_lt (pc := 15) hC 30 d_Mo_isNear_15 rfl (fun cc_15 => ?_) (fun cc_15 => ?_)
    · have h := ifp cc_15 h
      refine Y_iconst (pc := 30) hC d_Mo_isNear_30 ki_0 ?_
      exact Y_zret (pc := 31) hC hE d_Mo_isNear_31 rfl h
    · have h := ifn cc_15 h
      refine Y_lload_n (pc := 18) hC d_Mo_isNear_18 rfl 0 rfl ?_
      refine Y_ldc2 (pc := 19) hC kd_Mo_254 d_Mo_isNear_19 ?_
      refine Y_lcmp (pc := 22) hC d_Mo_isNear_22 ?_
      refine Y_if_gt (pc := 23) hC 30 d_Mo_isNear_23 rfl (fun cc_23 => ?_) (fun cc_23 => ?_)
      · have h := ifp cc_23 h
        refine Y_iconst (pc := 30) hC d_Mo_isNear_30 ki_0 ?_
        exact Y_zret (pc := 31) hC hE d_Mo_isNear_31 rfl h
      · have h := ifn cc_23 h
        refine Y_iconst (pc := 26) hC d_Mo_isNear_26 ki_1 ?_
        refine Y_goto (pc := 27) hC 31 d_Mo_isNear_27 rfl ?_
        exact Y_zret (pc := 31) hC hE d_Mo_isNear_31 rfl h
set_option maxHeartbeats 4000000 in
set_option maxRecDepth 100000 in
theorem c_Mo_isNearTarget (l : Launch) (D : va_G) (cI cZ : ClassId) (a : Nat → Nat) {V : Sto} {p1 : Int32} {r : Int32} {V' : Sto} (h : f_Mo_isNearTarget V p1 = some (r, V')) : YMi l D cI cZ a shpM y_Mo_isNearTarget b_Mo_isNearTarget 2 (some .boolean) rm_Mo_isNearTarget false [.ref (a 0), .int p1] V r V' := by
  refine YMi_of (by decide) (Nat.le_of_ble_eq_true rfl) ?_
  intro C hl hDD hcI hcZ ha hC hw hE
  subst hl hDD hcI hcZ ha
  show Y C shpM 2 0 [(0, .ref (C.a 0)), (1, .int p1)] [] V
  rw [f_Mo_isNearTarget] at h
  refine Y_aload_n (pc := 0) hC d_Mo_isNearTarget_0 rfl 0 rfl ?_
  refine Y_aload_n (pc := 1) hC d_Mo_isNearTarget_1 rfl 0 rfl ?_
  refine Y_getR (pc := 2) hC sm_0 fl_Mo_63 rfl d_Mo_isNearTarget_2 ?_
  refine Y_iload_n (pc := 5) hC d_Mo_isNearTarget_5 rfl 1 rfl ?_
  obtain ⟨hi, h⟩ := ck_some h
  refine Y_iald (pc := 6) hC sm_18 rfl hi d_Mo_isNearTarget_6 ?_
  obtain ⟨r1, V1, hc_r1, h⟩ := cl_some h
  refine Y_callV (pc := 7) hC (c_Mo_meaning C.l C.D C.cI C.cZ C.a hc_r1) (fun q => nomatch q) sm_0 cls_Mo ml_Mo_256 mv_Mo_meaning (by decide) (Nat.le_of_ble_eq_true rfl) rfl d_Mo_isNearTarget_7 ?_
  refine Y_aload_n (pc := 10) hC d_Mo_isNearTarget_10 rfl 0 rfl ?_
  refine Y_getR (pc := 11) hC sm_0 fl_Mo_66 rfl d_Mo_isNearTarget_11 ?_
  refine Y_iload_n (pc := 14) hC d_Mo_isNearTarget_14 rfl 1 rfl ?_
  obtain ⟨hi, h⟩ := ck_some h
  refine Y_iald (pc := 15) hC sm_19 rfl hi d_Mo_isNearTarget_15 ?_
  refine Y_iadd (pc := 16) hC d_Mo_isNearTarget_16 ?_
  refine Y_i2l (pc := 17) hC d_Mo_isNearTarget_17 ?_
  refine Y_aload_n (pc := 18) hC d_Mo_isNearTarget_18 rfl 0 rfl ?_
  refine Y_iload_n (pc := 19) hC d_Mo_isNearTarget_19 rfl 1 rfl ?_
  obtain ⟨r2, V2, hc_r2, h⟩ := cl_some h
  refine Y_callV (pc := 20) hC (c_Mo_placeAt C.l C.D C.cI C.cZ C.a hc_r2) (fun q => nomatch q) sm_0 cls_Mo ml_Mo_259 mv_Mo_placeAt (by decide) (Nat.le_of_ble_eq_true rfl) rfl d_Mo_isNearTarget_20 ?_
  refine Y_i2l (pc := 23) hC d_Mo_isNearTarget_23 ?_
  refine Y_lsub (pc := 24) hC d_Mo_isNearTarget_24 ?_
  refine Y_ldc2 (pc := 25) hC kd_Mo_250 d_Mo_isNearTarget_25 ?_
  refine Y_lsub (pc := 28) hC d_Mo_isNearTarget_28 ?_
  obtain ⟨r3, V3, hc_r3, h⟩ := cl_some h
  refine Y_callS (pc := 29) hC (c_Mo_isNear C.l C.D C.cI C.cZ C.a hc_r3) (fun q => nomatch q) ml_Mo_262 ms_Mo_isNear (by decide) (Nat.le_of_ble_eq_true rfl) rfl d_Mo_isNearTarget_29 ?_
  obtain ⟨hbb, h⟩ := ck_some h
  exact Y_zret (pc := 32) hC hE d_Mo_isNearTarget_32 hbb h
set_option maxHeartbeats 4000000 in
set_option maxRecDepth 100000 in
theorem c_Mo_islandAt (l : Launch) (D : va_G) (cI cZ : ClassId) (a : Nat → Nat) {V : Sto} {p1 : Int32} {r : Int32} {V' : Sto} (h : f_Mo_islandAt V p1 = some (r, V')) : YMi l D cI cZ a shpM y_Mo_islandAt b_Mo_islandAt 2 (some .int) rm_Mo_islandAt false [.ref (a 0), .int p1] V r V' := by
  refine YMi_of (by decide) (Nat.le_of_ble_eq_true rfl) ?_
  intro C hl hDD hcI hcZ ha hC hw hE
  subst hl hDD hcI hcZ ha
  show Y C shpM 2 0 [(0, .ref (C.a 0)), (1, .int p1)] [] V
  rw [f_Mo_islandAt] at h
  refine Y_aload_n (pc := 0) hC d_Mo_islandAt_0 rfl 0 rfl ?_
  refine Y_getI (pc := 1) hC sm_0 fl_Mo_244 rfl d_Mo_islandAt_1 ?_
  refine Y_bipush (pc := 4) hC d_Mo_islandAt_4 kb_8 ?_
  refine Y_iload_n (pc := 6) hC d_Mo_islandAt_6 rfl 1 rfl ?_
  refine Y_imul (pc := 7) hC d_Mo_islandAt_7 ?_
  refine Y_iadd (pc := 8) hC d_Mo_islandAt_8 ?_
  exact Y_iret (pc := 9) hC hE d_Mo_islandAt_9 h
