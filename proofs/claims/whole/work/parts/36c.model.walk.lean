set_option maxHeartbeats 4000000 in
set_option maxRecDepth 100000 in
theorem c_Mo_sameTarget (l : Launch) (D : va_G) (cI cZ : ClassId) (a : Nat → Nat) {V : Sto} {p1 : Int32} {p2 : Int32} {r : Int32} {V' : Sto} (h : f_Mo_sameTarget V p1 p2 = some (r, V')) : YMi l D cI cZ a shpM y_Mo_sameTarget b_Mo_sameTarget 7 (some .boolean) rm_Mo_sameTarget false [.ref (a 0), .int p1, .int p2] V r V' := by
  refine YMi_of (by decide) (Nat.le_of_ble_eq_true rfl) ?_
  intro C hl hDD hcI hcZ ha hC hw hE
  subst hl hDD hcI hcZ ha
  show Y C shpM 7 0 [(0, .ref (C.a 0)), (1, .int p1), (2, .int p2)] [] V
  rw [f_Mo_sameTarget] at h
  refine Y_aload_n (pc := 0) hC d_Mo_sameTarget_0 rfl 0 rfl ?_
  refine Y_getR (pc := 1) hC sm_0 fl_Mo_63 rfl d_Mo_sameTarget_1 ?_
  refine Y_iload_n (pc := 4) hC d_Mo_sameTarget_4 rfl 1 rfl ?_
  obtain ⟨hi, h⟩ := ck_some h
  refine Y_iald (pc := 5) hC sm_18 rfl hi d_Mo_sameTarget_5 ?_
  refine Y_istore_n (pc := 6) hC (L' := [(3, .int (V 18 p1.toNatClampNeg)), (0, .ref (C.a 0)), (1, .int p1), (2, .int p2)]) d_Mo_sameTarget_6 rfl (by decide) rfl ?_
  refine Y_aload_n (pc := 7) hC d_Mo_sameTarget_7 rfl 1 rfl ?_
  refine Y_getR (pc := 8) hC sm_0 fl_Mo_63 rfl d_Mo_sameTarget_8 ?_
  refine Y_iload_n (pc := 11) hC d_Mo_sameTarget_11 rfl 3 rfl ?_
  obtain ⟨hi, h⟩ := ck_some h
  refine Y_iald (pc := 12) hC sm_18 rfl hi d_Mo_sameTarget_12 ?_
  refine Y_istore (pc := 13) hC (L' := [(4, .int (V 18 p2.toNatClampNeg)), (3, .int (V 18 p1.toNatClampNeg)), (0, .ref (C.a 0)), (1, .int p1), (2, .int p2)]) d_Mo_sameTarget_13 (by decide) rfl ?_
  refine Y_aload_n (pc := 15) hC d_Mo_sameTarget_15 rfl 2 rfl ?_
  refine Y_iload_n (pc := 16) hC d_Mo_sameTarget_16 rfl 1 rfl ?_
  obtain ⟨r1, V1, hc_r1, h⟩ := cl_some h
  refine Y_callV (pc := 17) hC (c_Mo_sortOf C.l C.D C.cI C.cZ C.a hc_r1) (fun q => nomatch q) sm_0 cls_Mo ml_Mo_198 mv_Mo_sortOf (by decide) (Nat.le_of_ble_eq_true rfl) rfl d_Mo_sameTarget_17 ?_
  refine Y_istore (pc := 20) hC (L' := [(5, .int r1), (4, .int (V 18 p2.toNatClampNeg)), (3, .int (V 18 p1.toNatClampNeg)), (0, .ref (C.a 0)), (1, .int p1), (2, .int p2)]) d_Mo_sameTarget_20 (by decide) rfl ?_
  refine Y_iload (pc := 22) hC d_Mo_sameTarget_22 0 rfl ?_
  refine Y_aload_n (pc := 24) hC d_Mo_sameTarget_24 rfl 3 rfl ?_
  refine Y_iload (pc := 25) hC d_Mo_sameTarget_25 1 rfl ?_
  obtain ⟨r2, V2, hc_r2, h⟩ := cl_some h
  refine Y_callV (pc := 27) hC (c_Mo_sortOf C.l C.D C.cI C.cZ C.a hc_r2) (fun q => nomatch q) sm_0 cls_Mo ml_Mo_198 mv_Mo_sortOf (by decide) (Nat.le_of_ble_eq_true rfl) rfl d_Mo_sameTarget_27 ?_
  refine Y_icmp_eq (pc := 30) hC 35 d_Mo_sameTarget_30 rfl (fun cc_30 => ?_) (fun cc_30 => ?_)
  · have h := ifp cc_30 h
    refine Y_iload (pc := 35) hC d_Mo_sameTarget_35 0 rfl ?_
    refine Y_iconst (pc := 37) hC d_Mo_sameTarget_37 ki_3 ?_
    refine Y_icmp_ne (pc := 38) hC 78 d_Mo_sameTarget_38 rfl (fun cc_38 => ?_) (fun cc_38 => ?_)
    · have h := ifn cc_38 h
      refine Y_aload_n (pc := 78) hC d_Mo_sameTarget_78 rfl 3 rfl ?_
      refine Y_iload_n (pc := 79) hC d_Mo_sameTarget_79 rfl 2 rfl ?_
      obtain ⟨r3, V3, hc_r3, h⟩ := cl_some h
      refine Y_callV (pc := 80) hC (c_Mo_numberOf C.l C.D C.cI C.cZ C.a hc_r3) (fun q => nomatch q) sm_0 cls_Mo ml_Mo_207 mv_Mo_numberOf (by decide) (Nat.le_of_ble_eq_true rfl) rfl d_Mo_sameTarget_80 ?_
      refine Y_aload_n (pc := 83) hC d_Mo_sameTarget_83 rfl 3 rfl ?_
      refine Y_getR (pc := 84) hC sm_0 fl_Mo_66 rfl d_Mo_sameTarget_84 ?_
      refine Y_iload_n (pc := 87) hC d_Mo_sameTarget_87 rfl 4 rfl ?_
      obtain ⟨hi, h⟩ := ck_some h
      refine Y_iald (pc := 88) hC sm_19 rfl hi d_Mo_sameTarget_88 ?_
      refine Y_iadd (pc := 89) hC d_Mo_sameTarget_89 ?_
      refine Y_aload_n (pc := 90) hC d_Mo_sameTarget_90 rfl 3 rfl ?_
      refine Y_iload (pc := 91) hC d_Mo_sameTarget_91 1 rfl ?_
      obtain ⟨r4, V4, hc_r4, h⟩ := cl_some h
      refine Y_callV (pc := 93) hC (c_Mo_numberOf C.l C.D C.cI C.cZ C.a hc_r4) (fun q => nomatch q) sm_0 cls_Mo ml_Mo_207 mv_Mo_numberOf (by decide) (Nat.le_of_ble_eq_true rfl) rfl d_Mo_sameTarget_93 ?_
      refine Y_aload_n (pc := 96) hC d_Mo_sameTarget_96 rfl 3 rfl ?_
      refine Y_getR (pc := 97) hC sm_0 fl_Mo_66 rfl d_Mo_sameTarget_97 ?_
      refine Y_iload_n (pc := 100) hC d_Mo_sameTarget_100 rfl 5 rfl ?_
      obtain ⟨hi, h⟩ := ck_some h
      refine Y_iald (pc := 101) hC sm_19 rfl hi d_Mo_sameTarget_101 ?_
      refine Y_iadd (pc := 102) hC d_Mo_sameTarget_102 ?_
      obtain ⟨j1, hj1, h⟩ := jn_some h
      have kj1 : ∀ (z1 : Int32), j1 z1 = some (r, V') → Y C shpM 7 111 [(0, .ref (C.a 0)), (3, .int (V 18 p1.toNatClampNeg)), (4, .int (V 18 p2.toNatClampNeg)), (5, .int r1)] [.int z1] V4 := by
        intro z1 h
        subst hj1
        dsimp only at h
        refine Y_istore (pc := 111) hC (L' := [(6, .int z1), (0, .ref (C.a 0)), (3, .int (V 18 p1.toNatClampNeg)), (4, .int (V 18 p2.toNatClampNeg)), (5, .int r1)]) d_Mo_sameTarget_111 (by decide) rfl ?_
        refine Y_iload (pc := 113) hC d_Mo_sameTarget_113 0 rfl ?_
        refine Y_if_eq (pc := 115) hC 152 d_Mo_sameTarget_115 rfl (fun cc_115 => ?_) (fun cc_115 => ?_)
        · have h := ifp cc_115 h
          refine Y_iconst (pc := 152) hC d_Mo_sameTarget_152 ki_0 ?_
          exact Y_zret (pc := 153) hC hE d_Mo_sameTarget_153 rfl h
        · have h := ifn cc_115 h
          refine Y_iload (pc := 118) hC d_Mo_sameTarget_118 4 rfl ?_
          refine Y_iconst (pc := 120) hC d_Mo_sameTarget_120 ki_2 ?_
          refine Y_icmp_eq (pc := 121) hC 148 d_Mo_sameTarget_121 rfl (fun cc_121 => ?_) (fun cc_121 => ?_)
          · have h := ifp cc_121 h
            refine Y_iconst (pc := 148) hC d_Mo_sameTarget_148 ki_1 ?_
            refine Y_goto (pc := 149) hC 153 d_Mo_sameTarget_149 rfl ?_
            exact Y_zret (pc := 153) hC hE d_Mo_sameTarget_153 rfl h
          · have h := ifn cc_121 h
            refine Y_aload_n (pc := 124) hC d_Mo_sameTarget_124 rfl 1 rfl ?_
            refine Y_getR (pc := 125) hC sm_0 fl_Mo_97 rfl d_Mo_sameTarget_125 ?_
            refine Y_aload_n (pc := 128) hC d_Mo_sameTarget_128 rfl 1 rfl ?_
            refine Y_iload_n (pc := 129) hC d_Mo_sameTarget_129 rfl 2 rfl ?_
            obtain ⟨r5, V5, hc_r5, h⟩ := cl_some h
            refine Y_callV (pc := 130) hC (c_Mo_sectionOf C.l C.D C.cI C.cZ C.a hc_r5) (fun q => nomatch q) sm_0 cls_Mo ml_Mo_204 mv_Mo_sectionOf (by decide) (Nat.le_of_ble_eq_true rfl) rfl d_Mo_sameTarget_130 ?_
            obtain ⟨hi, h⟩ := ck_some h
            refine Y_iald (pc := 133) hC sm_26 rfl hi d_Mo_sameTarget_133 ?_
            refine Y_aload_n (pc := 134) hC d_Mo_sameTarget_134 rfl 1 rfl ?_
            refine Y_getR (pc := 135) hC sm_0 fl_Mo_97 rfl d_Mo_sameTarget_135 ?_
            refine Y_aload_n (pc := 138) hC d_Mo_sameTarget_138 rfl 1 rfl ?_
            refine Y_iload (pc := 139) hC d_Mo_sameTarget_139 3 rfl ?_
            obtain ⟨r6, V6, hc_r6, h⟩ := cl_some h
            refine Y_callV (pc := 141) hC (c_Mo_sectionOf C.l C.D C.cI C.cZ C.a hc_r6) (fun q => nomatch q) sm_0 cls_Mo ml_Mo_204 mv_Mo_sectionOf (by decide) (Nat.le_of_ble_eq_true rfl) rfl d_Mo_sameTarget_141 ?_
            obtain ⟨hi, h⟩ := ck_some h
            refine Y_iald (pc := 144) hC sm_26 rfl hi d_Mo_sameTarget_144 ?_
            refine Y_icmp_ne (pc := 145) hC 152 d_Mo_sameTarget_145 rfl (fun cc_145 => ?_) (fun cc_145 => ?_)
            · have h := ifn cc_145 h
              refine Y_iconst (pc := 152) hC d_Mo_sameTarget_152 ki_0 ?_
              exact Y_zret (pc := 153) hC hE d_Mo_sameTarget_153 rfl h
            · have h := ifp cc_145 h
              refine Y_iconst (pc := 148) hC d_Mo_sameTarget_148 ki_1 ?_
              refine Y_goto (pc := 149) hC 153 d_Mo_sameTarget_149 rfl ?_
              exact Y_zret (pc := 153) hC hE d_Mo_sameTarget_153 rfl h
      refine Y_icmp_ne (pc := 103) hC 110 d_Mo_sameTarget_103 rfl (fun cc_103 => ?_) (fun cc_103 => ?_)
      · have h := ifn cc_103 h
        refine Y_iconst (pc := 110) hC d_Mo_sameTarget_110 ki_0 ?_
        refine Y_sub (pc := 111) [3, 2, 1, 0] rfl ?_
        exact kj1 _ h
      · have h := ifp cc_103 h
        refine Y_iconst (pc := 106) hC d_Mo_sameTarget_106 ki_1 ?_
        refine Y_goto (pc := 107) hC 111 d_Mo_sameTarget_107 rfl ?_
        refine Y_sub (pc := 111) [3, 2, 1, 0] rfl ?_
        exact kj1 _ h
    · have h := ifp cc_38 h
      refine Y_aload_n (pc := 41) hC d_Mo_sameTarget_41 rfl 3 rfl ?_
      refine Y_getR (pc := 42) hC sm_0 fl_Mo_48 rfl d_Mo_sameTarget_42 ?_
      refine Y_iload_n (pc := 45) hC d_Mo_sameTarget_45 rfl 2 rfl ?_
      obtain ⟨hi, h⟩ := ck_some h
      refine Y_iald (pc := 46) hC sm_13 rfl hi d_Mo_sameTarget_46 ?_
      refine Y_aload_n (pc := 47) hC d_Mo_sameTarget_47 rfl 3 rfl ?_
      refine Y_getR (pc := 48) hC sm_0 fl_Mo_48 rfl d_Mo_sameTarget_48 ?_
      refine Y_iload (pc := 51) hC d_Mo_sameTarget_51 1 rfl ?_
      obtain ⟨hi, h⟩ := ck_some h
      refine Y_iald (pc := 53) hC sm_13 rfl hi d_Mo_sameTarget_53 ?_
      refine Y_icmp_ne (pc := 54) hC 76 d_Mo_sameTarget_54 rfl (fun cc_54 => ?_) (fun cc_54 => ?_)
      · have h := ifn cc_54 h
        refine Y_iconst (pc := 76) hC d_Mo_sameTarget_76 ki_0 ?_
        exact Y_zret (pc := 77) hC hE d_Mo_sameTarget_77 rfl h
      · have h := ifp cc_54 h
        refine Y_aload_n (pc := 57) hC d_Mo_sameTarget_57 rfl 3 rfl ?_
        refine Y_getR (pc := 58) hC sm_0 fl_Mo_66 rfl d_Mo_sameTarget_58 ?_
        refine Y_iload_n (pc := 61) hC d_Mo_sameTarget_61 rfl 4 rfl ?_
        obtain ⟨hi, h⟩ := ck_some h
        refine Y_iald (pc := 62) hC sm_19 rfl hi d_Mo_sameTarget_62 ?_
        refine Y_aload_n (pc := 63) hC d_Mo_sameTarget_63 rfl 3 rfl ?_
        refine Y_getR (pc := 64) hC sm_0 fl_Mo_66 rfl d_Mo_sameTarget_64 ?_
        refine Y_iload_n (pc := 67) hC d_Mo_sameTarget_67 rfl 5 rfl ?_
        obtain ⟨hi, h⟩ := ck_some h
        refine Y_iald (pc := 68) hC sm_19 rfl hi d_Mo_sameTarget_68 ?_
        refine Y_icmp_ne (pc := 69) hC 76 d_Mo_sameTarget_69 rfl (fun cc_69 => ?_) (fun cc_69 => ?_)
        · have h := ifn cc_69 h
          refine Y_iconst (pc := 76) hC d_Mo_sameTarget_76 ki_0 ?_
          exact Y_zret (pc := 77) hC hE d_Mo_sameTarget_77 rfl h
        · have h := ifp cc_69 h
          refine Y_iconst (pc := 72) hC d_Mo_sameTarget_72 ki_1 ?_
          refine Y_goto (pc := 73) hC 77 d_Mo_sameTarget_73 rfl ?_
          exact Y_zret (pc := 77) hC hE d_Mo_sameTarget_77 rfl h
  · have h := ifn cc_30 h
    refine Y_iconst (pc := 33) hC d_Mo_sameTarget_33 ki_0 ?_
    exact Y_zret (pc := 34) hC hE d_Mo_sameTarget_34 rfl h
set_option maxHeartbeats 4000000 in
set_option maxRecDepth 100000 in
theorem ylp_Mo_needy_12 {C : YC} {r : Int32} {V' : Sto} {x1 : Int32} {k85 : Int32 → Sto → RT} {k93 : Sto → RT} (hC : YF C R_Mo b_Mo_needy 4 rm_Mo_needy) (hE : YEi C .int shpM r V') (hk85 : ∀ (y2 : Int32) (V1 : Sto), k85 y2 V1 = some (r, V') → Y C shpM 4 85 [(2, .int y2)] [] V1) (hk93 : ∀ (V1 : Sto), k93 V1 = some (r, V') → Y C shpM 4 93 [(0, .ref (C.a 0)), (1, .int x1)] [] V1) : ∀ (n : Nat) (x2 : Int32) (V : Sto), lp_Mo_needy_12 x1 k85 k93 n x2 V = some (r, V') → Y C shpM 4 12 [(0, .ref (C.a 0)), (1, .int x1), (2, .int x2)] [] V := by
  intro n
  induction n with
  | zero =>
    intro x2 V h
    rw [lp_Mo_needy_12] at h
    cases h
  | succ n ih =>
    intro x2 V h
    rw [lp_Mo_needy_12] at h
    refine Y_iload_n (pc := 12) hC d_Mo_needy_12 rfl 2 rfl ?_
    refine Y_aload_n (pc := 13) hC d_Mo_needy_13 rfl 0 rfl ?_
    refine Y_getI (pc := 14) hC sm_0 fl_Mo_167 rfl d_Mo_needy_14 ?_
    refine Y_icmp_ge (pc := 17) hC 93 d_Mo_needy_17 rfl (fun cc_17 => ?_) (fun cc_17 => ?_)
    · have h := ifp cc_17 h
      refine Y_sub (pc := 93) [0, 1] rfl ?_
      exact hk93 _ h
    · have h := ifn cc_17 h
      refine Y_aload_n (pc := 20) hC d_Mo_needy_20 rfl 0 rfl ?_
      refine Y_getR (pc := 21) hC sm_0 fl_Mo_54 rfl d_Mo_needy_21 ?_
      refine Y_iload_n (pc := 24) hC d_Mo_needy_24 rfl 2 rfl ?_
      obtain ⟨hi, h⟩ := ck_some h
      refine Y_iald (pc := 25) hC sm_15 rfl hi d_Mo_needy_25 ?_
      refine Y_iload_n (pc := 26) hC d_Mo_needy_26 rfl 1 rfl ?_
      refine Y_icmp_ne (pc := 27) hC 71 d_Mo_needy_27 rfl (fun cc_27 => ?_) (fun cc_27 => ?_)
      · have h := ifn cc_27 h
        refine Y_iconst (pc := 71) hC d_Mo_needy_71 ki_0 ?_
        refine Y_istore_n (pc := 72) hC (L' := [(3, .int 0), (0, .ref (C.a 0)), (1, .int x1), (2, .int x2)]) d_Mo_needy_72 rfl (by decide) rfl ?_
        refine Y_iload_n (pc := 73) hC d_Mo_needy_73 rfl 0 rfl ?_
        refine Y_if_eq (pc := 74) hC 87 d_Mo_needy_74 rfl (fun _ => ?_) (fun q => absurd q (by decide))
        refine Y_iinc (pc := 87) hC (v := x2 + 1) (L' := [(2, .int (x2 + 1)), (3, .int 0), (0, .ref (C.a 0)), (1, .int x1)]) d_Mo_needy_87 3 rfl rfl (by decide) rfl ?_
        refine Y_goto (pc := 90) hC 12 d_Mo_needy_90 rfl ?_
        refine Y_sub (pc := 12) [2, 3, 0] rfl ?_
        exact ih _ _ h
      · have h := ifp cc_27 h
        refine Y_aload_n (pc := 30) hC d_Mo_needy_30 rfl 0 rfl ?_
        refine Y_getR (pc := 31) hC sm_0 fl_Mo_60 rfl d_Mo_needy_31 ?_
        refine Y_iload_n (pc := 34) hC d_Mo_needy_34 rfl 2 rfl ?_
        obtain ⟨hi, h⟩ := ck_some h
        refine Y_iald (pc := 35) hC sm_17 rfl hi d_Mo_needy_35 ?_
        refine Y_iconst (pc := 36) hC d_Mo_needy_36 ki_4 ?_
        refine Y_icmp_ne (pc := 37) hC 71 d_Mo_needy_37 rfl (fun cc_37 => ?_) (fun cc_37 => ?_)
        · have h := ifn cc_37 h
          refine Y_iconst (pc := 71) hC d_Mo_needy_71 ki_0 ?_
          refine Y_istore_n (pc := 72) hC (L' := [(3, .int 0), (0, .ref (C.a 0)), (1, .int x1), (2, .int x2)]) d_Mo_needy_72 rfl (by decide) rfl ?_
          refine Y_iload_n (pc := 73) hC d_Mo_needy_73 rfl 0 rfl ?_
          refine Y_if_eq (pc := 74) hC 87 d_Mo_needy_74 rfl (fun _ => ?_) (fun q => absurd q (by decide))
          refine Y_iinc (pc := 87) hC (v := x2 + 1) (L' := [(2, .int (x2 + 1)), (3, .int 0), (0, .ref (C.a 0)), (1, .int x1)]) d_Mo_needy_87 3 rfl rfl (by decide) rfl ?_
          refine Y_goto (pc := 90) hC 12 d_Mo_needy_90 rfl ?_
          refine Y_sub (pc := 12) [2, 3, 0] rfl ?_
          exact ih _ _ h
        · have h := ifp cc_37 h
          refine Y_aload_n (pc := 40) hC d_Mo_needy_40 rfl 0 rfl ?_
          refine Y_iload_n (pc := 41) hC d_Mo_needy_41 rfl 1 rfl ?_
          obtain ⟨r1, V1, hc_r1, h⟩ := cl_some h
          refine Y_callV (pc := 42) hC (c_Mo_stays C.l C.D C.cI C.cZ C.a hc_r1) (fun q => nomatch q) sm_0 cls_Mo ml_Mo_226 mv_Mo_stays (by decide) (Nat.le_of_ble_eq_true rfl) rfl d_Mo_needy_42 ?_
          refine Y_if_eq (pc := 45) hC 71 d_Mo_needy_45 rfl (fun cc_45 => ?_) (fun cc_45 => ?_)
          · have h := ifp cc_45 h
            refine Y_iconst (pc := 71) hC d_Mo_needy_71 ki_0 ?_
            refine Y_istore_n (pc := 72) hC (L' := [(3, .int 0), (0, .ref (C.a 0)), (1, .int x1), (2, .int x2)]) d_Mo_needy_72 rfl (by decide) rfl ?_
            refine Y_iload_n (pc := 73) hC d_Mo_needy_73 rfl 0 rfl ?_
            refine Y_if_eq (pc := 74) hC 87 d_Mo_needy_74 rfl (fun _ => ?_) (fun q => absurd q (by decide))
            refine Y_iinc (pc := 87) hC (v := x2 + 1) (L' := [(2, .int (x2 + 1)), (3, .int 0), (0, .ref (C.a 0)), (1, .int x1)]) d_Mo_needy_87 3 rfl rfl (by decide) rfl ?_
            refine Y_goto (pc := 90) hC 12 d_Mo_needy_90 rfl ?_
            refine Y_sub (pc := 12) [2, 3, 0] rfl ?_
            exact ih _ _ h
          · have h := ifn cc_45 h
            refine Y_aload_n (pc := 48) hC d_Mo_needy_48 rfl 0 rfl ?_
            refine Y_getR (pc := 49) hC sm_0 fl_Mo_16 rfl d_Mo_needy_49 ?_
            refine Y_iload_n (pc := 52) hC d_Mo_needy_52 rfl 1 rfl ?_
            obtain ⟨hi, h⟩ := ck_some h
            refine Y_iald (pc := 53) hC sm_3 rfl hi d_Mo_needy_53 ?_
            refine Y_if_ne (pc := 54) hC 71 d_Mo_needy_54 rfl (fun cc_54 => ?_) (fun cc_54 => ?_)
            · have h := ifn cc_54 h
              refine Y_iconst (pc := 71) hC d_Mo_needy_71 ki_0 ?_
              refine Y_istore_n (pc := 72) hC (L' := [(3, .int 0), (0, .ref (C.a 0)), (1, .int x1), (2, .int x2)]) d_Mo_needy_72 rfl (by decide) rfl ?_
              refine Y_iload_n (pc := 73) hC d_Mo_needy_73 rfl 0 rfl ?_
              refine Y_if_eq (pc := 74) hC 87 d_Mo_needy_74 rfl (fun _ => ?_) (fun q => absurd q (by decide))
              refine Y_iinc (pc := 87) hC (v := x2 + 1) (L' := [(2, .int (x2 + 1)), (3, .int 0), (0, .ref (C.a 0)), (1, .int x1)]) d_Mo_needy_87 3 rfl rfl (by decide) rfl ?_
              refine Y_goto (pc := 90) hC 12 d_Mo_needy_90 rfl ?_
              refine Y_sub (pc := 12) [2, 3, 0] rfl ?_
              exact ih _ _ h
            · have h := ifp cc_54 h
              refine Y_aload_n (pc := 57) hC d_Mo_needy_57 rfl 0 rfl ?_
              refine Y_getR (pc := 58) hC sm_0 fl_Mo_109 rfl d_Mo_needy_58 ?_
              refine Y_iload_n (pc := 61) hC d_Mo_needy_61 rfl 2 rfl ?_
              obtain ⟨hi, h⟩ := ck_some h
              refine Y_iald (pc := 62) hC sm_30 rfl hi d_Mo_needy_62 ?_
              refine Y_iconst (pc := 63) hC d_Mo_needy_63 ki_m1 ?_
              refine Y_icmp_ne (pc := 64) hC 71 d_Mo_needy_64 rfl (fun cc_64 => ?_) (fun cc_64 => ?_)
              · have h := ifn cc_64 h
                refine Y_iconst (pc := 71) hC d_Mo_needy_71 ki_0 ?_
                refine Y_istore_n (pc := 72) hC (L' := [(3, .int 0), (0, .ref (C.a 0)), (1, .int x1), (2, .int x2)]) d_Mo_needy_72 rfl (by decide) rfl ?_
                refine Y_iload_n (pc := 73) hC d_Mo_needy_73 rfl 0 rfl ?_
                refine Y_if_eq (pc := 74) hC 87 d_Mo_needy_74 rfl (fun _ => ?_) (fun q => absurd q (by decide))
                refine Y_iinc (pc := 87) hC (v := x2 + 1) (L' := [(2, .int (x2 + 1)), (3, .int 0), (0, .ref (C.a 0)), (1, .int x1)]) d_Mo_needy_87 3 rfl rfl (by decide) rfl ?_
                refine Y_goto (pc := 90) hC 12 d_Mo_needy_90 rfl ?_
                refine Y_sub (pc := 12) [2, 3, 0] rfl ?_
                exact ih _ _ h
              · have h := ifp cc_64 h
                refine Y_iconst (pc := 67) hC d_Mo_needy_67 ki_1 ?_
                refine Y_goto (pc := 68) hC 72 d_Mo_needy_68 rfl ?_
                refine Y_istore_n (pc := 72) hC (L' := [(3, .int 1), (0, .ref (C.a 0)), (1, .int x1), (2, .int x2)]) d_Mo_needy_72 rfl (by decide) rfl ?_
                refine Y_iload_n (pc := 73) hC d_Mo_needy_73 rfl 0 rfl ?_
                refine Y_if_eq (pc := 74) hC 87 d_Mo_needy_74 rfl (fun q => absurd q (by decide)) (fun _ => ?_)
                refine Y_aload_n (pc := 77) hC d_Mo_needy_77 rfl 1 rfl ?_
                refine Y_iload_n (pc := 78) hC d_Mo_needy_78 rfl 3 rfl ?_
                obtain ⟨r2, V2, hc_r2, h⟩ := cl_some h
                refine Y_callV (pc := 79) hC (c_Mo_isNearTarget C.l C.D C.cI C.cZ C.a hc_r2) (fun q => nomatch q) sm_0 cls_Mo ml_Mo_266 mv_Mo_isNearTarget (by decide) (Nat.le_of_ble_eq_true rfl) rfl d_Mo_needy_79 ?_
                refine Y_if_ne (pc := 82) hC 87 d_Mo_needy_82 rfl (fun cc_82 => ?_) (fun cc_82 => ?_)
                · have h := ifn cc_82 h
                  refine Y_iinc (pc := 87) hC (v := x2 + 1) (L' := [(2, .int (x2 + 1)), (3, .int 1), (0, .ref (C.a 0)), (1, .int x1)]) d_Mo_needy_87 3 rfl rfl (by decide) rfl ?_
                  refine Y_goto (pc := 90) hC 12 d_Mo_needy_90 rfl ?_
                  refine Y_sub (pc := 12) [2, 3, 0] rfl ?_
                  exact ih _ _ h
                · have h := ifp cc_82 h
                  refine Y_sub (pc := 85) [3] rfl ?_
                  exact hk85 _ _ h
set_option maxHeartbeats 4000000 in
set_option maxRecDepth 100000 in
theorem ylp_Mo_needy_2 {C : YC} {r : Int32} {V' : Sto} {k85 : Int32 → Sto → RT} {k99 : Sto → RT} (hC : YF C R_Mo b_Mo_needy 4 rm_Mo_needy) (hE : YEi C .int shpM r V') (hk85 : ∀ (y2 : Int32) (V1 : Sto), k85 y2 V1 = some (r, V') → Y C shpM 4 85 [(2, .int y2)] [] V1) (hk99 : ∀ (V1 : Sto), k99 V1 = some (r, V') → Y C shpM 4 99 [] [] V1) : ∀ (n : Nat) (x1 : Int32) (V : Sto), lp_Mo_needy_2 k85 k99 n x1 V = some (r, V') → Y C shpM 4 2 [(0, .ref (C.a 0)), (1, .int x1)] [] V := by
  intro n
  induction n with
  | zero =>
    intro x1 V h
    rw [lp_Mo_needy_2] at h
    cases h
  | succ n ih =>
    intro x1 V h
    rw [lp_Mo_needy_2] at h
    refine Y_iload_n (pc := 2) hC d_Mo_needy_2 rfl 1 rfl ?_
    refine Y_aload_n (pc := 3) hC d_Mo_needy_3 rfl 0 rfl ?_
    refine Y_getI (pc := 4) hC sm_0 fl_Mo_143 rfl d_Mo_needy_4 ?_
    refine Y_icmp_ge (pc := 7) hC 99 d_Mo_needy_7 rfl (fun cc_7 => ?_) (fun cc_7 => ?_)
    · have h := ifp cc_7 h
      refine Y_sub (pc := 99) [] rfl ?_
      exact hk99 _ h
    · have h := ifn cc_7 h
      refine Y_iconst (pc := 10) hC d_Mo_needy_10 ki_0 ?_
      refine Y_istore_n (pc := 11) hC (L' := [(2, .int 0), (0, .ref (C.a 0)), (1, .int x1)]) d_Mo_needy_11 rfl (by decide) rfl ?_
      refine Y_sub (pc := 12) [1, 2, 0] rfl ?_
      refine ylp_Mo_needy_12 hC hE (fun y1 V3 h => ?_) (fun V4 h => ?_) FU _ _ h
      · have h := h
        refine Y_sub (pc := 85) [0] rfl ?_
        exact hk85 _ _ h
      · have h := h
        refine Y_iinc (pc := 93) hC (v := x1 + 1) (L' := [(1, .int (x1 + 1)), (0, .ref (C.a 0))]) d_Mo_needy_93 1 rfl rfl (by decide) rfl ?_
        refine Y_goto (pc := 96) hC 2 d_Mo_needy_96 rfl ?_
        refine Y_sub (pc := 2) [1, 0] rfl ?_
        exact ih _ _ h
set_option maxHeartbeats 4000000 in
set_option maxRecDepth 100000 in
theorem c_Mo_needy (l : Launch) (D : va_G) (cI cZ : ClassId) (a : Nat → Nat) {V : Sto} {r : Int32} {V' : Sto} (h : f_Mo_needy V = some (r, V')) : YMi l D cI cZ a shpM y_Mo_needy b_Mo_needy 4 (some .int) rm_Mo_needy false [.ref (a 0)] V r V' := by
  refine YMi_of (by decide) (Nat.le_of_ble_eq_true rfl) ?_
  intro C hl hDD hcI hcZ ha hC hw hE
  subst hl hDD hcI hcZ ha
  show Y C shpM 4 0 [(0, .ref (C.a 0))] [] V
  rw [f_Mo_needy] at h
  refine Y_iconst (pc := 0) hC d_Mo_needy_0 ki_0 ?_
  refine Y_istore_n (pc := 1) hC (L' := [(1, .int 0), (0, .ref (C.a 0))]) d_Mo_needy_1 rfl (by decide) rfl ?_
  refine Y_sub (pc := 2) [1, 0] rfl ?_
  refine ylp_Mo_needy_2 hC hE (fun y2 V5 h => ?_) (fun V6 h => ?_) FU _ _ h
  · have h := h
    refine Y_iload_n (pc := 85) hC d_Mo_needy_85 rfl 0 rfl ?_
    exact Y_iret (pc := 86) hC hE d_Mo_needy_86 h
  · have h := h
    refine Y_iconst (pc := 99) hC d_Mo_needy_99 ki_m1 ?_
    exact Y_iret (pc := 100) hC hE d_Mo_needy_100 h
set_option maxHeartbeats 4000000 in
set_option maxRecDepth 100000 in
theorem ylp_Mo_findIslands_17 {C : YC} {r : Int32} {V' : Sto} {k38 : Sto → RT} (hC : YF C R_Mo b_Mo_findIslands 3 rm_Mo_findIslands) (hw : YWr C shpM) (hE : YEi C .boolean shpM r V') (hk38 : ∀ (V1 : Sto), k38 V1 = some (r, V') → Y C shpM 3 38 [(0, .ref (C.a 0))] [] V1) : ∀ (n : Nat) (x1 : Int32) (V : Sto), lp_Mo_findIslands_17 k38 n x1 V = some (r, V') → Y C shpM 3 17 [(0, .ref (C.a 0)), (1, .int x1)] [] V := by
  intro n
  induction n with
  | zero =>
    intro x1 V h
    rw [lp_Mo_findIslands_17] at h
    cases h
  | succ n ih =>
    intro x1 V h
    rw [lp_Mo_findIslands_17] at h
    refine Y_iload_n (pc := 17) hC d_Mo_findIslands_17 rfl 1 rfl ?_
    refine Y_aload_n (pc := 18) hC d_Mo_findIslands_18 rfl 0 rfl ?_
    refine Y_getI (pc := 19) hC sm_0 fl_Mo_167 rfl d_Mo_findIslands_19 ?_
    refine Y_icmp_ge (pc := 22) hC 38 d_Mo_findIslands_22 rfl (fun cc_22 => ?_) (fun cc_22 => ?_)
    · have h := ifp cc_22 h
      refine Y_sub (pc := 38) [0] rfl ?_
      exact hk38 _ h
    · have h := ifn cc_22 h
      refine Y_aload_n (pc := 25) hC d_Mo_findIslands_25 rfl 0 rfl ?_
      refine Y_getR (pc := 26) hC sm_0 fl_Mo_109 rfl d_Mo_findIslands_26 ?_
      refine Y_iload_n (pc := 29) hC d_Mo_findIslands_29 rfl 1 rfl ?_
      refine Y_iconst (pc := 30) hC d_Mo_findIslands_30 ki_m1 ?_
      obtain ⟨hi, h⟩ := ck_some h
      obtain ⟨V4, hV4, h⟩ := nm_some h
      refine Y_iast (pc := 31) hC sm_30 (by decide) rfl hi hw rfl hV4 d_Mo_findIslands_31 ?_
      refine Y_iinc (pc := 32) hC (v := x1 + 1) (L' := [(1, .int (x1 + 1)), (0, .ref (C.a 0))]) d_Mo_findIslands_32 1 rfl rfl (by decide) rfl ?_
      refine Y_goto (pc := 35) hC 17 d_Mo_findIslands_35 rfl ?_
      refine Y_sub (pc := 17) [1, 0] rfl ?_
      exact ih _ _ h
set_option maxHeartbeats 4000000 in
set_option maxRecDepth 100000 in
theorem ylp_Mo_findIslands_54 {C : YC} {r : Int32} {V' : Sto} {x1 : Int32} {k108 : Sto → RT} (hC : YF C R_Mo b_Mo_findIslands 3 rm_Mo_findIslands) (hw : YWr C shpM) (hE : YEi C .boolean shpM r V') (hk108 : ∀ (V1 : Sto), k108 V1 = some (r, V') → Y C shpM 3 108 [(0, .ref (C.a 0)), (1, .int x1)] [] V1) : ∀ (n : Nat) (x2 : Int32) (V : Sto), lp_Mo_findIslands_54 x1 k108 n x2 V = some (r, V') → Y C shpM 3 54 [(0, .ref (C.a 0)), (1, .int x1), (2, .int x2)] [] V := by
  intro n
  induction n with
  | zero =>
    intro x2 V h
    rw [lp_Mo_findIslands_54] at h
    cases h
  | succ n ih =>
    intro x2 V h
    rw [lp_Mo_findIslands_54] at h
    refine Y_iload_n (pc := 54) hC d_Mo_findIslands_54 rfl 2 rfl ?_
    refine Y_aload_n (pc := 55) hC d_Mo_findIslands_55 rfl 0 rfl ?_
    refine Y_getI (pc := 56) hC sm_0 fl_Mo_241 rfl d_Mo_findIslands_56 ?_
    refine Y_icmp_ge (pc := 59) hC 108 d_Mo_findIslands_59 rfl (fun cc_59 => ?_) (fun cc_59 => ?_)
    · have h := ifp cc_59 h
      refine Y_sub (pc := 108) [0, 1] rfl ?_
      exact hk108 _ h
    · have h := ifn cc_59 h
      refine Y_aload_n (pc := 62) hC d_Mo_findIslands_62 rfl 0 rfl ?_
      refine Y_getR (pc := 63) hC sm_0 fl_Mo_109 rfl d_Mo_findIslands_63 ?_
      refine Y_iload_n (pc := 66) hC d_Mo_findIslands_66 rfl 1 rfl ?_
      refine Y_aload_n (pc := 67) hC d_Mo_findIslands_67 rfl 0 rfl ?_
      refine Y_getR (pc := 68) hC sm_0 fl_Mo_109 rfl d_Mo_findIslands_68 ?_
      refine Y_iload_n (pc := 71) hC d_Mo_findIslands_71 rfl 1 rfl ?_
      obtain ⟨hi, h⟩ := ck_some h
      refine Y_iald (pc := 72) hC sm_30 rfl hi d_Mo_findIslands_72 ?_
      refine Y_iconst (pc := 73) hC d_Mo_findIslands_73 ki_m1 ?_
      refine Y_icmp_ne (pc := 74) hC 95 d_Mo_findIslands_74 rfl (fun cc_74 => ?_) (fun cc_74 => ?_)
      · have h := ifn cc_74 h
        refine Y_aload_n (pc := 95) hC d_Mo_findIslands_95 rfl 0 rfl ?_
        refine Y_getR (pc := 96) hC sm_0 fl_Mo_109 rfl d_Mo_findIslands_96 ?_
        refine Y_iload_n (pc := 99) hC d_Mo_findIslands_99 rfl 1 rfl ?_
        obtain ⟨hi, h⟩ := ck_some h
        refine Y_iald (pc := 100) hC sm_30 rfl hi d_Mo_findIslands_100 ?_
        obtain ⟨hi, h⟩ := ck_some h
        obtain ⟨V8, hV8, h⟩ := nm_some h
        refine Y_iast (pc := 101) hC sm_30 (by decide) rfl hi hw rfl hV8 d_Mo_findIslands_101 ?_
        refine Y_iinc (pc := 102) hC (v := x2 + 1) (L' := [(2, .int (x2 + 1)), (0, .ref (C.a 0)), (1, .int x1)]) d_Mo_findIslands_102 2 rfl rfl (by decide) rfl ?_
        refine Y_goto (pc := 105) hC 54 d_Mo_findIslands_105 rfl ?_
        refine Y_sub (pc := 54) [1, 2, 0] rfl ?_
        exact ih _ _ h
      · have h := ifp cc_74 h
        refine Y_aload_n (pc := 77) hC d_Mo_findIslands_77 rfl 0 rfl ?_
        refine Y_aload_n (pc := 78) hC d_Mo_findIslands_78 rfl 0 rfl ?_
        refine Y_getR (pc := 79) hC sm_0 fl_Mo_112 rfl d_Mo_findIslands_79 ?_
        refine Y_iload_n (pc := 82) hC d_Mo_findIslands_82 rfl 2 rfl ?_
        obtain ⟨hi, h⟩ := ck_some h
        refine Y_iald (pc := 83) hC sm_31 rfl hi d_Mo_findIslands_83 ?_
        refine Y_iload_n (pc := 84) hC d_Mo_findIslands_84 rfl 1 rfl ?_
        obtain ⟨r3, V9, hc_r3, h⟩ := cl_some h
        refine Y_callV (pc := 85) hC (c_Mo_sameTarget C.l C.D C.cI C.cZ C.a hc_r3) (fun q => nomatch q) sm_0 cls_Mo ml_Mo_276 mv_Mo_sameTarget (by decide) (Nat.le_of_ble_eq_true rfl) rfl d_Mo_findIslands_85 ?_
        refine Y_if_eq (pc := 88) hC 95 d_Mo_findIslands_88 rfl (fun cc_88 => ?_) (fun cc_88 => ?_)
        · have h := ifp cc_88 h
          refine Y_aload_n (pc := 95) hC d_Mo_findIslands_95 rfl 0 rfl ?_
          refine Y_getR (pc := 96) hC sm_0 fl_Mo_109 rfl d_Mo_findIslands_96 ?_
          refine Y_iload_n (pc := 99) hC d_Mo_findIslands_99 rfl 1 rfl ?_
          obtain ⟨hi, h⟩ := ck_some h
          refine Y_iald (pc := 100) hC sm_30 rfl hi d_Mo_findIslands_100 ?_
          obtain ⟨hi, h⟩ := ck_some h
          obtain ⟨V10, hV10, h⟩ := nm_some h
          refine Y_iast (pc := 101) hC sm_30 (by decide) rfl hi hw rfl hV10 d_Mo_findIslands_101 ?_
          refine Y_iinc (pc := 102) hC (v := x2 + 1) (L' := [(2, .int (x2 + 1)), (0, .ref (C.a 0)), (1, .int x1)]) d_Mo_findIslands_102 2 rfl rfl (by decide) rfl ?_
          refine Y_goto (pc := 105) hC 54 d_Mo_findIslands_105 rfl ?_
          refine Y_sub (pc := 54) [1, 2, 0] rfl ?_
          exact ih _ _ h
        · have h := ifn cc_88 h
          refine Y_iload_n (pc := 91) hC d_Mo_findIslands_91 rfl 2 rfl ?_
          refine Y_goto (pc := 92) hC 101 d_Mo_findIslands_92 rfl ?_
          obtain ⟨hi, h⟩ := ck_some h
          obtain ⟨V11, hV11, h⟩ := nm_some h
          refine Y_iast (pc := 101) hC sm_30 (by decide) rfl hi hw rfl hV11 d_Mo_findIslands_101 ?_
          refine Y_iinc (pc := 102) hC (v := x2 + 1) (L' := [(2, .int (x2 + 1)), (0, .ref (C.a 0)), (1, .int x1)]) d_Mo_findIslands_102 2 rfl rfl (by decide) rfl ?_
          refine Y_goto (pc := 105) hC 54 d_Mo_findIslands_105 rfl ?_
          refine Y_sub (pc := 54) [1, 2, 0] rfl ?_
          exact ih _ _ h
set_option maxHeartbeats 4000000 in
set_option maxRecDepth 100000 in
theorem ylp_Mo_findIslands_47 {C : YC} {r : Int32} {V' : Sto} {k127 : Sto → RT} {k177 : Sto → RT} (hC : YF C R_Mo b_Mo_findIslands 3 rm_Mo_findIslands) (hw : YWr C shpM) (hE : YEi C .boolean shpM r V') (hk127 : ∀ (V1 : Sto), k127 V1 = some (r, V') → Y C shpM 3 127 [(0, .ref (C.a 0))] [] V1) (hk177 : ∀ (V1 : Sto), k177 V1 = some (r, V') → Y C shpM 3 177 [] [] V1) : ∀ (n : Nat) (x1 : Int32) (V : Sto), lp_Mo_findIslands_47 k127 k177 n x1 V = some (r, V') → Y C shpM 3 47 [(0, .ref (C.a 0)), (1, .int x1)] [] V := by
  intro n
  induction n with
  | zero =>
    intro x1 V h
    rw [lp_Mo_findIslands_47] at h
    cases h
  | succ n ih =>
    intro x1 V h
    rw [lp_Mo_findIslands_47] at h
    refine Y_iload_n (pc := 47) hC d_Mo_findIslands_47 rfl 1 rfl ?_
    refine Y_iconst (pc := 48) hC d_Mo_findIslands_48 ki_m1 ?_
    refine Y_icmp_eq (pc := 49) hC 177 d_Mo_findIslands_49 rfl (fun cc_49 => ?_) (fun cc_49 => ?_)
    · have h := ifp cc_49 h
      refine Y_sub (pc := 177) [] rfl ?_
      exact hk177 _ h
    · have h := ifn cc_49 h
      refine Y_iconst (pc := 52) hC d_Mo_findIslands_52 ki_0 ?_
      refine Y_istore_n (pc := 53) hC (L' := [(2, .int 0), (0, .ref (C.a 0)), (1, .int x1)]) d_Mo_findIslands_53 rfl (by decide) rfl ?_
      refine Y_sub (pc := 54) [1, 2, 0] rfl ?_
      refine ylp_Mo_findIslands_54 hC hw hE (fun V12 h => ?_) FU _ _ h
      refine Y_aload_n (pc := 108) hC d_Mo_findIslands_108 rfl 0 rfl ?_
      refine Y_getR (pc := 109) hC sm_0 fl_Mo_109 rfl d_Mo_findIslands_109 ?_
      refine Y_iload_n (pc := 112) hC d_Mo_findIslands_112 rfl 1 rfl ?_
      obtain ⟨hi, h⟩ := ck_some h
      refine Y_iald (pc := 113) hC sm_30 rfl hi d_Mo_findIslands_113 ?_
      refine Y_iconst (pc := 114) hC d_Mo_findIslands_114 ki_m1 ?_
      refine Y_icmp_ne (pc := 115) hC 165 d_Mo_findIslands_115 rfl (fun cc_115 => ?_) (fun cc_115 => ?_)
      · have h := ifn cc_115 h
        refine Y_aload_n (pc := 165) hC d_Mo_findIslands_165 rfl 0 rfl ?_
        obtain ⟨r4, V13, hc_r4, h⟩ := cl_some h
        refine Y_callVv (pc := 166) hC (c_Mo_lay C.l C.D C.cI C.cZ C.a hc_r4) (fun _ => hw) sm_0 cls_Mo ml_Mo_269 mv_Mo_lay (by decide) (Nat.le_of_ble_eq_true rfl) rfl d_Mo_findIslands_166 ?_
        refine Y_aload_n (pc := 169) hC d_Mo_findIslands_169 rfl 0 rfl ?_
        obtain ⟨r5, V14, hc_r5, h⟩ := cl_some h
        refine Y_callV (pc := 170) hC (c_Mo_needy C.l C.D C.cI C.cZ C.a hc_r5) (fun q => nomatch q) sm_0 cls_Mo ml_Mo_272 mv_Mo_needy (by decide) (Nat.le_of_ble_eq_true rfl) rfl d_Mo_findIslands_170 ?_
        refine Y_istore_n (pc := 173) hC (L' := [(1, .int r5), (0, .ref (C.a 0))]) d_Mo_findIslands_173 rfl (by decide) rfl ?_
        refine Y_goto (pc := 174) hC 47 d_Mo_findIslands_174 rfl ?_
        refine Y_sub (pc := 47) [1, 0] rfl ?_
        exact ih _ _ h
      · have h := ifp cc_115 h
        refine Y_aload_n (pc := 118) hC d_Mo_findIslands_118 rfl 0 rfl ?_
        refine Y_getI (pc := 119) hC sm_0 fl_Mo_241 rfl d_Mo_findIslands_119 ?_
        refine Y_bipush (pc := 122) hC d_Mo_findIslands_122 kb_32 ?_
        refine Y_icmp_ne (pc := 124) hC 135 d_Mo_findIslands_124 rfl (fun cc_124 => ?_) (fun cc_124 => ?_)
        · have h := ifn cc_124 h
          refine Y_aload_n (pc := 135) hC d_Mo_findIslands_135 rfl 0 rfl ?_
          refine Y_getR (pc := 136) hC sm_0 fl_Mo_112 rfl d_Mo_findIslands_136 ?_
          refine Y_aload_n (pc := 139) hC d_Mo_findIslands_139 rfl 0 rfl ?_
          refine Y_getI (pc := 140) hC sm_0 fl_Mo_241 rfl d_Mo_findIslands_140 ?_
          refine Y_iload_n (pc := 143) hC d_Mo_findIslands_143 rfl 1 rfl ?_
          obtain ⟨hi, h⟩ := ck_some h
          obtain ⟨V15, hV15, h⟩ := nm_some h
          refine Y_iast (pc := 144) hC sm_31 (by decide) rfl hi hw rfl hV15 d_Mo_findIslands_144 ?_
          refine Y_aload_n (pc := 145) hC d_Mo_findIslands_145 rfl 0 rfl ?_
          refine Y_getR (pc := 146) hC sm_0 fl_Mo_109 rfl d_Mo_findIslands_146 ?_
          refine Y_iload_n (pc := 149) hC d_Mo_findIslands_149 rfl 1 rfl ?_
          refine Y_aload_n (pc := 150) hC d_Mo_findIslands_150 rfl 0 rfl ?_
          refine Y_getI (pc := 151) hC sm_0 fl_Mo_241 rfl d_Mo_findIslands_151 ?_
          obtain ⟨hi, h⟩ := ck_some h
          obtain ⟨V16, hV16, h⟩ := nm_some h
          refine Y_iast (pc := 154) hC sm_30 (by decide) rfl hi hw rfl hV16 d_Mo_findIslands_154 ?_
          refine Y_aload_n (pc := 155) hC d_Mo_findIslands_155 rfl 0 rfl ?_
          refine Y_dup (pc := 156) hC d_Mo_findIslands_156 rfl ?_
          refine Y_getI (pc := 157) hC sm_0 fl_Mo_241 rfl d_Mo_findIslands_157 ?_
          refine Y_iconst (pc := 160) hC d_Mo_findIslands_160 ki_1 ?_
          refine Y_iadd (pc := 161) hC d_Mo_findIslands_161 ?_
          obtain ⟨V17, hV17, h⟩ := nm_some h
          refine Y_put (pc := 162) hC sm_0 fl_Mo_241 rfl (by decide) fp_Mo ft_Mo_47 rfl rfl hw hV17 d_Mo_findIslands_162 ?_
          refine Y_aload_n (pc := 165) hC d_Mo_findIslands_165 rfl 0 rfl ?_
          obtain ⟨r6, V18, hc_r6, h⟩ := cl_some h
          refine Y_callVv (pc := 166) hC (c_Mo_lay C.l C.D C.cI C.cZ C.a hc_r6) (fun _ => hw) sm_0 cls_Mo ml_Mo_269 mv_Mo_lay (by decide) (Nat.le_of_ble_eq_true rfl) rfl d_Mo_findIslands_166 ?_
          refine Y_aload_n (pc := 169) hC d_Mo_findIslands_169 rfl 0 rfl ?_
          obtain ⟨r7, V19, hc_r7, h⟩ := cl_some h
          refine Y_callV (pc := 170) hC (c_Mo_needy C.l C.D C.cI C.cZ C.a hc_r7) (fun q => nomatch q) sm_0 cls_Mo ml_Mo_272 mv_Mo_needy (by decide) (Nat.le_of_ble_eq_true rfl) rfl d_Mo_findIslands_170 ?_
          refine Y_istore_n (pc := 173) hC (L' := [(1, .int r7), (0, .ref (C.a 0))]) d_Mo_findIslands_173 rfl (by decide) rfl ?_
          refine Y_goto (pc := 174) hC 47 d_Mo_findIslands_174 rfl ?_
          refine Y_sub (pc := 47) [1, 0] rfl ?_
          exact ih _ _ h
        · have h := ifp cc_124 h
          refine Y_sub (pc := 127) [0] rfl ?_
          exact hk127 _ h
set_option maxHeartbeats 4000000 in
set_option maxRecDepth 100000 in
theorem c_Mo_findIslands (l : Launch) (D : va_G) (cI cZ : ClassId) (a : Nat → Nat) {V : Sto} {r : Int32} {V' : Sto} (h : f_Mo_findIslands V = some (r, V')) : YMi l D cI cZ a shpM y_Mo_findIslands b_Mo_findIslands 3 (some .boolean) rm_Mo_findIslands true [.ref (a 0)] V r V' := by
  refine YMi_of (by decide) (Nat.le_of_ble_eq_true rfl) ?_
  intro C hl hDD hcI hcZ ha hC hw hE
  subst hl hDD hcI hcZ ha
  show Y C shpM 3 0 [(0, .ref (C.a 0))] [] V
  have hw := hw rfl
  rw [f_Mo_findIslands] at h
  refine Y_aload_n (pc := 0) hC d_Mo_findIslands_0 rfl 0 rfl ?_
  refine Y_iconst (pc := 1) hC d_Mo_findIslands_1 ki_0 ?_
  obtain ⟨V1, hV1, h⟩ := nm_some h
  refine Y_put (pc := 2) hC sm_0 fl_Mo_241 rfl (by decide) fp_Mo ft_Mo_47 rfl rfl hw hV1 d_Mo_findIslands_2 ?_
  refine Y_aload_n (pc := 5) hC d_Mo_findIslands_5 rfl 0 rfl ?_
  refine Y_iconst (pc := 6) hC d_Mo_findIslands_6 ki_0 ?_
  obtain ⟨V2, hV2, h⟩ := nm_some h
  refine Y_put (pc := 7) hC sm_0 fl_Mo_232 rfl (by decide) fp_Mo ft_Mo_35 rfl rfl hw hV2 d_Mo_findIslands_7 ?_
  refine Y_aload_n (pc := 10) hC d_Mo_findIslands_10 rfl 0 rfl ?_
  refine Y_iconst (pc := 11) hC d_Mo_findIslands_11 ki_m1 ?_
  obtain ⟨V3, hV3, h⟩ := nm_some h
  refine Y_put (pc := 12) hC sm_0 fl_Mo_244 rfl (by decide) fp_Mo ft_Mo_49 rfl rfl hw hV3 d_Mo_findIslands_12 ?_
  refine Y_iconst (pc := 15) hC d_Mo_findIslands_15 ki_0 ?_
  refine Y_istore_n (pc := 16) hC (L' := [(1, .int 0), (0, .ref (C.a 0))]) d_Mo_findIslands_16 rfl (by decide) rfl ?_
  refine Y_sub (pc := 17) [1, 0] rfl ?_
  refine ylp_Mo_findIslands_17 hC hw hE (fun V5 h => ?_) FU _ _ h
  refine Y_aload_n (pc := 38) hC d_Mo_findIslands_38 rfl 0 rfl ?_
  obtain ⟨r1, V6, hc_r1, h⟩ := cl_some h
  refine Y_callVv (pc := 39) hC (c_Mo_lay C.l C.D C.cI C.cZ C.a hc_r1) (fun _ => hw) sm_0 cls_Mo ml_Mo_269 mv_Mo_lay (by decide) (Nat.le_of_ble_eq_true rfl) rfl d_Mo_findIslands_39 ?_
  refine Y_aload_n (pc := 42) hC d_Mo_findIslands_42 rfl 0 rfl ?_
  obtain ⟨r2, V7, hc_r2, h⟩ := cl_some h
  refine Y_callV (pc := 43) hC (c_Mo_needy C.l C.D C.cI C.cZ C.a hc_r2) (fun q => nomatch q) sm_0 cls_Mo ml_Mo_272 mv_Mo_needy (by decide) (Nat.le_of_ble_eq_true rfl) rfl d_Mo_findIslands_43 ?_
  refine Y_istore_n (pc := 46) hC (L' := [(1, .int r2), (0, .ref (C.a 0))]) d_Mo_findIslands_46 rfl (by decide) rfl ?_
  refine Y_sub (pc := 47) [1, 0] rfl ?_
  refine ylp_Mo_findIslands_47 hC hw hE (fun V20 h => ?_) (fun V22 h => ?_) FU _ _ h
  · have h := h
    refine Y_aload_n (pc := 127) hC d_Mo_findIslands_127 rfl 0 rfl ?_
    refine Y_iconst (pc := 128) hC d_Mo_findIslands_128 ki_4 ?_
    refine Y_iconst (pc := 129) hC d_Mo_findIslands_129 ki_m1 ?_
    refine Y_iconst (pc := 130) hC d_Mo_findIslands_130 ki_m1 ?_
    obtain ⟨r8, V21, hc_r8, h⟩ := cl_some h
    refine Y_callV (pc := 131) hC (c_Mo_fail C.l C.D C.cI C.cZ C.a hc_r8) (fun _ => hw) sm_0 cls_Mo ml_Mo_188 mv_Mo_fail (by decide) (Nat.le_of_ble_eq_true rfl) rfl d_Mo_findIslands_131 ?_
    obtain ⟨hbb, h⟩ := ck_some h
    exact Y_zret (pc := 134) hC hE d_Mo_findIslands_134 hbb h
  · have h := h
    refine Y_iconst (pc := 177) hC d_Mo_findIslands_177 ki_1 ?_
    exact Y_zret (pc := 178) hC hE d_Mo_findIslands_178 rfl h
set_option maxHeartbeats 4000000 in
set_option maxRecDepth 100000 in
theorem ylp_Mo_checkFar_12 {C : YC} {r : Int32} {V' : Sto} {x1 : Int32} {k125 : Int32 → Sto → RT} {k139 : Sto → RT} (hC : YF C R_Mo b_Mo_checkFar 4 rm_Mo_checkFar) (hw : YWr C shpM) (hE : YEi C .boolean shpM r V') (hk125 : ∀ (y2 : Int32) (V1 : Sto), k125 y2 V1 = some (r, V') → Y C shpM 4 125 [(0, .ref (C.a 0)), (2, .int y2)] [] V1) (hk139 : ∀ (V1 : Sto), k139 V1 = some (r, V') → Y C shpM 4 139 [(0, .ref (C.a 0)), (1, .int x1)] [] V1) : ∀ (n : Nat) (x2 : Int32) (V : Sto), lp_Mo_checkFar_12 x1 k125 k139 n x2 V = some (r, V') → Y C shpM 4 12 [(0, .ref (C.a 0)), (1, .int x1), (2, .int x2)] [] V := by
  intro n
  induction n with
  | zero =>
    intro x2 V h
    rw [lp_Mo_checkFar_12] at h
    cases h
  | succ n ih =>
    intro x2 V h
    rw [lp_Mo_checkFar_12] at h
    refine Y_iload_n (pc := 12) hC d_Mo_checkFar_12 rfl 2 rfl ?_
    refine Y_aload_n (pc := 13) hC d_Mo_checkFar_13 rfl 0 rfl ?_
    refine Y_getI (pc := 14) hC sm_0 fl_Mo_167 rfl d_Mo_checkFar_14 ?_
    refine Y_icmp_ge (pc := 17) hC 139 d_Mo_checkFar_17 rfl (fun cc_17 => ?_) (fun cc_17 => ?_)
    · have h := ifp cc_17 h
      refine Y_sub (pc := 139) [0, 1] rfl ?_
      exact hk139 _ h
    · have h := ifn cc_17 h
      refine Y_aload_n (pc := 20) hC d_Mo_checkFar_20 rfl 0 rfl ?_
      refine Y_getR (pc := 21) hC sm_0 fl_Mo_54 rfl d_Mo_checkFar_21 ?_
      refine Y_iload_n (pc := 24) hC d_Mo_checkFar_24 rfl 2 rfl ?_
      obtain ⟨hi, h⟩ := ck_some h
      refine Y_iald (pc := 25) hC sm_15 rfl hi d_Mo_checkFar_25 ?_
      refine Y_iload_n (pc := 26) hC d_Mo_checkFar_26 rfl 1 rfl ?_
      refine Y_icmp_ne (pc := 27) hC 133 d_Mo_checkFar_27 rfl (fun cc_27 => ?_) (fun cc_27 => ?_)
      · have h := ifn cc_27 h
        refine Y_iinc (pc := 133) hC (v := x2 + 1) (L' := [(2, .int (x2 + 1)), (0, .ref (C.a 0)), (1, .int x1)]) d_Mo_checkFar_133 2 rfl rfl (by decide) rfl ?_
        refine Y_goto (pc := 136) hC 12 d_Mo_checkFar_136 rfl ?_
        refine Y_sub (pc := 12) [1, 2, 0] rfl ?_
        exact ih _ _ h
      · have h := ifp cc_27 h
        refine Y_aload_n (pc := 30) hC d_Mo_checkFar_30 rfl 0 rfl ?_
        refine Y_getR (pc := 31) hC sm_0 fl_Mo_60 rfl d_Mo_checkFar_31 ?_
        refine Y_iload_n (pc := 34) hC d_Mo_checkFar_34 rfl 2 rfl ?_
        obtain ⟨hi, h⟩ := ck_some h
        refine Y_iald (pc := 35) hC sm_17 rfl hi d_Mo_checkFar_35 ?_
        refine Y_iconst (pc := 36) hC d_Mo_checkFar_36 ki_4 ?_
        refine Y_icmp_ne (pc := 37) hC 133 d_Mo_checkFar_37 rfl (fun cc_37 => ?_) (fun cc_37 => ?_)
        · have h := ifn cc_37 h
          refine Y_iinc (pc := 133) hC (v := x2 + 1) (L' := [(2, .int (x2 + 1)), (0, .ref (C.a 0)), (1, .int x1)]) d_Mo_checkFar_133 2 rfl rfl (by decide) rfl ?_
          refine Y_goto (pc := 136) hC 12 d_Mo_checkFar_136 rfl ?_
          refine Y_sub (pc := 12) [1, 2, 0] rfl ?_
          exact ih _ _ h
        · have h := ifp cc_37 h
          refine Y_aload_n (pc := 40) hC d_Mo_checkFar_40 rfl 0 rfl ?_
          refine Y_iload_n (pc := 41) hC d_Mo_checkFar_41 rfl 1 rfl ?_
          obtain ⟨r1, V1, hc_r1, h⟩ := cl_some h
          refine Y_callV (pc := 42) hC (c_Mo_stays C.l C.D C.cI C.cZ C.a hc_r1) (fun q => nomatch q) sm_0 cls_Mo ml_Mo_226 mv_Mo_stays (by decide) (Nat.le_of_ble_eq_true rfl) rfl d_Mo_checkFar_42 ?_
          refine Y_if_ne (pc := 45) hC 51 d_Mo_checkFar_45 rfl (fun cc_45 => ?_) (fun cc_45 => ?_)
          · have h := ifn cc_45 h
            refine Y_aload_n (pc := 51) hC d_Mo_checkFar_51 rfl 0 rfl ?_
            refine Y_getR (pc := 52) hC sm_0 fl_Mo_109 rfl d_Mo_checkFar_52 ?_
            refine Y_iload_n (pc := 55) hC d_Mo_checkFar_55 rfl 2 rfl ?_
            obtain ⟨hi, h⟩ := ck_some h
            refine Y_iald (pc := 56) hC sm_30 rfl hi d_Mo_checkFar_56 ?_
            refine Y_iconst (pc := 57) hC d_Mo_checkFar_57 ki_m1 ?_
            refine Y_icmp_eq (pc := 58) hC 97 d_Mo_checkFar_58 rfl (fun cc_58 => ?_) (fun cc_58 => ?_)
            · have h := ifp cc_58 h
              refine Y_aload_n (pc := 97) hC d_Mo_checkFar_97 rfl 0 rfl ?_
              refine Y_getR (pc := 98) hC sm_0 fl_Mo_16 rfl d_Mo_checkFar_98 ?_
              refine Y_iload_n (pc := 101) hC d_Mo_checkFar_101 rfl 1 rfl ?_
              obtain ⟨hi, h⟩ := ck_some h
              refine Y_iald (pc := 102) hC sm_3 rfl hi d_Mo_checkFar_102 ?_
              refine Y_iconst (pc := 103) hC d_Mo_checkFar_103 ki_1 ?_
              refine Y_icmp_ne (pc := 104) hC 119 d_Mo_checkFar_104 rfl (fun cc_104 => ?_) (fun cc_104 => ?_)
              · have h := ifn cc_104 h
                refine Y_iconst (pc := 119) hC d_Mo_checkFar_119 ki_0 ?_
                refine Y_istore_n (pc := 120) hC (L' := [(3, .int 0), (0, .ref (C.a 0)), (1, .int x1), (2, .int x2)]) d_Mo_checkFar_120 rfl (by decide) rfl ?_
                refine Y_iload_n (pc := 121) hC d_Mo_checkFar_121 rfl 0 rfl ?_
                refine Y_if_eq (pc := 122) hC 133 d_Mo_checkFar_122 rfl (fun _ => ?_) (fun q => absurd q (by decide))
                refine Y_iinc (pc := 133) hC (v := x2 + 1) (L' := [(2, .int (x2 + 1)), (3, .int 0), (0, .ref (C.a 0)), (1, .int x1)]) d_Mo_checkFar_133 3 rfl rfl (by decide) rfl ?_
                refine Y_goto (pc := 136) hC 12 d_Mo_checkFar_136 rfl ?_
                refine Y_sub (pc := 12) [2, 3, 0] rfl ?_
                exact ih _ _ h
              · have h := ifp cc_104 h
                refine Y_aload_n (pc := 107) hC d_Mo_checkFar_107 rfl 0 rfl ?_
                refine Y_iload_n (pc := 108) hC d_Mo_checkFar_108 rfl 2 rfl ?_
                obtain ⟨r2, V2, hc_r2, h⟩ := cl_some h
                refine Y_callV (pc := 109) hC (c_Mo_isNearTarget C.l C.D C.cI C.cZ C.a hc_r2) (fun q => nomatch q) sm_0 cls_Mo ml_Mo_266 mv_Mo_isNearTarget (by decide) (Nat.le_of_ble_eq_true rfl) rfl d_Mo_checkFar_109 ?_
                refine Y_if_ne (pc := 112) hC 119 d_Mo_checkFar_112 rfl (fun cc_112 => ?_) (fun cc_112 => ?_)
                · have h := ifn cc_112 h
                  refine Y_iconst (pc := 119) hC d_Mo_checkFar_119 ki_0 ?_
                  refine Y_istore_n (pc := 120) hC (L' := [(3, .int 0), (0, .ref (C.a 0)), (1, .int x1), (2, .int x2)]) d_Mo_checkFar_120 rfl (by decide) rfl ?_
                  refine Y_iload_n (pc := 121) hC d_Mo_checkFar_121 rfl 0 rfl ?_
                  refine Y_if_eq (pc := 122) hC 133 d_Mo_checkFar_122 rfl (fun _ => ?_) (fun q => absurd q (by decide))
                  refine Y_iinc (pc := 133) hC (v := x2 + 1) (L' := [(2, .int (x2 + 1)), (3, .int 0), (0, .ref (C.a 0)), (1, .int x1)]) d_Mo_checkFar_133 3 rfl rfl (by decide) rfl ?_
                  refine Y_goto (pc := 136) hC 12 d_Mo_checkFar_136 rfl ?_
                  refine Y_sub (pc := 12) [2, 3, 0] rfl ?_
                  exact ih _ _ h
                · have h := ifp cc_112 h
                  refine Y_iconst (pc := 115) hC d_Mo_checkFar_115 ki_1 ?_
                  refine Y_goto (pc := 116) hC 120 d_Mo_checkFar_116 rfl ?_
                  refine Y_istore_n (pc := 120) hC (L' := [(3, .int 1), (0, .ref (C.a 0)), (1, .int x1), (2, .int x2)]) d_Mo_checkFar_120 rfl (by decide) rfl ?_
                  refine Y_iload_n (pc := 121) hC d_Mo_checkFar_121 rfl 0 rfl ?_
                  refine Y_if_eq (pc := 122) hC 133 d_Mo_checkFar_122 rfl (fun q => absurd q (by decide)) (fun _ => ?_)
                  refine Y_sub (pc := 125) [1, 3] rfl ?_
                  exact hk125 _ _ h
            · have h := ifn cc_58 h
              refine Y_aload_n (pc := 61) hC d_Mo_checkFar_61 rfl 0 rfl ?_
              refine Y_aload_n (pc := 62) hC d_Mo_checkFar_62 rfl 0 rfl ?_
              refine Y_getR (pc := 63) hC sm_0 fl_Mo_109 rfl d_Mo_checkFar_63 ?_
              refine Y_iload_n (pc := 66) hC d_Mo_checkFar_66 rfl 2 rfl ?_
              obtain ⟨hi, h⟩ := ck_some h
              refine Y_iald (pc := 67) hC sm_30 rfl hi d_Mo_checkFar_67 ?_
              obtain ⟨r3, V3, hc_r3, h⟩ := cl_some h
              refine Y_callV (pc := 68) hC (c_Mo_islandAt C.l C.D C.cI C.cZ C.a hc_r3) (fun q => nomatch q) sm_0 cls_Mo ml_Mo_279 mv_Mo_islandAt (by decide) (Nat.le_of_ble_eq_true rfl) rfl d_Mo_checkFar_68 ?_
              refine Y_i2l (pc := 71) hC d_Mo_checkFar_71 ?_
              refine Y_aload_n (pc := 72) hC d_Mo_checkFar_72 rfl 0 rfl ?_
              refine Y_iload_n (pc := 73) hC d_Mo_checkFar_73 rfl 2 rfl ?_
              obtain ⟨r4, V4, hc_r4, h⟩ := cl_some h
              refine Y_callV (pc := 74) hC (c_Mo_placeAt C.l C.D C.cI C.cZ C.a hc_r4) (fun q => nomatch q) sm_0 cls_Mo ml_Mo_259 mv_Mo_placeAt (by decide) (Nat.le_of_ble_eq_true rfl) rfl d_Mo_checkFar_74 ?_
              refine Y_i2l (pc := 77) hC d_Mo_checkFar_77 ?_
              refine Y_lsub (pc := 78) hC d_Mo_checkFar_78 ?_
              refine Y_ldc2 (pc := 79) hC kd_Mo_250 d_Mo_checkFar_79 ?_
              refine Y_lsub (pc := 82) hC d_Mo_checkFar_82 ?_
              obtain ⟨r5, V5, hc_r5, h⟩ := cl_some h
              refine Y_callS (pc := 83) hC (c_Mo_isNear C.l C.D C.cI C.cZ C.a hc_r5) (fun q => nomatch q) ml_Mo_262 ms_Mo_isNear (by decide) (Nat.le_of_ble_eq_true rfl) rfl d_Mo_checkFar_83 ?_
              refine Y_if_ne (pc := 86) hC 93 d_Mo_checkFar_86 rfl (fun cc_86 => ?_) (fun cc_86 => ?_)
              · have h := ifn cc_86 h
                refine Y_iconst (pc := 93) hC d_Mo_checkFar_93 ki_0 ?_
                refine Y_goto (pc := 94) hC 120 d_Mo_checkFar_94 rfl ?_
                refine Y_istore_n (pc := 120) hC (L' := [(3, .int 0), (0, .ref (C.a 0)), (1, .int x1), (2, .int x2)]) d_Mo_checkFar_120 rfl (by decide) rfl ?_
                refine Y_iload_n (pc := 121) hC d_Mo_checkFar_121 rfl 0 rfl ?_
                refine Y_if_eq (pc := 122) hC 133 d_Mo_checkFar_122 rfl (fun _ => ?_) (fun q => absurd q (by decide))
                refine Y_iinc (pc := 133) hC (v := x2 + 1) (L' := [(2, .int (x2 + 1)), (3, .int 0), (0, .ref (C.a 0)), (1, .int x1)]) d_Mo_checkFar_133 3 rfl rfl (by decide) rfl ?_
                refine Y_goto (pc := 136) hC 12 d_Mo_checkFar_136 rfl ?_
                refine Y_sub (pc := 12) [2, 3, 0] rfl ?_
                exact ih _ _ h
              · have h := ifp cc_86 h
                refine Y_iconst (pc := 89) hC d_Mo_checkFar_89 ki_1 ?_
                refine Y_goto (pc := 90) hC 120 d_Mo_checkFar_90 rfl ?_
                refine Y_istore_n (pc := 120) hC (L' := [(3, .int 1), (0, .ref (C.a 0)), (1, .int x1), (2, .int x2)]) d_Mo_checkFar_120 rfl (by decide) rfl ?_
                refine Y_iload_n (pc := 121) hC d_Mo_checkFar_121 rfl 0 rfl ?_
                refine Y_if_eq (pc := 122) hC 133 d_Mo_checkFar_122 rfl (fun q => absurd q (by decide)) (fun _ => ?_)
                refine Y_sub (pc := 125) [1, 3] rfl ?_
                exact hk125 _ _ h
          · have h := ifp cc_45 h
            refine Y_goto (pc := 48) hC 133 d_Mo_checkFar_48 rfl ?_
            refine Y_iinc (pc := 133) hC (v := x2 + 1) (L' := [(2, .int (x2 + 1)), (0, .ref (C.a 0)), (1, .int x1)]) d_Mo_checkFar_133 2 rfl rfl (by decide) rfl ?_
            refine Y_goto (pc := 136) hC 12 d_Mo_checkFar_136 rfl ?_
            refine Y_sub (pc := 12) [1, 2, 0] rfl ?_
            exact ih _ _ h
set_option maxHeartbeats 4000000 in
set_option maxRecDepth 100000 in
theorem ylp_Mo_checkFar_2 {C : YC} {r : Int32} {V' : Sto} {k125 : Int32 → Sto → RT} {k145 : Sto → RT} (hC : YF C R_Mo b_Mo_checkFar 4 rm_Mo_checkFar) (hw : YWr C shpM) (hE : YEi C .boolean shpM r V') (hk125 : ∀ (y2 : Int32) (V1 : Sto), k125 y2 V1 = some (r, V') → Y C shpM 4 125 [(0, .ref (C.a 0)), (2, .int y2)] [] V1) (hk145 : ∀ (V1 : Sto), k145 V1 = some (r, V') → Y C shpM 4 145 [] [] V1) : ∀ (n : Nat) (x1 : Int32) (V : Sto), lp_Mo_checkFar_2 k125 k145 n x1 V = some (r, V') → Y C shpM 4 2 [(0, .ref (C.a 0)), (1, .int x1)] [] V := by
  intro n
  induction n with
  | zero =>
    intro x1 V h
    rw [lp_Mo_checkFar_2] at h
    cases h
  | succ n ih =>
    intro x1 V h
    rw [lp_Mo_checkFar_2] at h
    refine Y_iload_n (pc := 2) hC d_Mo_checkFar_2 rfl 1 rfl ?_
    refine Y_aload_n (pc := 3) hC d_Mo_checkFar_3 rfl 0 rfl ?_
    refine Y_getI (pc := 4) hC sm_0 fl_Mo_143 rfl d_Mo_checkFar_4 ?_
    refine Y_icmp_ge (pc := 7) hC 145 d_Mo_checkFar_7 rfl (fun cc_7 => ?_) (fun cc_7 => ?_)
    · have h := ifp cc_7 h
      refine Y_sub (pc := 145) [] rfl ?_
      exact hk145 _ h
    · have h := ifn cc_7 h
      refine Y_iconst (pc := 10) hC d_Mo_checkFar_10 ki_0 ?_
      refine Y_istore_n (pc := 11) hC (L' := [(2, .int 0), (0, .ref (C.a 0)), (1, .int x1)]) d_Mo_checkFar_11 rfl (by decide) rfl ?_
      refine Y_sub (pc := 12) [1, 2, 0] rfl ?_
      refine ylp_Mo_checkFar_12 hC hw hE (fun y1 V6 h => ?_) (fun V7 h => ?_) FU _ _ h
      · have h := h
        refine Y_sub (pc := 125) [0, 1] rfl ?_
        exact hk125 _ _ h
      · have h := h
        refine Y_iinc (pc := 139) hC (v := x1 + 1) (L' := [(1, .int (x1 + 1)), (0, .ref (C.a 0))]) d_Mo_checkFar_139 1 rfl rfl (by decide) rfl ?_
        refine Y_goto (pc := 142) hC 2 d_Mo_checkFar_142 rfl ?_
        refine Y_sub (pc := 2) [1, 0] rfl ?_
        exact ih _ _ h
set_option maxHeartbeats 4000000 in
set_option maxRecDepth 100000 in
theorem c_Mo_checkFar (l : Launch) (D : va_G) (cI cZ : ClassId) (a : Nat → Nat) {V : Sto} {r : Int32} {V' : Sto} (h : f_Mo_checkFar V = some (r, V')) : YMi l D cI cZ a shpM y_Mo_checkFar b_Mo_checkFar 4 (some .boolean) rm_Mo_checkFar true [.ref (a 0)] V r V' := by
  refine YMi_of (by decide) (Nat.le_of_ble_eq_true rfl) ?_
  intro C hl hDD hcI hcZ ha hC hw hE
  subst hl hDD hcI hcZ ha
  show Y C shpM 4 0 [(0, .ref (C.a 0))] [] V
  have hw := hw rfl
  rw [f_Mo_checkFar] at h
  refine Y_iconst (pc := 0) hC d_Mo_checkFar_0 ki_0 ?_
  refine Y_istore_n (pc := 1) hC (L' := [(1, .int 0), (0, .ref (C.a 0))]) d_Mo_checkFar_1 rfl (by decide) rfl ?_
  refine Y_sub (pc := 2) [1, 0] rfl ?_
  refine ylp_Mo_checkFar_2 hC hw hE (fun y2 V8 h => ?_) (fun V10 h => ?_) FU _ _ h
  · have h := h
    refine Y_aload_n (pc := 125) hC d_Mo_checkFar_125 rfl 0 rfl ?_
    refine Y_iconst (pc := 126) hC d_Mo_checkFar_126 ki_3 ?_
    refine Y_iconst (pc := 127) hC d_Mo_checkFar_127 ki_m1 ?_
    refine Y_iload_n (pc := 128) hC d_Mo_checkFar_128 rfl 1 rfl ?_
    obtain ⟨r6, V9, hc_r6, h⟩ := cl_some h
    refine Y_callV (pc := 129) hC (c_Mo_fail C.l C.D C.cI C.cZ C.a hc_r6) (fun _ => hw) sm_0 cls_Mo ml_Mo_188 mv_Mo_fail (by decide) (Nat.le_of_ble_eq_true rfl) rfl d_Mo_checkFar_129 ?_
    obtain ⟨hbb, h⟩ := ck_some h
    exact Y_zret (pc := 132) hC hE d_Mo_checkFar_132 hbb h
  · have h := h
    refine Y_iconst (pc := 145) hC d_Mo_checkFar_145 ki_1 ?_
    exact Y_zret (pc := 146) hC hE d_Mo_checkFar_146 rfl h
