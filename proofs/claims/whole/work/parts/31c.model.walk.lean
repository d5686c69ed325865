set_option maxHeartbeats 4000000 in
set_option maxRecDepth 100000 in
theorem c_Mo_symbol (l : Launch) (D : va_G) (cI cZ : ClassId) (a : Nat → Nat) {V : Sto} {p1 : Int32} {p2 : Int32} {p3 : Int32} {p4 : Int32} {r : Int32} {V' : Sto} (h : f_Mo_symbol V p1 p2 p3 p4 = some (r, V')) : YMi l D cI cZ a shpM y_Mo_symbol b_Mo_symbol 6 (some .int) rm_Mo_symbol true [.ref (a 0), .int p1, .int p2, .int p3, .int p4] V r V' := by
  refine YMi_of (by decide) (Nat.le_of_ble_eq_true rfl) ?_
  intro C hl hDD hcI hcZ ha hC hw hE
  subst hl hDD hcI hcZ ha
  show Y C shpM 6 0 [(0, .ref (C.a 0)), (1, .int p1), (2, .int p2), (3, .int p3), (4, .int p4)] [] V
  have hw := hw rfl
  rw [f_Mo_symbol] at h
  refine Y_iload_n (pc := 0) hC d_Mo_symbol_0 rfl 1 rfl ?_
  refine Y_iconst (pc := 1) hC d_Mo_symbol_1 ki_0 ?_
  refine Y_aload_n (pc := 2) hC d_Mo_symbol_2 rfl 0 rfl ?_
  refine Y_getI (pc := 3) hC sm_0 fl_Mo_143 rfl d_Mo_symbol_3 ?_
  refine Y_iconst (pc := 6) hC d_Mo_symbol_6 ki_1 ?_
  refine Y_isub (pc := 7) hC d_Mo_symbol_7 ?_
  obtain ⟨r1, V1, hc_r1, h⟩ := cl_some h
  refine Y_callS (pc := 8) hC (c_Mo_within C.l C.D C.cI C.cZ C.a hc_r1) (fun q => nomatch q) ml_Mo_125 ms_Mo_within (by decide) (Nat.le_of_ble_eq_true rfl) rfl d_Mo_symbol_8 ?_
  obtain ⟨j1, hj1, h⟩ := jn_some h
  have kj1 : ∀ (z2 : Int32) (V5 : Sto), j1 z2 V5 = some (r, V') → Y C shpM 6 70 [(0, .ref (C.a 0)), (1, .int p1), (2, .int p2), (3, .int p3), (4, .int p4)] [.int z2] V5 := by
    intro z2 V5 h
    subst hj1
    dsimp only at h
    refine Y_istore (pc := 70) hC (L' := [(5, .int z2), (0, .ref (C.a 0)), (1, .int p1), (2, .int p2), (3, .int p3), (4, .int p4)]) d_Mo_symbol_70 (by decide) rfl ?_
    refine Y_iload (pc := 72) hC d_Mo_symbol_72 0 rfl ?_
    obtain ⟨j3, hj3, h⟩ := jn_some h
    have kj3 : ∀ (z3 : Int32) (V7 : Sto), j3 z3 V7 = some (r, V') → Y C shpM 6 98 [(0, .ref (C.a 0)), (1, .int p1), (2, .int p2), (3, .int p3), (4, .int p4)] [.int z3] V7 := by
      intro z3 V7 h
      subst hj3
      dsimp only at h
      refine Y_istore (pc := 98) hC (L' := [(5, .int z3), (0, .ref (C.a 0)), (1, .int p1), (2, .int p2), (3, .int p3), (4, .int p4)]) d_Mo_symbol_98 (by decide) rfl ?_
      refine Y_aload_n (pc := 100) hC d_Mo_symbol_100 rfl 1 rfl ?_
      refine Y_iload (pc := 101) hC d_Mo_symbol_101 0 rfl ?_
      obtain ⟨j4, hj4, h⟩ := jn_some h
      have kj4 : ∀ (z4 : Int32), j4 z4 = some (r, V') → Y C shpM 6 111 [(0, .ref (C.a 0)), (1, .int p1), (2, .int p2), (3, .int p3), (4, .int p4), (5, .int z3)] [.int z4, .ref (C.a 0)] V7 := by
        intro z4 h
        subst hj4
        dsimp only at h
        refine Y_iload (pc := 111) hC d_Mo_symbol_111 5 rfl ?_
        obtain ⟨j5, hj5, h⟩ := jn_some h
        have kj5 : ∀ (z5 : Int32), j5 z5 = some (r, V') → Y C shpM 6 131 [(0, .ref (C.a 0)), (1, .int p1), (2, .int p2), (3, .int p3), (4, .int p4)] [.int z5, .int z4, .ref (C.a 0)] V7 := by
          intro z5 h
          subst hj5
          dsimp only at h
          obtain ⟨r6, V8, hc_r6, h⟩ := cl_some h
          refine Y_callV (pc := 131) hC (c_Mo_refuse C.l C.D C.cI C.cZ C.a hc_r6) (fun _ => hw) sm_0 cls_Mo ml_Mo_132 mv_Mo_refuse (by decide) (Nat.le_of_ble_eq_true rfl) rfl d_Mo_symbol_131 ?_
          refine Y_if_eq (pc := 134) hC 139 d_Mo_symbol_134 rfl (fun cc_134 => ?_) (fun cc_134 => ?_)
          · have h := ifp cc_134 h
            refine Y_aload_n (pc := 139) hC d_Mo_symbol_139 rfl 0 rfl ?_
            refine Y_aload_n (pc := 140) hC d_Mo_symbol_140 rfl 0 rfl ?_
            refine Y_getR (pc := 141) hC sm_0 fl_Mo_13 rfl d_Mo_symbol_141 ?_
            refine Y_iload_n (pc := 144) hC d_Mo_symbol_144 rfl 1 rfl ?_
            obtain ⟨hi, h⟩ := ck_some h
            refine Y_iald (pc := 145) hC sm_2 rfl hi d_Mo_symbol_145 ?_
            refine Y_iconst (pc := 146) hC d_Mo_symbol_146 ki_0 ?_
            refine Y_iload_n (pc := 147) hC d_Mo_symbol_147 rfl 1 rfl ?_
            refine Y_iload_n (pc := 148) hC d_Mo_symbol_148 rfl 2 rfl ?_
            refine Y_iload_n (pc := 149) hC d_Mo_symbol_149 rfl 3 rfl ?_
            refine Y_iload (pc := 150) hC d_Mo_symbol_150 4 rfl ?_
            obtain ⟨r7, V9, hc_r7, h⟩ := cl_some h
            refine Y_callV (pc := 152) hC (c_Mo_newSymbol C.l C.D C.cI C.cZ C.a hc_r7) (fun _ => hw) sm_0 cls_Mo ml_Mo_163 mv_Mo_newSymbol (by decide) (Nat.le_of_ble_eq_true rfl) rfl d_Mo_symbol_152 ?_
            exact Y_iret (pc := 155) hC hE d_Mo_symbol_155 h
          · have h := ifn cc_134 h
            refine Y_iconst (pc := 137) hC d_Mo_symbol_137 ki_0 ?_
            exact Y_iret (pc := 138) hC hE d_Mo_symbol_138 h
        refine Y_if_eq (pc := 113) hC 130 d_Mo_symbol_113 rfl (fun cc_113 => ?_) (fun cc_113 => ?_)
        · have h := ifp cc_113 h
          refine Y_iconst (pc := 130) hC d_Mo_symbol_130 ki_0 ?_
          refine Y_sub (pc := 131) [0, 1, 2, 3, 4] rfl ?_
          exact kj5 _ h
        · have h := ifn cc_113 h
          refine Y_aload_n (pc := 116) hC d_Mo_symbol_116 rfl 0 rfl ?_
          refine Y_getI (pc := 117) hC sm_0 fl_Mo_157 rfl d_Mo_symbol_117 ?_
          refine Y_sipush (pc := 120) hC d_Mo_symbol_120 ks_400 ?_
          refine Y_icmp_ne (pc := 123) hC 130 d_Mo_symbol_123 rfl (fun cc_123 => ?_) (fun cc_123 => ?_)
          · have h := ifn cc_123 h
            refine Y_iconst (pc := 130) hC d_Mo_symbol_130 ki_0 ?_
            refine Y_sub (pc := 131) [0, 1, 2, 3, 4] rfl ?_
            exact kj5 _ h
          · have h := ifp cc_123 h
            refine Y_iconst (pc := 126) hC d_Mo_symbol_126 ki_1 ?_
            refine Y_goto (pc := 127) hC 131 d_Mo_symbol_127 rfl ?_
            refine Y_sub (pc := 131) [0, 1, 2, 3, 4] rfl ?_
            exact kj5 _ h
      refine Y_if_ne (pc := 103) hC 110 d_Mo_symbol_103 rfl (fun cc_103 => ?_) (fun cc_103 => ?_)
      · have h := ifn cc_103 h
        refine Y_iconst (pc := 110) hC d_Mo_symbol_110 ki_0 ?_
        refine Y_sub (pc := 111) [1, 2, 3, 4, 5, 0] rfl ?_
        exact kj4 _ h
      · have h := ifp cc_103 h
        refine Y_iconst (pc := 106) hC d_Mo_symbol_106 ki_1 ?_
        refine Y_goto (pc := 107) hC 111 d_Mo_symbol_107 rfl ?_
        refine Y_sub (pc := 111) [1, 2, 3, 4, 5, 0] rfl ?_
        exact kj4 _ h
    refine Y_if_eq (pc := 74) hC 97 d_Mo_symbol_74 rfl (fun cc_74 => ?_) (fun cc_74 => ?_)
    · have h := ifp cc_74 h
      refine Y_iconst (pc := 97) hC d_Mo_symbol_97 ki_0 ?_
      refine Y_sub (pc := 98) [1, 2, 3, 4, 5] rfl ?_
      exact kj3 _ _ h
    · have h := ifn cc_74 h
      refine Y_aload_n (pc := 77) hC d_Mo_symbol_77 rfl 1 rfl ?_
      refine Y_aload_n (pc := 78) hC d_Mo_symbol_78 rfl 1 rfl ?_
      refine Y_getR (pc := 79) hC sm_0 fl_Mo_13 rfl d_Mo_symbol_79 ?_
      refine Y_iload_n (pc := 82) hC d_Mo_symbol_82 rfl 2 rfl ?_
      obtain ⟨hi, h⟩ := ck_some h
      refine Y_iald (pc := 83) hC sm_2 rfl hi d_Mo_symbol_83 ?_
      refine Y_iload_n (pc := 84) hC d_Mo_symbol_84 rfl 4 rfl ?_
      refine Y_iload (pc := 85) hC d_Mo_symbol_85 5 rfl ?_
      obtain ⟨r5, V6, hc_r5, h⟩ := cl_some h
      refine Y_callV (pc := 87) hC (c_Mo_hasName C.l C.D C.cI C.cZ C.a hc_r5) (fun q => nomatch q) sm_0 cls_Mo ml_Mo_160 mv_Mo_hasName (by decide) (Nat.le_of_ble_eq_true rfl) rfl d_Mo_symbol_87 ?_
      refine Y_if_ne (pc := 90) hC 97 d_Mo_symbol_90 rfl (fun cc_90 => ?_) (fun cc_90 => ?_)
      · have h := ifn cc_90 h
        refine Y_iconst (pc := 97) hC d_Mo_symbol_97 ki_0 ?_
        refine Y_sub (pc := 98) [1, 2, 3, 4, 5] rfl ?_
        exact kj3 _ _ h
      · have h := ifp cc_90 h
        refine Y_iconst (pc := 93) hC d_Mo_symbol_93 ki_1 ?_
        refine Y_goto (pc := 94) hC 98 d_Mo_symbol_94 rfl ?_
        refine Y_sub (pc := 98) [1, 2, 3, 4, 5] rfl ?_
        exact kj3 _ _ h
  refine Y_if_eq (pc := 11) hC 69 d_Mo_symbol_11 rfl (fun cc_11 => ?_) (fun cc_11 => ?_)
  · have h := ifp cc_11 h
    refine Y_iconst (pc := 69) hC d_Mo_symbol_69 ki_0 ?_
    refine Y_sub (pc := 70) [0, 1, 2, 3, 4] rfl ?_
    exact kj1 _ _ h
  · have h := ifn cc_11 h
    refine Y_iload_n (pc := 14) hC d_Mo_symbol_14 rfl 2 rfl ?_
    refine Y_iconst (pc := 15) hC d_Mo_symbol_15 ki_0 ?_
    refine Y_iload_n (pc := 16) hC d_Mo_symbol_16 rfl 1 rfl ?_
    obtain ⟨j2, hj2, h⟩ := jn_some h
    have kj2 : ∀ (z1 : Int32), j2 z1 = some (r, V') → Y C shpM 6 38 [(0, .ref (C.a 0)), (1, .int p1), (2, .int p2), (3, .int p3), (4, .int p4)] [.int z1, .int 0, .int p2] V1 := by
      intro z1 h
      subst hj2
      dsimp only at h
      obtain ⟨r2, V2, hc_r2, h⟩ := cl_some h
      refine Y_callS (pc := 38) hC (c_Mo_within C.l C.D C.cI C.cZ C.a hc_r2) (fun q => nomatch q) ml_Mo_125 ms_Mo_within (by decide) (Nat.le_of_ble_eq_true rfl) rfl d_Mo_symbol_38 ?_
      refine Y_if_eq (pc := 41) hC 69 d_Mo_symbol_41 rfl (fun cc_41 => ?_) (fun cc_41 => ?_)
      · have h := ifp cc_41 h
        refine Y_iconst (pc := 69) hC d_Mo_symbol_69 ki_0 ?_
        refine Y_sub (pc := 70) [0, 1, 2, 3, 4] rfl ?_
        exact kj1 _ _ h
      · have h := ifn cc_41 h
        refine Y_iload_n (pc := 44) hC d_Mo_symbol_44 rfl 3 rfl ?_
        refine Y_iconst (pc := 45) hC d_Mo_symbol_45 ki_0 ?_
        refine Y_sipush (pc := 46) hC d_Mo_symbol_46 ks_199 ?_
        obtain ⟨r3, V3, hc_r3, h⟩ := cl_some h
        refine Y_callS (pc := 49) hC (c_Mo_within C.l C.D C.cI C.cZ C.a hc_r3) (fun q => nomatch q) ml_Mo_125 ms_Mo_within (by decide) (Nat.le_of_ble_eq_true rfl) rfl d_Mo_symbol_49 ?_
        refine Y_if_eq (pc := 52) hC 69 d_Mo_symbol_52 rfl (fun cc_52 => ?_) (fun cc_52 => ?_)
        · have h := ifp cc_52 h
          refine Y_iconst (pc := 69) hC d_Mo_symbol_69 ki_0 ?_
          refine Y_sub (pc := 70) [0, 1, 2, 3, 4] rfl ?_
          exact kj1 _ _ h
        · have h := ifn cc_52 h
          refine Y_iload (pc := 55) hC d_Mo_symbol_55 4 rfl ?_
          refine Y_iconst (pc := 57) hC d_Mo_symbol_57 ki_0 ?_
          refine Y_iconst (pc := 58) hC d_Mo_symbol_58 ki_2 ?_
          obtain ⟨r4, V4, hc_r4, h⟩ := cl_some h
          refine Y_callS (pc := 59) hC (c_Mo_within C.l C.D C.cI C.cZ C.a hc_r4) (fun q => nomatch q) ml_Mo_125 ms_Mo_within (by decide) (Nat.le_of_ble_eq_true rfl) rfl d_Mo_symbol_59 ?_
          refine Y_if_eq (pc := 62) hC 69 d_Mo_symbol_62 rfl (fun cc_62 => ?_) (fun cc_62 => ?_)
          · have h := ifp cc_62 h
            refine Y_iconst (pc := 69) hC d_Mo_symbol_69 ki_0 ?_
            refine Y_sub (pc := 70) [0, 1, 2, 3, 4] rfl ?_
            exact kj1 _ _ h
          · have h := ifn cc_62 h
            refine Y_iconst (pc := 65) hC d_Mo_symbol_65 ki_1 ?_
            refine Y_goto (pc := 66) hC 70 d_Mo_symbol_66 rfl ?_
            refine Y_sub (pc := 70) [0, 1, 2, 3, 4] rfl ?_
            exact kj1 _ _ h
    refine Y_if_lt (pc := 17) hC 37 d_Mo_symbol_17 rfl (fun cc_17 => ?_) (fun cc_17 => ?_)
    · have h := ifp cc_17 h
      refine Y_iconst (pc := 37) hC d_Mo_symbol_37 ki_0 ?_
      refine Y_sub (pc := 38) [0, 1, 2, 3, 4] rfl ?_
      exact kj2 _ h
    · have h := ifn cc_17 h
      refine Y_iload_n (pc := 20) hC d_Mo_symbol_20 rfl 1 rfl ?_
      refine Y_aload_n (pc := 21) hC d_Mo_symbol_21 rfl 0 rfl ?_
      refine Y_getI (pc := 22) hC sm_0 fl_Mo_143 rfl d_Mo_symbol_22 ?_
      refine Y_icmp_ge (pc := 25) hC 37 d_Mo_symbol_25 rfl (fun cc_25 => ?_) (fun cc_25 => ?_)
      · have h := ifp cc_25 h
        refine Y_iconst (pc := 37) hC d_Mo_symbol_37 ki_0 ?_
        refine Y_sub (pc := 38) [0, 1, 2, 3, 4] rfl ?_
        exact kj2 _ h
      · have h := ifn cc_25 h
        refine Y_aload_n (pc := 28) hC d_Mo_symbol_28 rfl 0 rfl ?_
        refine Y_getR (pc := 29) hC sm_0 fl_Mo_19 rfl d_Mo_symbol_29 ?_
        refine Y_iload_n (pc := 32) hC d_Mo_symbol_32 rfl 1 rfl ?_
        obtain ⟨hi, h⟩ := ck_some h
        refine Y_iald (pc := 33) hC sm_4 rfl hi d_Mo_symbol_33 ?_
        refine Y_goto (pc := 34) hC 38 d_Mo_symbol_34 rfl ?_
        refine Y_sub (pc := 38) [0, 1, 2, 3, 4] rfl ?_
        exact kj2 _ h
set_option maxHeartbeats 4000000 in
set_option maxRecDepth 100000 in
theorem c_Mo_other (l : Launch) (D : va_G) (cI cZ : ClassId) (a : Nat → Nat) {V : Sto} {p1 : Int32} {p2 : Int32} {p3 : Int32} {p4 : Int32} {p5 : Int32} {r : Int32} {V' : Sto} (h : f_Mo_other V p1 p2 p3 p4 p5 = some (r, V')) : YMi l D cI cZ a shpM y_Mo_other b_Mo_other 7 (some .int) rm_Mo_other true [.ref (a 0), .int p1, .int p2, .int p3, .int p4, .int p5] V r V' := by
  refine YMi_of (by decide) (Nat.le_of_ble_eq_true rfl) ?_
  intro C hl hDD hcI hcZ ha hC hw hE
  subst hl hDD hcI hcZ ha
  show Y C shpM 7 0 [(0, .ref (C.a 0)), (1, .int p1), (2, .int p2), (3, .int p3), (4, .int p4), (5, .int p5)] [] V
  have hw := hw rfl
  rw [f_Mo_other] at h
  refine Y_iload_n (pc := 0) hC d_Mo_other_0 rfl 1 rfl ?_
  refine Y_iconst (pc := 1) hC d_Mo_other_1 ki_0 ?_
  refine Y_aload_n (pc := 2) hC d_Mo_other_2 rfl 0 rfl ?_
  refine Y_getI (pc := 3) hC sm_0 fl_Mo_129 rfl d_Mo_other_3 ?_
  refine Y_iconst (pc := 6) hC d_Mo_other_6 ki_1 ?_
  refine Y_isub (pc := 7) hC d_Mo_other_7 ?_
  obtain ⟨r1, V1, hc_r1, h⟩ := cl_some h
  refine Y_callS (pc := 8) hC (c_Mo_within C.l C.D C.cI C.cZ C.a hc_r1) (fun q => nomatch q) ml_Mo_125 ms_Mo_within (by decide) (Nat.le_of_ble_eq_true rfl) rfl d_Mo_other_8 ?_
  obtain ⟨j1, hj1, h⟩ := jn_some h
  have kj1 : ∀ (z1 : Int32) (V4 : Sto), j1 z1 V4 = some (r, V') → Y C shpM 7 40 [(0, .ref (C.a 0)), (1, .int p1), (2, .int p2), (3, .int p3), (4, .int p4), (5, .int p5)] [.int z1] V4 := by
    intro z1 V4 h
    subst hj1
    dsimp only at h
    refine Y_istore (pc := 40) hC (L' := [(6, .int z1), (0, .ref (C.a 0)), (1, .int p1), (2, .int p2), (3, .int p3), (4, .int p4), (5, .int p5)]) d_Mo_other_40 (by decide) rfl ?_
    refine Y_iload (pc := 42) hC d_Mo_other_42 0 rfl ?_
    obtain ⟨j2, hj2, h⟩ := jn_some h
    have kj2 : ∀ (z2 : Int32) (V8 : Sto), j2 z2 V8 = some (r, V') → Y C shpM 7 110 [(0, .ref (C.a 0)), (1, .int p1), (2, .int p2), (3, .int p3), (4, .int p4), (5, .int p5)] [.int z2] V8 := by
      intro z2 V8 h
      subst hj2
      dsimp only at h
      refine Y_istore (pc := 110) hC (L' := [(6, .int z2), (0, .ref (C.a 0)), (1, .int p1), (2, .int p2), (3, .int p3), (4, .int p4), (5, .int p5)]) d_Mo_other_110 (by decide) rfl ?_
      refine Y_iload (pc := 112) hC d_Mo_other_112 0 rfl ?_
      obtain ⟨j3, hj3, h⟩ := jn_some h
      have kj3 : ∀ (z3 : Int32) (V10 : Sto), j3 z3 V10 = some (r, V') → Y C shpM 7 134 [(0, .ref (C.a 0)), (1, .int p1), (2, .int p2), (3, .int p3), (4, .int p4), (5, .int p5)] [.int z3] V10 := by
        intro z3 V10 h
        subst hj3
        dsimp only at h
        refine Y_istore (pc := 134) hC (L' := [(6, .int z3), (0, .ref (C.a 0)), (1, .int p1), (2, .int p2), (3, .int p3), (4, .int p4), (5, .int p5)]) d_Mo_other_134 (by decide) rfl ?_
        refine Y_aload_n (pc := 136) hC d_Mo_other_136 rfl 1 rfl ?_
        refine Y_iload (pc := 137) hC d_Mo_other_137 0 rfl ?_
        obtain ⟨j4, hj4, h⟩ := jn_some h
        have kj4 : ∀ (z4 : Int32), j4 z4 = some (r, V') → Y C shpM 7 147 [(0, .ref (C.a 0)), (1, .int p1), (2, .int p2), (3, .int p3), (4, .int p4), (5, .int p5), (6, .int z3)] [.int z4, .ref (C.a 0)] V10 := by
          intro z4 h
          subst hj4
          dsimp only at h
          refine Y_iload (pc := 147) hC d_Mo_other_147 6 rfl ?_
          obtain ⟨j5, hj5, h⟩ := jn_some h
          have kj5 : ∀ (z5 : Int32), j5 z5 = some (r, V') → Y C shpM 7 167 [(0, .ref (C.a 0)), (1, .int p1), (2, .int p2), (3, .int p3), (4, .int p4), (5, .int p5)] [.int z5, .int z4, .ref (C.a 0)] V10 := by
            intro z5 h
            subst hj5
            dsimp only at h
            obtain ⟨r8, V11, hc_r8, h⟩ := cl_some h
            refine Y_callV (pc := 167) hC (c_Mo_refuse C.l C.D C.cI C.cZ C.a hc_r8) (fun _ => hw) sm_0 cls_Mo ml_Mo_132 mv_Mo_refuse (by decide) (Nat.le_of_ble_eq_true rfl) rfl d_Mo_other_167 ?_
            refine Y_if_eq (pc := 170) hC 175 d_Mo_other_170 rfl (fun cc_170 => ?_) (fun cc_170 => ?_)
            · have h := ifp cc_170 h
              refine Y_aload_n (pc := 175) hC d_Mo_other_175 rfl 0 rfl ?_
              refine Y_iload_n (pc := 176) hC d_Mo_other_176 rfl 1 rfl ?_
              refine Y_iload_n (pc := 177) hC d_Mo_other_177 rfl 2 rfl ?_
              refine Y_if_ne (pc := 178) hC 185 d_Mo_other_178 rfl (fun cc_178 => ?_) (fun cc_178 => ?_)
              · have h := ifn cc_178 h
                refine Y_iload_n (pc := 185) hC d_Mo_other_185 rfl 2 rfl ?_
                refine Y_iconst (pc := 186) hC d_Mo_other_186 ki_1 ?_
                refine Y_icmp_ne (pc := 187) hC 194 d_Mo_other_187 rfl (fun cc_187 => ?_) (fun cc_187 => ?_)
                · have h := ifn cc_187 h
                  refine Y_iconst (pc := 194) hC d_Mo_other_194 ki_3 ?_
                  refine Y_iconst (pc := 195) hC d_Mo_other_195 ki_m1 ?_
                  refine Y_iload_n (pc := 196) hC d_Mo_other_196 rfl 3 rfl ?_
                  refine Y_iload (pc := 197) hC d_Mo_other_197 4 rfl ?_
                  refine Y_iload (pc := 199) hC d_Mo_other_199 5 rfl ?_
                  obtain ⟨r9, V12, hc_r9, h⟩ := cl_some h
                  refine Y_callV (pc := 201) hC (c_Mo_newSymbol C.l C.D C.cI C.cZ C.a hc_r9) (fun _ => hw) sm_0 cls_Mo ml_Mo_163 mv_Mo_newSymbol (by decide) (Nat.le_of_ble_eq_true rfl) rfl d_Mo_other_201 ?_
                  exact Y_iret (pc := 204) hC hE d_Mo_other_204 h
                · have h := ifp cc_187 h
                  refine Y_iconst (pc := 190) hC d_Mo_other_190 ki_2 ?_
                  refine Y_goto (pc := 191) hC 195 d_Mo_other_191 rfl ?_
                  refine Y_iconst (pc := 195) hC d_Mo_other_195 ki_m1 ?_
                  refine Y_iload_n (pc := 196) hC d_Mo_other_196 rfl 3 rfl ?_
                  refine Y_iload (pc := 197) hC d_Mo_other_197 4 rfl ?_
                  refine Y_iload (pc := 199) hC d_Mo_other_199 5 rfl ?_
                  obtain ⟨r10, V13, hc_r10, h⟩ := cl_some h
                  refine Y_callV (pc := 201) hC (c_Mo_newSymbol C.l C.D C.cI C.cZ C.a hc_r10) (fun _ => hw) sm_0 cls_Mo ml_Mo_163 mv_Mo_newSymbol (by decide) (Nat.le_of_ble_eq_true rfl) rfl d_Mo_other_201 ?_
                  exact Y_iret (pc := 204) hC hE d_Mo_other_204 h
              · have h := ifp cc_178 h
                refine Y_iconst (pc := 181) hC d_Mo_other_181 ki_1 ?_
                refine Y_goto (pc := 182) hC 195 d_Mo_other_182 rfl ?_
                refine Y_iconst (pc := 195) hC d_Mo_other_195 ki_m1 ?_
                refine Y_iload_n (pc := 196) hC d_Mo_other_196 rfl 3 rfl ?_
                refine Y_iload (pc := 197) hC d_Mo_other_197 4 rfl ?_
                refine Y_iload (pc := 199) hC d_Mo_other_199 5 rfl ?_
                obtain ⟨r11, V14, hc_r11, h⟩ := cl_some h
                refine Y_callV (pc := 201) hC (c_Mo_newSymbol C.l C.D C.cI C.cZ C.a hc_r11) (fun _ => hw) sm_0 cls_Mo ml_Mo_163 mv_Mo_newSymbol (by decide) (Nat.le_of_ble_eq_true rfl) rfl d_Mo_other_201 ?_
                exact Y_iret (pc := 204) hC hE d_Mo_other_204 h
            · have h := ifn cc_170 h
              refine Y_iconst (pc := 173) hC d_Mo_other_173 ki_0 ?_
              exact Y_iret (pc := 174) hC hE d_Mo_other_174 h
          refine Y_if_eq (pc := 149) hC 166 d_Mo_other_149 rfl (fun cc_149 => ?_) (fun cc_149 => ?_)
          · have h := ifp cc_149 h
            refine Y_iconst (pc := 166) hC d_Mo_other_166 ki_0 ?_
            refine Y_sub (pc := 167) [0, 1, 2, 3, 4, 5] rfl ?_
            exact kj5 _ h
          · have h := ifn cc_149 h
            refine Y_aload_n (pc := 152) hC d_Mo_other_152 rfl 0 rfl ?_
            refine Y_getI (pc := 153) hC sm_0 fl_Mo_157 rfl d_Mo_other_153 ?_
            refine Y_sipush (pc := 156) hC d_Mo_other_156 ks_400 ?_
            refine Y_icmp_ne (pc := 159) hC 166 d_Mo_other_159 rfl (fun cc_159 => ?_) (fun cc_159 => ?_)
            · have h := ifn cc_159 h
              refine Y_iconst (pc := 166) hC d_Mo_other_166 ki_0 ?_
              refine Y_sub (pc := 167) [0, 1, 2, 3, 4, 5] rfl ?_
              exact kj5 _ h
            · have h := ifp cc_159 h
              refine Y_iconst (pc := 162) hC d_Mo_other_162 ki_1 ?_
              refine Y_goto (pc := 163) hC 167 d_Mo_other_163 rfl ?_
              refine Y_sub (pc := 167) [0, 1, 2, 3, 4, 5] rfl ?_
              exact kj5 _ h
        refine Y_if_ne (pc := 139) hC 146 d_Mo_other_139 rfl (fun cc_139 => ?_) (fun cc_139 => ?_)
        · have h := ifn cc_139 h
          refine Y_iconst (pc := 146) hC d_Mo_other_146 ki_0 ?_
          refine Y_sub (pc := 147) [1, 2, 3, 4, 5, 6, 0] rfl ?_
          exact kj4 _ h
        · have h := ifp cc_139 h
          refine Y_iconst (pc := 142) hC d_Mo_other_142 ki_1 ?_
          refine Y_goto (pc := 143) hC 147 d_Mo_other_143 rfl ?_
          refine Y_sub (pc := 147) [1, 2, 3, 4, 5, 6, 0] rfl ?_
          exact kj4 _ h
      refine Y_if_eq (pc := 114) hC 133 d_Mo_other_114 rfl (fun cc_114 => ?_) (fun cc_114 => ?_)
      · have h := ifp cc_114 h
        refine Y_iconst (pc := 133) hC d_Mo_other_133 ki_0 ?_
        refine Y_sub (pc := 134) [1, 2, 3, 4, 5, 6] rfl ?_
        exact kj3 _ _ h
      · have h := ifn cc_114 h
        refine Y_aload_n (pc := 117) hC d_Mo_other_117 rfl 1 rfl ?_
        refine Y_iload_n (pc := 118) hC d_Mo_other_118 rfl 2 rfl ?_
        refine Y_iload (pc := 119) hC d_Mo_other_119 5 rfl ?_
        refine Y_iload (pc := 121) hC d_Mo_other_121 6 rfl ?_
        obtain ⟨r7, V9, hc_r7, h⟩ := cl_some h
        refine Y_callV (pc := 123) hC (c_Mo_hasName C.l C.D C.cI C.cZ C.a hc_r7) (fun q => nomatch q) sm_0 cls_Mo ml_Mo_160 mv_Mo_hasName (by decide) (Nat.le_of_ble_eq_true rfl) rfl d_Mo_other_123 ?_
        refine Y_if_ne (pc := 126) hC 133 d_Mo_other_126 rfl (fun cc_126 => ?_) (fun cc_126 => ?_)
        · have h := ifn cc_126 h
          refine Y_iconst (pc := 133) hC d_Mo_other_133 ki_0 ?_
          refine Y_sub (pc := 134) [1, 2, 3, 4, 5, 6] rfl ?_
          exact kj3 _ _ h
        · have h := ifp cc_126 h
          refine Y_iconst (pc := 129) hC d_Mo_other_129 ki_1 ?_
          refine Y_goto (pc := 130) hC 134 d_Mo_other_130 rfl ?_
          refine Y_sub (pc := 134) [1, 2, 3, 4, 5, 6] rfl ?_
          exact kj3 _ _ h
    refine Y_if_eq (pc := 44) hC 109 d_Mo_other_44 rfl (fun cc_44 => ?_) (fun cc_44 => ?_)
    · have h := ifp cc_44 h
      refine Y_iconst (pc := 109) hC d_Mo_other_109 ki_0 ?_
      refine Y_sub (pc := 110) [1, 2, 3, 4, 5, 6] rfl ?_
      exact kj2 _ _ h
    · have h := ifn cc_44 h
      refine Y_iload_n (pc := 47) hC d_Mo_other_47 rfl 3 rfl ?_
      refine Y_if_ne (pc := 48) hC 64 d_Mo_other_48 rfl (fun cc_48 => ?_) (fun cc_48 => ?_)
      · have h := ifn cc_48 h
        refine Y_iload_n (pc := 64) hC d_Mo_other_64 rfl 3 rfl ?_
        refine Y_iconst (pc := 65) hC d_Mo_other_65 ki_1 ?_
        refine Y_icmp_ne (pc := 66) hC 82 d_Mo_other_66 rfl (fun cc_66 => ?_) (fun cc_66 => ?_)
        · have h := ifn cc_66 h
          refine Y_iload (pc := 82) hC d_Mo_other_82 6 rfl ?_
          refine Y_iconst (pc := 84) hC d_Mo_other_84 ki_3 ?_
          refine Y_icmp_ne (pc := 85) hC 109 d_Mo_other_85 rfl (fun cc_85 => ?_) (fun cc_85 => ?_)
          · have h := ifn cc_85 h
            refine Y_iconst (pc := 109) hC d_Mo_other_109 ki_0 ?_
            refine Y_sub (pc := 110) [1, 2, 3, 4, 5, 6] rfl ?_
            exact kj2 _ _ h
          · have h := ifp cc_85 h
            refine Y_iload_n (pc := 88) hC d_Mo_other_88 rfl 4 rfl ?_
            refine Y_iconst (pc := 89) hC d_Mo_other_89 ki_4 ?_
            refine Y_sipush (pc := 90) hC d_Mo_other_90 ks_8192 ?_
            obtain ⟨r4, V5, hc_r4, h⟩ := cl_some h
            refine Y_callS (pc := 93) hC (c_Mo_within C.l C.D C.cI C.cZ C.a hc_r4) (fun q => nomatch q) ml_Mo_125 ms_Mo_within (by decide) (Nat.le_of_ble_eq_true rfl) rfl d_Mo_other_93 ?_
            refine Y_if_eq (pc := 96) hC 109 d_Mo_other_96 rfl (fun cc_96 => ?_) (fun cc_96 => ?_)
            · have h := ifp cc_96 h
              refine Y_iconst (pc := 109) hC d_Mo_other_109 ki_0 ?_
              refine Y_sub (pc := 110) [1, 2, 3, 4, 5, 6] rfl ?_
              exact kj2 _ _ h
            · have h := ifn cc_96 h
              refine Y_iload_n (pc := 99) hC d_Mo_other_99 rfl 4 rfl ?_
              refine Y_iconst (pc := 100) hC d_Mo_other_100 ki_4 ?_
              refine Y_irem (pc := 101) hC d_Mo_other_101 (by decide) ?_
              refine Y_if_ne (pc := 102) hC 109 d_Mo_other_102 rfl (fun cc_102 => ?_) (fun cc_102 => ?_)
              · have h := ifn cc_102 h
                refine Y_iconst (pc := 109) hC d_Mo_other_109 ki_0 ?_
                refine Y_sub (pc := 110) [1, 2, 3, 4, 5, 6] rfl ?_
                exact kj2 _ _ h
              · have h := ifp cc_102 h
                refine Y_iconst (pc := 105) hC d_Mo_other_105 ki_1 ?_
                refine Y_goto (pc := 106) hC 110 d_Mo_other_106 rfl ?_
                refine Y_sub (pc := 110) [1, 2, 3, 4, 5, 6] rfl ?_
                exact kj2 _ _ h
        · have h := ifp cc_66 h
          refine Y_iload (pc := 69) hC d_Mo_other_69 6 rfl ?_
          refine Y_iconst (pc := 71) hC d_Mo_other_71 ki_0 ?_
          refine Y_iconst (pc := 72) hC d_Mo_other_72 ki_2 ?_
          obtain ⟨r5, V6, hc_r5, h⟩ := cl_some h
          refine Y_callS (pc := 73) hC (c_Mo_within C.l C.D C.cI C.cZ C.a hc_r5) (fun q => nomatch q) ml_Mo_125 ms_Mo_within (by decide) (Nat.le_of_ble_eq_true rfl) rfl d_Mo_other_73 ?_
          refine Y_if_eq (pc := 76) hC 109 d_Mo_other_76 rfl (fun cc_76 => ?_) (fun cc_76 => ?_)
          · have h := ifp cc_76 h
            refine Y_iconst (pc := 109) hC d_Mo_other_109 ki_0 ?_
            refine Y_sub (pc := 110) [1, 2, 3, 4, 5, 6] rfl ?_
            exact kj2 _ _ h
          · have h := ifn cc_76 h
            refine Y_goto (pc := 79) hC 105 d_Mo_other_79 rfl ?_
            refine Y_iconst (pc := 105) hC d_Mo_other_105 ki_1 ?_
            refine Y_goto (pc := 106) hC 110 d_Mo_other_106 rfl ?_
            refine Y_sub (pc := 110) [1, 2, 3, 4, 5, 6] rfl ?_
            exact kj2 _ _ h
      · have h := ifp cc_48 h
        refine Y_iload (pc := 51) hC d_Mo_other_51 6 rfl ?_
        refine Y_iconst (pc := 53) hC d_Mo_other_53 ki_1 ?_
        refine Y_iconst (pc := 54) hC d_Mo_other_54 ki_2 ?_
        obtain ⟨r6, V7, hc_r6, h⟩ := cl_some h
        refine Y_callS (pc := 55) hC (c_Mo_within C.l C.D C.cI C.cZ C.a hc_r6) (fun q => nomatch q) ml_Mo_125 ms_Mo_within (by decide) (Nat.le_of_ble_eq_true rfl) rfl d_Mo_other_55 ?_
        refine Y_if_eq (pc := 58) hC 109 d_Mo_other_58 rfl (fun cc_58 => ?_) (fun cc_58 => ?_)
        · have h := ifp cc_58 h
          refine Y_iconst (pc := 109) hC d_Mo_other_109 ki_0 ?_
          refine Y_sub (pc := 110) [1, 2, 3, 4, 5, 6] rfl ?_
          exact kj2 _ _ h
        · have h := ifn cc_58 h
          refine Y_goto (pc := 61) hC 105 d_Mo_other_61 rfl ?_
          refine Y_iconst (pc := 105) hC d_Mo_other_105 ki_1 ?_
          refine Y_goto (pc := 106) hC 110 d_Mo_other_106 rfl ?_
          refine Y_sub (pc := 110) [1, 2, 3, 4, 5, 6] rfl ?_
          exact kj2 _ _ h
  refine Y_if_eq (pc := 11) hC 39 d_Mo_other_11 rfl (fun cc_11 => ?_) (fun cc_11 => ?_)
  · have h := ifp cc_11 h
    refine Y_iconst (pc := 39) hC d_Mo_other_39 ki_0 ?_
    refine Y_sub (pc := 40) [0, 1, 2, 3, 4, 5] rfl ?_
    exact kj1 _ _ h
  · have h := ifn cc_11 h
    refine Y_iload_n (pc := 14) hC d_Mo_other_14 rfl 2 rfl ?_
    refine Y_iconst (pc := 15) hC d_Mo_other_15 ki_0 ?_
    refine Y_iconst (pc := 16) hC d_Mo_other_16 ki_2 ?_
    obtain ⟨r2, V2, hc_r2, h⟩ := cl_some h
    refine Y_callS (pc := 17) hC (c_Mo_within C.l C.D C.cI C.cZ C.a hc_r2) (fun q => nomatch q) ml_Mo_125 ms_Mo_within (by decide) (Nat.le_of_ble_eq_true rfl) rfl d_Mo_other_17 ?_
    refine Y_if_eq (pc := 20) hC 39 d_Mo_other_20 rfl (fun cc_20 => ?_) (fun cc_20 => ?_)
    · have h := ifp cc_20 h
      refine Y_iconst (pc := 39) hC d_Mo_other_39 ki_0 ?_
      refine Y_sub (pc := 40) [0, 1, 2, 3, 4, 5] rfl ?_
      exact kj1 _ _ h
    · have h := ifn cc_20 h
      refine Y_iload (pc := 23) hC d_Mo_other_23 4 rfl ?_
      refine Y_iconst (pc := 25) hC d_Mo_other_25 ki_0 ?_
      refine Y_sipush (pc := 26) hC d_Mo_other_26 ks_199 ?_
      obtain ⟨r3, V3, hc_r3, h⟩ := cl_some h
      refine Y_callS (pc := 29) hC (c_Mo_within C.l C.D C.cI C.cZ C.a hc_r3) (fun q => nomatch q) ml_Mo_125 ms_Mo_within (by decide) (Nat.le_of_ble_eq_true rfl) rfl d_Mo_other_29 ?_
      refine Y_if_eq (pc := 32) hC 39 d_Mo_other_32 rfl (fun cc_32 => ?_) (fun cc_32 => ?_)
      · have h := ifp cc_32 h
        refine Y_iconst (pc := 39) hC d_Mo_other_39 ki_0 ?_
        refine Y_sub (pc := 40) [0, 1, 2, 3, 4, 5] rfl ?_
        exact kj1 _ _ h
      · have h := ifn cc_32 h
        refine Y_iconst (pc := 35) hC d_Mo_other_35 ki_1 ?_
        refine Y_goto (pc := 36) hC 40 d_Mo_other_36 rfl ?_
        refine Y_sub (pc := 40) [0, 1, 2, 3, 4, 5] rfl ?_
        exact kj1 _ _ h
set_option maxHeartbeats 4000000 in
set_option maxRecDepth 100000 in
theorem c_Mo_relocation (l : Launch) (D : va_G) (cI cZ : ClassId) (a : Nat → Nat) {V : Sto} {p1 : Int32} {p2 : Int32} {p3 : Int32} {p4 : Int32} {p5 : Int32} {r : Int32} {V' : Sto} (h : f_Mo_relocation V p1 p2 p3 p4 p5 = some (r, V')) : YMi l D cI cZ a shpM y_Mo_relocation b_Mo_relocation 7 (some .int) rm_Mo_relocation true [.ref (a 0), .int p1, .int p2, .int p3, .int p4, .int p5] V r V' := by
  refine YMi_of (by decide) (Nat.le_of_ble_eq_true rfl) ?_
  intro C hl hDD hcI hcZ ha hC hw hE
  subst hl hDD hcI hcZ ha
  show Y C shpM 7 0 [(0, .ref (C.a 0)), (1, .int p1), (2, .int p2), (3, .int p3), (4, .int p4), (5, .int p5)] [] V
  have hw := hw rfl
  rw [f_Mo_relocation] at h
  refine Y_aload_n (pc := 0) hC d_Mo_relocation_0 rfl 0 rfl ?_
  refine Y_iload_n (pc := 1) hC d_Mo_relocation_1 rfl 1 rfl ?_
  refine Y_iload_n (pc := 2) hC d_Mo_relocation_2 rfl 2 rfl ?_
  obtain ⟨r1, V1, hc_r1, h⟩ := cl_some h
  refine Y_callV (pc := 3) hC (c_Mo_isPlace C.l C.D C.cI C.cZ C.a hc_r1) (fun q => nomatch q) sm_0 cls_Mo ml_Mo_153 mv_Mo_isPlace (by decide) (Nat.le_of_ble_eq_true rfl) rfl d_Mo_relocation_3 ?_
  obtain ⟨j1, hj1, h⟩ := jn_some h
  have kj1 : ∀ (z1 : Int32) (V4 : Sto), j1 z1 V4 = some (r, V') → Y C shpM 7 38 [(0, .ref (C.a 0)), (1, .int p1), (2, .int p2), (3, .int p3), (4, .int p4), (5, .int p5)] [.int z1] V4 := by
    intro z1 V4 h
    subst hj1
    dsimp only at h
    refine Y_istore (pc := 38) hC (L' := [(6, .int z1), (0, .ref (C.a 0)), (1, .int p1), (2, .int p2), (3, .int p3), (4, .int p4), (5, .int p5)]) d_Mo_relocation_38 (by decide) rfl ?_
    refine Y_iload (pc := 40) hC d_Mo_relocation_40 0 rfl ?_
    obtain ⟨j2, hj2, h⟩ := jn_some h
    have kj2 : ∀ (z2 : Int32), j2 z2 = some (r, V') → Y C shpM 7 66 [(0, .ref (C.a 0)), (1, .int p1), (2, .int p2), (3, .int p3), (4, .int p4), (5, .int p5)] [.int z2] V4 := by
      intro z2 h
      subst hj2
      dsimp only at h
      refine Y_istore (pc := 66) hC (L' := [(6, .int z2), (0, .ref (C.a 0)), (1, .int p1), (2, .int p2), (3, .int p3), (4, .int p4), (5, .int p5)]) d_Mo_relocation_66 (by decide) rfl ?_
      refine Y_aload_n (pc := 68) hC d_Mo_relocation_68 rfl 1 rfl ?_
      refine Y_iload (pc := 69) hC d_Mo_relocation_69 0 rfl ?_
      obtain ⟨j3, hj3, h⟩ := jn_some h
      have kj3 : ∀ (z3 : Int32), j3 z3 = some (r, V') → Y C shpM 7 79 [(0, .ref (C.a 0)), (1, .int p1), (2, .int p2), (3, .int p3), (4, .int p4), (5, .int p5), (6, .int z2)] [.int z3, .ref (C.a 0)] V4 := by
        intro z3 h
        subst hj3
        dsimp only at h
        refine Y_iload (pc := 79) hC d_Mo_relocation_79 6 rfl ?_
        obtain ⟨j4, hj4, h⟩ := jn_some h
        have kj4 : ∀ (z4 : Int32), j4 z4 = some (r, V') → Y C shpM 7 99 [(0, .ref (C.a 0)), (1, .int p1), (2, .int p2), (3, .int p3), (4, .int p4), (5, .int p5)] [.int z4, .int z3, .ref (C.a 0)] V4 := by
          intro z4 h
          subst hj4
          dsimp only at h
          obtain ⟨r4, V5, hc_r4, h⟩ := cl_some h
          refine Y_callV (pc := 99) hC (c_Mo_refuse C.l C.D C.cI C.cZ C.a hc_r4) (fun _ => hw) sm_0 cls_Mo ml_Mo_132 mv_Mo_refuse (by decide) (Nat.le_of_ble_eq_true rfl) rfl d_Mo_relocation_99 ?_
          refine Y_if_eq (pc := 102) hC 107 d_Mo_relocation_102 rfl (fun cc_102 => ?_) (fun cc_102 => ?_)
          · have h := ifp cc_102 h
            refine Y_aload_n (pc := 107) hC d_Mo_relocation_107 rfl 0 rfl ?_
            obtain ⟨r5, V6, hc_r5, h⟩ := cl_some h
            refine Y_callVv (pc := 108) hC (c_Mo_told C.l C.D C.cI C.cZ C.a hc_r5) (fun _ => hw) sm_0 cls_Mo ml_Mo_136 mv_Mo_told (by decide) (Nat.le_of_ble_eq_true rfl) rfl d_Mo_relocation_108 ?_
            refine Y_aload_n (pc := 111) hC d_Mo_relocation_111 rfl 0 rfl ?_
            refine Y_getR (pc := 112) hC sm_0 fl_Mo_54 rfl d_Mo_relocation_112 ?_
            refine Y_aload_n (pc := 115) hC d_Mo_relocation_115 rfl 0 rfl ?_
            refine Y_getI (pc := 116) hC sm_0 fl_Mo_167 rfl d_Mo_relocation_116 ?_
            refine Y_iload_n (pc := 119) hC d_Mo_relocation_119 rfl 1 rfl ?_
            obtain ⟨hi, h⟩ := ck_some h
            obtain ⟨V7, hV7, h⟩ := nm_some h
            refine Y_iast (pc := 120) hC sm_15 (by decide) rfl hi hw rfl hV7 d_Mo_relocation_120 ?_
            refine Y_aload_n (pc := 121) hC d_Mo_relocation_121 rfl 0 rfl ?_
            refine Y_getR (pc := 122) hC sm_0 fl_Mo_57 rfl d_Mo_relocation_122 ?_
            refine Y_aload_n (pc := 125) hC d_Mo_relocation_125 rfl 0 rfl ?_
            refine Y_getI (pc := 126) hC sm_0 fl_Mo_167 rfl d_Mo_relocation_126 ?_
            refine Y_iload_n (pc := 129) hC d_Mo_relocation_129 rfl 2 rfl ?_
            obtain ⟨hi, h⟩ := ck_some h
            obtain ⟨V8, hV8, h⟩ := nm_some h
            refine Y_iast (pc := 130) hC sm_16 (by decide) rfl hi hw rfl hV8 d_Mo_relocation_130 ?_
            refine Y_aload_n (pc := 131) hC d_Mo_relocation_131 rfl 0 rfl ?_
            refine Y_getR (pc := 132) hC sm_0 fl_Mo_60 rfl d_Mo_relocation_132 ?_
            refine Y_aload_n (pc := 135) hC d_Mo_relocation_135 rfl 0 rfl ?_
            refine Y_getI (pc := 136) hC sm_0 fl_Mo_167 rfl d_Mo_relocation_136 ?_
            refine Y_iload_n (pc := 139) hC d_Mo_relocation_139 rfl 3 rfl ?_
            obtain ⟨hi, h⟩ := ck_some h
            obtain ⟨V9, hV9, h⟩ := nm_some h
            refine Y_iast (pc := 140) hC sm_17 (by decide) rfl hi hw rfl hV9 d_Mo_relocation_140 ?_
            refine Y_aload_n (pc := 141) hC d_Mo_relocation_141 rfl 0 rfl ?_
            refine Y_getR (pc := 142) hC sm_0 fl_Mo_63 rfl d_Mo_relocation_142 ?_
            refine Y_aload_n (pc := 145) hC d_Mo_relocation_145 rfl 0 rfl ?_
            refine Y_getI (pc := 146) hC sm_0 fl_Mo_167 rfl d_Mo_relocation_146 ?_
            refine Y_iload (pc := 149) hC d_Mo_relocation_149 4 rfl ?_
            obtain ⟨hi, h⟩ := ck_some h
            obtain ⟨V10, hV10, h⟩ := nm_some h
            refine Y_iast (pc := 151) hC sm_18 (by decide) rfl hi hw rfl hV10 d_Mo_relocation_151 ?_
            refine Y_aload_n (pc := 152) hC d_Mo_relocation_152 rfl 0 rfl ?_
            refine Y_getR (pc := 153) hC sm_0 fl_Mo_66 rfl d_Mo_relocation_153 ?_
            refine Y_aload_n (pc := 156) hC d_Mo_relocation_156 rfl 0 rfl ?_
            refine Y_getI (pc := 157) hC sm_0 fl_Mo_167 rfl d_Mo_relocation_157 ?_
            refine Y_iload (pc := 160) hC d_Mo_relocation_160 5 rfl ?_
            obtain ⟨hi, h⟩ := ck_some h
            obtain ⟨V11, hV11, h⟩ := nm_some h
            refine Y_iast (pc := 162) hC sm_19 (by decide) rfl hi hw rfl hV11 d_Mo_relocation_162 ?_
            refine Y_aload_n (pc := 163) hC d_Mo_relocation_163 rfl 0 rfl ?_
            refine Y_dup (pc := 164) hC d_Mo_relocation_164 rfl ?_
            refine Y_getI (pc := 165) hC sm_0 fl_Mo_167 rfl d_Mo_relocation_165 ?_
            refine Y_iconst (pc := 168) hC d_Mo_relocation_168 ki_1 ?_
            refine Y_iadd (pc := 169) hC d_Mo_relocation_169 ?_
            obtain ⟨V12, hV12, h⟩ := nm_some h
            refine Y_put (pc := 170) hC sm_0 fl_Mo_167 rfl (by decide) fp_Mo ft_Mo_20 rfl rfl hw hV12 d_Mo_relocation_170 ?_
            refine Y_aload_n (pc := 173) hC d_Mo_relocation_173 rfl 0 rfl ?_
            refine Y_getI (pc := 174) hC sm_0 fl_Mo_167 rfl d_Mo_relocation_174 ?_
            refine Y_iconst (pc := 177) hC d_Mo_relocation_177 ki_1 ?_
            refine Y_isub (pc := 178) hC d_Mo_relocation_178 ?_
            exact Y_iret (pc := 179) hC hE d_Mo_relocation_179 h
          · have h := ifn cc_102 h
            refine Y_iconst (pc := 105) hC d_Mo_relocation_105 ki_0 ?_
            exact Y_iret (pc := 106) hC hE d_Mo_relocation_106 h
        refine Y_if_eq (pc := 81) hC 98 d_Mo_relocation_81 rfl (fun cc_81 => ?_) (fun cc_81 => ?_)
        · have h := ifp cc_81 h
          refine Y_iconst (pc := 98) hC d_Mo_relocation_98 ki_0 ?_
          refine Y_sub (pc := 99) [0, 1, 2, 3, 4, 5] rfl ?_
          exact kj4 _ h
        · have h := ifn cc_81 h
          refine Y_aload_n (pc := 84) hC d_Mo_relocation_84 rfl 0 rfl ?_
          refine Y_getI (pc := 85) hC sm_0 fl_Mo_167 rfl d_Mo_relocation_85 ?_
          refine Y_sipush (pc := 88) hC d_Mo_relocation_88 ks_600 ?_
          refine Y_icmp_ne (pc := 91) hC 98 d_Mo_relocation_91 rfl (fun cc_91 => ?_) (fun cc_91 => ?_)
          · have h := ifn cc_91 h
            refine Y_iconst (pc := 98) hC d_Mo_relocation_98 ki_0 ?_
            refine Y_sub (pc := 99) [0, 1, 2, 3, 4, 5] rfl ?_
            exact kj4 _ h
          · have h := ifp cc_91 h
            refine Y_iconst (pc := 94) hC d_Mo_relocation_94 ki_1 ?_
            refine Y_goto (pc := 95) hC 99 d_Mo_relocation_95 rfl ?_
            refine Y_sub (pc := 99) [0, 1, 2, 3, 4, 5] rfl ?_
            exact kj4 _ h
      refine Y_if_ne (pc := 71) hC 78 d_Mo_relocation_71 rfl (fun cc_71 => ?_) (fun cc_71 => ?_)
      · have h := ifn cc_71 h
        refine Y_iconst (pc := 78) hC d_Mo_relocation_78 ki_0 ?_
        refine Y_sub (pc := 79) [1, 2, 3, 4, 5, 6, 0] rfl ?_
        exact kj3 _ h
      · have h := ifp cc_71 h
        refine Y_iconst (pc := 74) hC d_Mo_relocation_74 ki_1 ?_
        refine Y_goto (pc := 75) hC 79 d_Mo_relocation_75 rfl ?_
        refine Y_sub (pc := 79) [1, 2, 3, 4, 5, 6, 0] rfl ?_
        exact kj3 _ h
    refine Y_if_eq (pc := 42) hC 65 d_Mo_relocation_42 rfl (fun cc_42 => ?_) (fun cc_42 => ?_)
    · have h := ifp cc_42 h
      refine Y_iconst (pc := 65) hC d_Mo_relocation_65 ki_0 ?_
      refine Y_sub (pc := 66) [1, 2, 3, 4, 5, 6] rfl ?_
      exact kj2 _ h
    · have h := ifn cc_42 h
      refine Y_aload_n (pc := 45) hC d_Mo_relocation_45 rfl 1 rfl ?_
      refine Y_getR (pc := 46) hC sm_0 fl_Mo_36 rfl d_Mo_relocation_46 ?_
      refine Y_iload (pc := 49) hC d_Mo_relocation_49 5 rfl ?_
      obtain ⟨hi, h⟩ := ck_some h
      refine Y_iald (pc := 51) hC sm_9 rfl hi d_Mo_relocation_51 ?_
      refine Y_aload_n (pc := 52) hC d_Mo_relocation_52 rfl 1 rfl ?_
      refine Y_getR (pc := 53) hC sm_0 fl_Mo_13 rfl d_Mo_relocation_53 ?_
      refine Y_iload_n (pc := 56) hC d_Mo_relocation_56 rfl 2 rfl ?_
      obtain ⟨hi, h⟩ := ck_some h
      refine Y_iald (pc := 57) hC sm_2 rfl hi d_Mo_relocation_57 ?_
      refine Y_icmp_ne (pc := 58) hC 65 d_Mo_relocation_58 rfl (fun cc_58 => ?_) (fun cc_58 => ?_)
      · have h := ifn cc_58 h
        refine Y_iconst (pc := 65) hC d_Mo_relocation_65 ki_0 ?_
        refine Y_sub (pc := 66) [1, 2, 3, 4, 5, 6] rfl ?_
        exact kj2 _ h
      · have h := ifp cc_58 h
        refine Y_iconst (pc := 61) hC d_Mo_relocation_61 ki_1 ?_
        refine Y_goto (pc := 62) hC 66 d_Mo_relocation_62 rfl ?_
        refine Y_sub (pc := 66) [1, 2, 3, 4, 5, 6] rfl ?_
        exact kj2 _ h
  refine Y_if_eq (pc := 6) hC 37 d_Mo_relocation_6 rfl (fun cc_6 => ?_) (fun cc_6 => ?_)
  · have h := ifp cc_6 h
    refine Y_iconst (pc := 37) hC d_Mo_relocation_37 ki_0 ?_
    refine Y_sub (pc := 38) [0, 1, 2, 3, 4, 5] rfl ?_
    exact kj1 _ _ h
  · have h := ifn cc_6 h
    refine Y_iload_n (pc := 9) hC d_Mo_relocation_9 rfl 3 rfl ?_
    refine Y_iconst (pc := 10) hC d_Mo_relocation_10 ki_0 ?_
    refine Y_iconst (pc := 11) hC d_Mo_relocation_11 ki_5 ?_
    obtain ⟨r2, V2, hc_r2, h⟩ := cl_some h
    refine Y_callS (pc := 12) hC (c_Mo_within C.l C.D C.cI C.cZ C.a hc_r2) (fun q => nomatch q) ml_Mo_125 ms_Mo_within (by decide) (Nat.le_of_ble_eq_true rfl) rfl d_Mo_relocation_12 ?_
    refine Y_if_eq (pc := 15) hC 37 d_Mo_relocation_15 rfl (fun cc_15 => ?_) (fun cc_15 => ?_)
    · have h := ifp cc_15 h
      refine Y_iconst (pc := 37) hC d_Mo_relocation_37 ki_0 ?_
      refine Y_sub (pc := 38) [0, 1, 2, 3, 4, 5] rfl ?_
      exact kj1 _ _ h
    · have h := ifn cc_15 h
      refine Y_iload (pc := 18) hC d_Mo_relocation_18 4 rfl ?_
      refine Y_iconst (pc := 20) hC d_Mo_relocation_20 ki_0 ?_
      refine Y_aload_n (pc := 21) hC d_Mo_relocation_21 rfl 0 rfl ?_
      refine Y_getI (pc := 22) hC sm_0 fl_Mo_157 rfl d_Mo_relocation_22 ?_
      refine Y_iconst (pc := 25) hC d_Mo_relocation_25 ki_1 ?_
      refine Y_isub (pc := 26) hC d_Mo_relocation_26 ?_
      obtain ⟨r3, V3, hc_r3, h⟩ := cl_some h
      refine Y_callS (pc := 27) hC (c_Mo_within C.l C.D C.cI C.cZ C.a hc_r3) (fun q => nomatch q) ml_Mo_125 ms_Mo_within (by decide) (Nat.le_of_ble_eq_true rfl) rfl d_Mo_relocation_27 ?_
      refine Y_if_eq (pc := 30) hC 37 d_Mo_relocation_30 rfl (fun cc_30 => ?_) (fun cc_30 => ?_)
      · have h := ifp cc_30 h
        refine Y_iconst (pc := 37) hC d_Mo_relocation_37 ki_0 ?_
        refine Y_sub (pc := 38) [0, 1, 2, 3, 4, 5] rfl ?_
        exact kj1 _ _ h
      · have h := ifn cc_30 h
        refine Y_iconst (pc := 33) hC d_Mo_relocation_33 ki_1 ?_
        refine Y_goto (pc := 34) hC 38 d_Mo_relocation_34 rfl ?_
        refine Y_sub (pc := 38) [0, 1, 2, 3, 4, 5] rfl ?_
        exact kj1 _ _ h
set_option maxHeartbeats 4000000 in
set_option maxRecDepth 100000 in
theorem c_Mo_entry (l : Launch) (D : va_G) (cI cZ : ClassId) (a : Nat → Nat) {V : Sto} {p1 : Int32} {r : Int32} {V' : Sto} (h : f_Mo_entry V p1 = some (r, V')) : YMv l D cI cZ a shpM y_Mo_entry b_Mo_entry 2 rm_Mo_entry true [.ref (a 0), .int p1] V V' := by
  refine YMv_of (by decide) (Nat.le_of_ble_eq_true rfl) ?_
  intro C hl hDD hcI hcZ ha hC hw hE
  subst hl hDD hcI hcZ ha
  show Y C shpM 2 0 [(0, .ref (C.a 0)), (1, .int p1)] [] V
  have hw := hw rfl
  rw [f_Mo_entry] at h
  refine Y_aload_n (pc := 0) hC d_Mo_entry_0 rfl 0 rfl ?_
  refine Y_iload_n (pc := 1) hC d_Mo_entry_1 rfl 1 rfl ?_
  refine Y_iconst (pc := 2) hC d_Mo_entry_2 ki_m1 ?_
  refine Y_sipush (pc := 3) hC d_Mo_entry_3 ks_199 ?_
  obtain ⟨r1, V1, hc_r1, h⟩ := cl_some h
  refine Y_callS (pc := 6) hC (c_Mo_within C.l C.D C.cI C.cZ C.a hc_r1) (fun q => nomatch q) ml_Mo_125 ms_Mo_within (by decide) (Nat.le_of_ble_eq_true rfl) rfl d_Mo_entry_6 ?_
  refine Y_if_ne (pc := 9) hC 16 d_Mo_entry_9 rfl (fun cc_9 => ?_) (fun cc_9 => ?_)
  · have h := ifn cc_9 h
    refine Y_iconst (pc := 16) hC d_Mo_entry_16 ki_0 ?_
    refine Y_iconst (pc := 17) hC d_Mo_entry_17 ki_0 ?_
    obtain ⟨r2, V2, hc_r2, h⟩ := cl_some h
    refine Y_callV (pc := 18) hC (c_Mo_refuse C.l C.D C.cI C.cZ C.a hc_r2) (fun _ => hw) sm_0 cls_Mo ml_Mo_132 mv_Mo_refuse (by decide) (Nat.le_of_ble_eq_true rfl) rfl d_Mo_entry_18 ?_
    refine Y_if_ne (pc := 21) hC 33 d_Mo_entry_21 rfl (fun cc_21 => ?_) (fun cc_21 => ?_)
    · have h := ifn cc_21 h
      exact Y_vret (pc := 33) hC hE d_Mo_entry_33 h
    · have h := ifp cc_21 h
      refine Y_aload_n (pc := 24) hC d_Mo_entry_24 rfl 0 rfl ?_
      obtain ⟨r3, V3, hc_r3, h⟩ := cl_some h
      refine Y_callVv (pc := 25) hC (c_Mo_told C.l C.D C.cI C.cZ C.a hc_r3) (fun _ => hw) sm_0 cls_Mo ml_Mo_136 mv_Mo_told (by decide) (Nat.le_of_ble_eq_true rfl) rfl d_Mo_entry_25 ?_
      refine Y_aload_n (pc := 28) hC d_Mo_entry_28 rfl 0 rfl ?_
      refine Y_iload_n (pc := 29) hC d_Mo_entry_29 rfl 1 rfl ?_
      obtain ⟨V4, hV4, h⟩ := nm_some h
      refine Y_put (pc := 30) hC sm_0 fl_Mo_69 rfl (by decide) fp_Mo ft_Mo_26 rfl rfl hw hV4 d_Mo_entry_30 ?_
      exact Y_vret (pc := 33) hC hE d_Mo_entry_33 h
  · have h := ifp cc_9 h
    refine Y_iconst (pc := 12) hC d_Mo_entry_12 ki_1 ?_
    refine Y_goto (pc := 13) hC 17 d_Mo_entry_13 rfl ?_
    refine Y_iconst (pc := 17) hC d_Mo_entry_17 ki_0 ?_
    obtain ⟨r4, V5, hc_r4, h⟩ := cl_some h
    refine Y_callV (pc := 18) hC (c_Mo_refuse C.l C.D C.cI C.cZ C.a hc_r4) (fun _ => hw) sm_0 cls_Mo ml_Mo_132 mv_Mo_refuse (by decide) (Nat.le_of_ble_eq_true rfl) rfl d_Mo_entry_18 ?_
    refine Y_if_ne (pc := 21) hC 33 d_Mo_entry_21 rfl (fun cc_21 => ?_) (fun cc_21 => ?_)
    · have h := ifn cc_21 h
      exact Y_vret (pc := 33) hC hE d_Mo_entry_33 h
    · have h := ifp cc_21 h
      refine Y_aload_n (pc := 24) hC d_Mo_entry_24 rfl 0 rfl ?_
      obtain ⟨r5, V6, hc_r5, h⟩ := cl_some h
      refine Y_callVv (pc := 25) hC (c_Mo_told C.l C.D C.cI C.cZ C.a hc_r5) (fun _ => hw) sm_0 cls_Mo ml_Mo_136 mv_Mo_told (by decide) (Nat.le_of_ble_eq_true rfl) rfl d_Mo_entry_25 ?_
      refine Y_aload_n (pc := 28) hC d_Mo_entry_28 rfl 0 rfl ?_
      refine Y_iload_n (pc := 29) hC d_Mo_entry_29 rfl 1 rfl ?_
      obtain ⟨V7, hV7, h⟩ := nm_some h
      refine Y_put (pc := 30) hC sm_0 fl_Mo_69 rfl (by decide) fp_Mo ft_Mo_26 rfl rfl hw hV7 d_Mo_entry_30 ?_
      exact Y_vret (pc := 33) hC hE d_Mo_entry_33 h
set_option maxHeartbeats 4000000 in
set_option maxRecDepth 100000 in
theorem c_Mo_keep (l : Launch) (D : va_G) (cI cZ : ClassId) (a : Nat → Nat) {V : Sto} {p1 : Int32} {p2 : Int32} {r : Int32} {V' : Sto} (h : f_Mo_keep V p1 p2 = some (r, V')) : YMv l D cI cZ a shpM y_Mo_keep b_Mo_keep 3 rm_Mo_keep true [.ref (a 0), .int p1, .int p2] V V' := by
  refine YMv_of (by decide) (Nat.le_of_ble_eq_true rfl) ?_
  intro C hl hDD hcI hcZ ha hC hw hE
  subst hl hDD hcI hcZ ha
  show Y C shpM 3 0 [(0, .ref (C.a 0)), (1, .int p1), (2, .int p2)] [] V
  have hw := hw rfl
  rw [f_Mo_keep] at h
  refine Y_aload_n (pc := 0) hC d_Mo_keep_0 rfl 0 rfl ?_
  refine Y_iload_n (pc := 1) hC d_Mo_keep_1 rfl 1 rfl ?_
  refine Y_iconst (pc := 2) hC d_Mo_keep_2 ki_0 ?_
  refine Y_aload_n (pc := 3) hC d_Mo_keep_3 rfl 0 rfl ?_
  refine Y_getI (pc := 4) hC sm_0 fl_Mo_143 rfl d_Mo_keep_4 ?_
  refine Y_iconst (pc := 7) hC d_Mo_keep_7 ki_1 ?_
  refine Y_isub (pc := 8) hC d_Mo_keep_8 ?_
  obtain ⟨r1, V1, hc_r1, h⟩ := cl_some h
  refine Y_callS (pc := 9) hC (c_Mo_within C.l C.D C.cI C.cZ C.a hc_r1) (fun q => nomatch q) ml_Mo_125 ms_Mo_within (by decide) (Nat.le_of_ble_eq_true rfl) rfl d_Mo_keep_9 ?_
  obtain ⟨j1, hj1, h⟩ := jn_some h
  have kj1 : ∀ (z1 : Int32), j1 z1 = some (r, V') → Y C shpM 3 20 [(0, .ref (C.a 0)), (1, .int p1), (2, .int p2)] [.int z1, .ref (C.a 0)] V1 := by
    intro z1 h
    subst hj1
    dsimp only at h
    refine Y_iconst (pc := 20) hC d_Mo_keep_20 ki_0 ?_
    obtain ⟨r2, V2, hc_r2, h⟩ := cl_some h
    refine Y_callV (pc := 21) hC (c_Mo_refuse C.l C.D C.cI C.cZ C.a hc_r2) (fun _ => hw) sm_0 cls_Mo ml_Mo_132 mv_Mo_refuse (by decide) (Nat.le_of_ble_eq_true rfl) rfl d_Mo_keep_21 ?_
    refine Y_if_ne (pc := 24) hC 38 d_Mo_keep_24 rfl (fun cc_24 => ?_) (fun cc_24 => ?_)
    · have h := ifn cc_24 h
      exact Y_vret (pc := 38) hC hE d_Mo_keep_38 h
    · have h := ifp cc_24 h
      refine Y_aload_n (pc := 27) hC d_Mo_keep_27 rfl 0 rfl ?_
      obtain ⟨r3, V3, hc_r3, h⟩ := cl_some h
      refine Y_callVv (pc := 28) hC (c_Mo_told C.l C.D C.cI C.cZ C.a hc_r3) (fun _ => hw) sm_0 cls_Mo ml_Mo_136 mv_Mo_told (by decide) (Nat.le_of_ble_eq_true rfl) rfl d_Mo_keep_28 ?_
      refine Y_aload_n (pc := 31) hC d_Mo_keep_31 rfl 0 rfl ?_
      refine Y_getR (pc := 32) hC sm_0 fl_Mo_28 rfl d_Mo_keep_32 ?_
      refine Y_iload_n (pc := 35) hC d_Mo_keep_35 rfl 1 rfl ?_
      refine Y_iload_n (pc := 36) hC d_Mo_keep_36 rfl 2 rfl ?_
      obtain ⟨hi, h⟩ := ck_some h
      obtain ⟨V4, hV4, h⟩ := nm_some h
      refine Y_zast (pc := 37) hC sm_7 (by decide) rfl hi hw rfl hV4 d_Mo_keep_37 ?_
      exact Y_vret (pc := 38) hC hE d_Mo_keep_38 h
  refine Y_if_ne (pc := 12) hC 19 d_Mo_keep_12 rfl (fun cc_12 => ?_) (fun cc_12 => ?_)
  · have h := ifn cc_12 h
    refine Y_iconst (pc := 19) hC d_Mo_keep_19 ki_0 ?_
    refine Y_sub (pc := 20) [0, 1, 2] rfl ?_
    exact kj1 _ h
  · have h := ifp cc_12 h
    refine Y_iconst (pc := 15) hC d_Mo_keep_15 ki_1 ?_
    refine Y_goto (pc := 16) hC 20 d_Mo_keep_16 rfl ?_
    refine Y_sub (pc := 20) [0, 1, 2] rfl ?_
    exact kj1 _ h
set_option maxHeartbeats 4000000 in
set_option maxRecDepth 100000 in
theorem c_Mo_fold (l : Launch) (D : va_G) (cI cZ : ClassId) (a : Nat → Nat) {V : Sto} {p1 : Int32} {p2 : Int32} {r : Int32} {V' : Sto} (h : f_Mo_fold V p1 p2 = some (r, V')) : YMv l D cI cZ a shpM y_Mo_fold b_Mo_fold 3 rm_Mo_fold true [.ref (a 0), .int p1, .int p2] V V' := by
  refine YMv_of (by decide) (Nat.le_of_ble_eq_true rfl) ?_
  intro C hl hDD hcI hcZ ha hC hw hE
  subst hl hDD hcI hcZ ha
  show Y C shpM 3 0 [(0, .ref (C.a 0)), (1, .int p1), (2, .int p2)] [] V
  have hw := hw rfl
  rw [f_Mo_fold] at h
  refine Y_aload_n (pc := 0) hC d_Mo_fold_0 rfl 0 rfl ?_
  refine Y_iconst (pc := 1) hC d_Mo_fold_1 ki_0 ?_
  obtain ⟨V1, hV1, h⟩ := nm_some h
  refine Y_put (pc := 2) hC sm_0 fl_Mo_115 rfl (by decide) fp_Mo ft_Mo_0 rfl rfl hw hV1 d_Mo_fold_2 ?_
  refine Y_aload_n (pc := 5) hC d_Mo_fold_5 rfl 0 rfl ?_
  obtain ⟨r1, V2, hc_r1, h⟩ := cl_some h
  refine Y_callVv (pc := 6) hC (c_Mo_told C.l C.D C.cI C.cZ C.a hc_r1) (fun _ => hw) sm_0 cls_Mo ml_Mo_136 mv_Mo_told (by decide) (Nat.le_of_ble_eq_true rfl) rfl d_Mo_fold_6 ?_
  refine Y_aload_n (pc := 9) hC d_Mo_fold_9 rfl 0 rfl ?_
  refine Y_iload_n (pc := 10) hC d_Mo_fold_10 rfl 1 rfl ?_
  obtain ⟨hbb, h⟩ := ck_some h
  obtain ⟨V3, hV3, h⟩ := nm_some h
  refine Y_put (pc := 11) hC sm_0 fl_Mo_170 rfl (by decide) fp_Mo ft_Mo_27 (bb_nar hbb) (bb_fit hbb) hw hV3 d_Mo_fold_11 ?_
  refine Y_aload_n (pc := 14) hC d_Mo_fold_14 rfl 0 rfl ?_
  refine Y_iload_n (pc := 15) hC d_Mo_fold_15 rfl 2 rfl ?_
  obtain ⟨hbb, h⟩ := ck_some h
  obtain ⟨V4, hV4, h⟩ := nm_some h
  refine Y_put (pc := 16) hC sm_0 fl_Mo_173 rfl (by decide) fp_Mo ft_Mo_28 (bb_nar hbb) (bb_fit hbb) hw hV4 d_Mo_fold_16 ?_
  exact Y_vret (pc := 19) hC hE d_Mo_fold_19 h
set_option maxHeartbeats 4000000 in
set_option maxRecDepth 100000 in
theorem c_Mo_clear (l : Launch) (D : va_G) (cI cZ : ClassId) (a : Nat → Nat) {V : Sto} {r : Int32} {V' : Sto} (h : f_Mo_clear V = some (r, V')) : YMv l D cI cZ a shpM y_Mo_clear b_Mo_clear 1 rm_Mo_clear true [.ref (a 0)] V V' := by
  refine YMv_of (by decide) (Nat.le_of_ble_eq_true rfl) ?_
  intro C hl hDD hcI hcZ ha hC hw hE
  subst hl hDD hcI hcZ ha
  show Y C shpM 1 0 [(0, .ref (C.a 0))] [] V
  have hw := hw rfl
  rw [f_Mo_clear] at h
  refine Y_aload_n (pc := 0) hC d_Mo_clear_0 rfl 0 rfl ?_
  refine Y_iconst (pc := 1) hC d_Mo_clear_1 ki_0 ?_
  obtain ⟨V1, hV1, h⟩ := nm_some h
  refine Y_put (pc := 2) hC sm_0 fl_Mo_115 rfl (by decide) fp_Mo ft_Mo_0 rfl rfl hw hV1 d_Mo_clear_2 ?_
  refine Y_aload_n (pc := 5) hC d_Mo_clear_5 rfl 0 rfl ?_
  obtain ⟨r1, V2, hc_r1, h⟩ := cl_some h
  refine Y_callVv (pc := 6) hC (c_Mo_told C.l C.D C.cI C.cZ C.a hc_r1) (fun _ => hw) sm_0 cls_Mo ml_Mo_136 mv_Mo_told (by decide) (Nat.le_of_ble_eq_true rfl) rfl d_Mo_clear_6 ?_
  refine Y_aload_n (pc := 9) hC d_Mo_clear_9 rfl 0 rfl ?_
  refine Y_iconst (pc := 10) hC d_Mo_clear_10 ki_0 ?_
  obtain ⟨V3, hV3, h⟩ := nm_some h
  refine Y_put (pc := 11) hC sm_0 fl_Mo_129 rfl (by decide) fp_Mo ft_Mo_1 rfl rfl hw hV3 d_Mo_clear_11 ?_
  refine Y_aload_n (pc := 14) hC d_Mo_clear_14 rfl 0 rfl ?_
  refine Y_iconst (pc := 15) hC d_Mo_clear_15 ki_0 ?_
  obtain ⟨V4, hV4, h⟩ := nm_some h
  refine Y_put (pc := 16) hC sm_0 fl_Mo_143 rfl (by decide) fp_Mo ft_Mo_3 rfl rfl hw hV4 d_Mo_clear_16 ?_
  refine Y_aload_n (pc := 19) hC d_Mo_clear_19 rfl 0 rfl ?_
  refine Y_iconst (pc := 20) hC d_Mo_clear_20 ki_0 ?_
  obtain ⟨V5, hV5, h⟩ := nm_some h
  refine Y_put (pc := 21) hC sm_0 fl_Mo_146 rfl (by decide) fp_Mo ft_Mo_10 rfl rfl hw hV5 d_Mo_clear_21 ?_
  refine Y_aload_n (pc := 24) hC d_Mo_clear_24 rfl 0 rfl ?_
  refine Y_iconst (pc := 25) hC d_Mo_clear_25 ki_0 ?_
  obtain ⟨V6, hV6, h⟩ := nm_some h
  refine Y_put (pc := 26) hC sm_0 fl_Mo_150 rfl (by decide) fp_Mo ft_Mo_11 rfl rfl hw hV6 d_Mo_clear_26 ?_
  refine Y_aload_n (pc := 29) hC d_Mo_clear_29 rfl 0 rfl ?_
  refine Y_iconst (pc := 30) hC d_Mo_clear_30 ki_0 ?_
  obtain ⟨V7, hV7, h⟩ := nm_some h
  refine Y_put (pc := 31) hC sm_0 fl_Mo_157 rfl (by decide) fp_Mo ft_Mo_13 rfl rfl hw hV7 d_Mo_clear_31 ?_
  refine Y_aload_n (pc := 34) hC d_Mo_clear_34 rfl 0 rfl ?_
  refine Y_iconst (pc := 35) hC d_Mo_clear_35 ki_0 ?_
  obtain ⟨V8, hV8, h⟩ := nm_some h
  refine Y_put (pc := 36) hC sm_0 fl_Mo_167 rfl (by decide) fp_Mo ft_Mo_20 rfl rfl hw hV8 d_Mo_clear_36 ?_
  refine Y_aload_n (pc := 39) hC d_Mo_clear_39 rfl 0 rfl ?_
  refine Y_iconst (pc := 40) hC d_Mo_clear_40 ki_m1 ?_
  obtain ⟨V9, hV9, h⟩ := nm_some h
  refine Y_put (pc := 41) hC sm_0 fl_Mo_69 rfl (by decide) fp_Mo ft_Mo_26 rfl rfl hw hV9 d_Mo_clear_41 ?_
  refine Y_aload_n (pc := 44) hC d_Mo_clear_44 rfl 0 rfl ?_
  refine Y_iconst (pc := 45) hC d_Mo_clear_45 ki_0 ?_
  obtain ⟨V10, hV10, h⟩ := nm_some h
  refine Y_put (pc := 46) hC sm_0 fl_Mo_170 rfl (by decide) fp_Mo ft_Mo_27 rfl rfl hw hV10 d_Mo_clear_46 ?_
  refine Y_aload_n (pc := 49) hC d_Mo_clear_49 rfl 0 rfl ?_
  refine Y_iconst (pc := 50) hC d_Mo_clear_50 ki_0 ?_
  obtain ⟨V11, hV11, h⟩ := nm_some h
  refine Y_put (pc := 51) hC sm_0 fl_Mo_173 rfl (by decide) fp_Mo ft_Mo_28 rfl rfl hw hV11 d_Mo_clear_51 ?_
  exact Y_vret (pc := 54) hC hE d_Mo_clear_54 h
set_option maxHeartbeats 4000000 in
set_option maxRecDepth 100000 in
theorem c_Mo_fail (l : Launch) (D : va_G) (cI cZ : ClassId) (a : Nat → Nat) {V : Sto} {p1 : Int32} {p2 : Int32} {p3 : Int32} {r : Int32} {V' : Sto} (h : f_Mo_fail V p1 p2 p3 = some (r, V')) : YMi l D cI cZ a shpM y_Mo_fail b_Mo_fail 4 (some .boolean) rm_Mo_fail true [.ref (a 0), .int p1, .int p2, .int p3] V r V' := by
  refine YMi_of (by decide) (Nat.le_of_ble_eq_true rfl) ?_
  intro C hl hDD hcI hcZ ha hC hw hE
  subst hl hDD hcI hcZ ha
  show Y C shpM 4 0 [(0, .ref (C.a 0)), (1, .int p1), (2, .int p2), (3, .int p3)] [] V
  have hw := hw rfl
  rw [f_Mo_fail] at h
  refine Y_aload_n (pc := 0) hC d_Mo_fail_0 rfl 0 rfl ?_
  refine Y_iload_n (pc := 1) hC d_Mo_fail_1 rfl 1 rfl ?_
  obtain ⟨V1, hV1, h⟩ := nm_some h
  refine Y_put (pc := 2) hC sm_0 fl_Mo_122 rfl (by decide) fp_Mo ft_Mo_30 rfl rfl hw hV1 d_Mo_fail_2 ?_
  refine Y_aload_n (pc := 5) hC d_Mo_fail_5 rfl 0 rfl ?_
  refine Y_iload_n (pc := 6) hC d_Mo_fail_6 rfl 2 rfl ?_
  obtain ⟨V2, hV2, h⟩ := nm_some h
  refine Y_put (pc := 7) hC sm_0 fl_Mo_73 rfl (by decide) fp_Mo ft_Mo_31 rfl rfl hw hV2 d_Mo_fail_7 ?_
  refine Y_aload_n (pc := 10) hC d_Mo_fail_10 rfl 0 rfl ?_
  refine Y_iload_n (pc := 11) hC d_Mo_fail_11 rfl 3 rfl ?_
  obtain ⟨V3, hV3, h⟩ := nm_some h
  refine Y_put (pc := 12) hC sm_0 fl_Mo_76 rfl (by decide) fp_Mo ft_Mo_32 rfl rfl hw hV3 d_Mo_fail_12 ?_
  refine Y_iconst (pc := 15) hC d_Mo_fail_15 ki_0 ?_
  exact Y_zret (pc := 16) hC hE d_Mo_fail_16 rfl h
set_option maxHeartbeats 4000000 in
set_option maxRecDepth 100000 in
theorem ylp_Mo_isGiven_4 {C : YC} {r : Int32} {V' : Sto} {x1 : Int32} {k71 : Int32 → Sto → RT} (hC : YF C R_Mo b_Mo_isGiven 4 rm_Mo_isGiven) (hE : YEi C .boolean shpM r V') (hk71 : ∀ (y2 : Int32) (V1 : Sto), k71 y2 V1 = some (r, V') → Y C shpM 4 71 [(2, .int y2)] [] V1) : ∀ (n : Nat) (x2 x3 : Int32) (V : Sto), lp_Mo_isGiven_4 x1 k71 n x2 x3 V = some (r, V') → Y C shpM 4 4 [(0, .ref (C.a 0)), (1, .int x1), (2, .int x2), (3, .int x3)] [] V := by
  intro n
  induction n with
  | zero =>
    intro x2 x3 V h
    rw [lp_Mo_isGiven_4] at h
    cases h
  | succ n ih =>
    intro x2 x3 V h
    rw [lp_Mo_isGiven_4] at h
    refine Y_iload_n (pc := 4) hC d_Mo_isGiven_4 rfl 3 rfl ?_
    refine Y_aload_n (pc := 5) hC d_Mo_isGiven_5 rfl 0 rfl ?_
    refine Y_getI (pc := 6) hC sm_0 fl_Mo_157 rfl d_Mo_isGiven_6 ?_
    refine Y_icmp_ge (pc := 9) hC 71 d_Mo_isGiven_9 rfl (fun cc_9 => ?_) (fun cc_9 => ?_)
    · have h := ifp cc_9 h
      refine Y_sub (pc := 71) [2] rfl ?_
      exact hk71 _ _ h
    · have h := ifn cc_9 h
      refine Y_iload_n (pc := 12) hC d_Mo_isGiven_12 rfl 2 rfl ?_
      refine Y_if_ne (pc := 13) hC 59 d_Mo_isGiven_13 rfl (fun cc_13 => ?_) (fun cc_13 => ?_)
      · have h := ifn cc_13 h
        refine Y_iconst (pc := 59) hC d_Mo_isGiven_59 ki_1 ?_
        refine Y_goto (pc := 60) hC 64 d_Mo_isGiven_60 rfl ?_
        refine Y_istore_n (pc := 64) hC (L' := [(2, .int 1), (0, .ref (C.a 0)), (1, .int x1), (3, .int x3)]) d_Mo_isGiven_64 rfl (by decide) rfl ?_
        refine Y_iinc (pc := 65) hC (v := x3 + 1) (L' := [(3, .int (x3 + 1)), (2, .int 1), (0, .ref (C.a 0)), (1, .int x1)]) d_Mo_isGiven_65 3 rfl rfl (by decide) rfl ?_
        refine Y_goto (pc := 68) hC 4 d_Mo_isGiven_68 rfl ?_
        refine Y_sub (pc := 4) [2, 3, 1, 0] rfl ?_
        exact ih _ _ _ h
      · have h := ifp cc_13 h
        refine Y_aload_n (pc := 16) hC d_Mo_isGiven_16 rfl 0 rfl ?_
        refine Y_getR (pc := 17) hC sm_0 fl_Mo_79 rfl d_Mo_isGiven_17 ?_
        refine Y_aload_n (pc := 20) hC d_Mo_isGiven_20 rfl 0 rfl ?_
        refine Y_getR (pc := 21) hC sm_0 fl_Mo_36 rfl d_Mo_isGiven_21 ?_
        refine Y_iload_n (pc := 24) hC d_Mo_isGiven_24 rfl 3 rfl ?_
        obtain ⟨hi, h⟩ := ck_some h
        refine Y_iald (pc := 25) hC sm_9 rfl hi d_Mo_isGiven_25 ?_
        obtain ⟨hi, h⟩ := ck_some h
        refine Y_zald (pc := 26) hC sm_20 rfl hi d_Mo_isGiven_26 ?_
        refine Y_if_eq (pc := 27) hC 63 d_Mo_isGiven_27 rfl (fun cc_27 => ?_) (fun cc_27 => ?_)
        · have h := ifp cc_27 h
          refine Y_iconst (pc := 63) hC d_Mo_isGiven_63 ki_0 ?_
          refine Y_istore_n (pc := 64) hC (L' := [(2, .int 0), (0, .ref (C.a 0)), (1, .int x1), (3, .int x3)]) d_Mo_isGiven_64 rfl (by decide) rfl ?_
          refine Y_iinc (pc := 65) hC (v := x3 + 1) (L' := [(3, .int (x3 + 1)), (2, .int 0), (0, .ref (C.a 0)), (1, .int x1)]) d_Mo_isGiven_65 3 rfl rfl (by decide) rfl ?_
          refine Y_goto (pc := 68) hC 4 d_Mo_isGiven_68 rfl ?_
          refine Y_sub (pc := 4) [2, 3, 1, 0] rfl ?_
          exact ih _ _ _ h
        · have h := ifn cc_27 h
          refine Y_aload_n (pc := 30) hC d_Mo_isGiven_30 rfl 0 rfl ?_
          refine Y_getR (pc := 31) hC sm_0 fl_Mo_48 rfl d_Mo_isGiven_31 ?_
          refine Y_iload_n (pc := 34) hC d_Mo_isGiven_34 rfl 3 rfl ?_
          obtain ⟨hi, h⟩ := ck_some h
          refine Y_iald (pc := 35) hC sm_13 rfl hi d_Mo_isGiven_35 ?_
          refine Y_iload_n (pc := 36) hC d_Mo_isGiven_36 rfl 1 rfl ?_
          refine Y_icmp_ne (pc := 37) hC 63 d_Mo_isGiven_37 rfl (fun cc_37 => ?_) (fun cc_37 => ?_)
          · have h := ifn cc_37 h
            refine Y_iconst (pc := 63) hC d_Mo_isGiven_63 ki_0 ?_
            refine Y_istore_n (pc := 64) hC (L' := [(2, .int 0), (0, .ref (C.a 0)), (1, .int x1), (3, .int x3)]) d_Mo_isGiven_64 rfl (by decide) rfl ?_
            refine Y_iinc (pc := 65) hC (v := x3 + 1) (L' := [(3, .int (x3 + 1)), (2, .int 0), (0, .ref (C.a 0)), (1, .int x1)]) d_Mo_isGiven_65 3 rfl rfl (by decide) rfl ?_
            refine Y_goto (pc := 68) hC 4 d_Mo_isGiven_68 rfl ?_
            refine Y_sub (pc := 4) [2, 3, 1, 0] rfl ?_
            exact ih _ _ _ h
          · have h := ifp cc_37 h
            refine Y_aload_n (pc := 40) hC d_Mo_isGiven_40 rfl 0 rfl ?_
            refine Y_getR (pc := 41) hC sm_0 fl_Mo_39 rfl d_Mo_isGiven_41 ?_
            refine Y_iload_n (pc := 44) hC d_Mo_isGiven_44 rfl 3 rfl ?_
            obtain ⟨hi, h⟩ := ck_some h
            refine Y_iald (pc := 45) hC sm_10 rfl hi d_Mo_isGiven_45 ?_
            refine Y_iconst (pc := 46) hC d_Mo_isGiven_46 ki_1 ?_
            refine Y_icmp_eq (pc := 47) hC 63 d_Mo_isGiven_47 rfl (fun cc_47 => ?_) (fun cc_47 => ?_)
            · have h := ifp cc_47 h
              refine Y_iconst (pc := 63) hC d_Mo_isGiven_63 ki_0 ?_
              refine Y_istore_n (pc := 64) hC (L' := [(2, .int 0), (0, .ref (C.a 0)), (1, .int x1), (3, .int x3)]) d_Mo_isGiven_64 rfl (by decide) rfl ?_
              refine Y_iinc (pc := 65) hC (v := x3 + 1) (L' := [(3, .int (x3 + 1)), (2, .int 0), (0, .ref (C.a 0)), (1, .int x1)]) d_Mo_isGiven_65 3 rfl rfl (by decide) rfl ?_
              refine Y_goto (pc := 68) hC 4 d_Mo_isGiven_68 rfl ?_
              refine Y_sub (pc := 4) [2, 3, 1, 0] rfl ?_
              exact ih _ _ _ h
            · have h := ifn cc_47 h
              refine Y_aload_n (pc := 50) hC d_Mo_isGiven_50 rfl 0 rfl ?_
              refine Y_getR (pc := 51) hC sm_0 fl_Mo_51 rfl d_Mo_isGiven_51 ?_
              refine Y_iload_n (pc := 54) hC d_Mo_isGiven_54 rfl 3 rfl ?_
              obtain ⟨hi, h⟩ := ck_some h
              refine Y_iald (pc := 55) hC sm_14 rfl hi d_Mo_isGiven_55 ?_
              refine Y_if_eq (pc := 56) hC 63 d_Mo_isGiven_56 rfl (fun cc_56 => ?_) (fun cc_56 => ?_)
              · have h := ifp cc_56 h
                refine Y_iconst (pc := 63) hC d_Mo_isGiven_63 ki_0 ?_
                refine Y_istore_n (pc := 64) hC (L' := [(2, .int 0), (0, .ref (C.a 0)), (1, .int x1), (3, .int x3)]) d_Mo_isGiven_64 rfl (by decide) rfl ?_
                refine Y_iinc (pc := 65) hC (v := x3 + 1) (L' := [(3, .int (x3 + 1)), (2, .int 0), (0, .ref (C.a 0)), (1, .int x1)]) d_Mo_isGiven_65 3 rfl rfl (by decide) rfl ?_
                refine Y_goto (pc := 68) hC 4 d_Mo_isGiven_68 rfl ?_
                refine Y_sub (pc := 4) [2, 3, 1, 0] rfl ?_
                exact ih _ _ _ h
              · have h := ifn cc_56 h
                refine Y_iconst (pc := 59) hC d_Mo_isGiven_59 ki_1 ?_
                refine Y_goto (pc := 60) hC 64 d_Mo_isGiven_60 rfl ?_
                refine Y_istore_n (pc := 64) hC (L' := [(2, .int 1), (0, .ref (C.a 0)), (1, .int x1), (3, .int x3)]) d_Mo_isGiven_64 rfl (by decide) rfl ?_
                refine Y_iinc (pc := 65) hC (v := x3 + 1) (L' := [(3, .int (x3 + 1)), (2, .int 1), (0, .ref (C.a 0)), (1, .int x1)]) d_Mo_isGiven_65 3 rfl rfl (by decide) rfl ?_
                refine Y_goto (pc := 68) hC 4 d_Mo_isGiven_68 rfl ?_
                refine Y_sub (pc := 4) [2, 3, 1, 0] rfl ?_
                exact ih _ _ _ h
set_option maxHeartbeats 4000000 in
set_option maxRecDepth 100000 in
theorem c_Mo_isGiven (l : Launch) (D : va_G) (cI cZ : ClassId) (a : Nat → Nat) {V : Sto} {p1 : Int32} {r : Int32} {V' : Sto} (h : f_Mo_isGiven V p1 = some (r, V')) : YMi l D cI cZ a shpM y_Mo_isGiven b_Mo_isGiven 4 (some .boolean) rm_Mo_isGiven false [.ref (a 0), .int p1] V r V' := by
  refine YMi_of (by decide) (Nat.le_of_ble_eq_true rfl) ?_
  intro C hl hDD hcI hcZ ha hC hw hE
  subst hl hDD hcI hcZ ha
  show Y C shpM 4 0 [(0, .ref (C.a 0)), (1, .int p1)] [] V
  rw [f_Mo_isGiven] at h
  refine Y_iconst (pc := 0) hC d_Mo_isGiven_0 ki_0 ?_
  refine Y_istore_n (pc := 1) hC (L' := [(2, .int 0), (0, .ref (C.a 0)), (1, .int p1)]) d_Mo_isGiven_1 rfl (by decide) rfl ?_
  refine Y_iconst (pc := 2) hC d_Mo_isGiven_2 ki_0 ?_
  refine Y_istore_n (pc := 3) hC (L' := [(3, .int 0), (2, .int 0), (0, .ref (C.a 0)), (1, .int p1)]) d_Mo_isGiven_3 rfl (by decide) rfl ?_
  refine Y_sub (pc := 4) [2, 3, 1, 0] rfl ?_
  refine ylp_Mo_isGiven_4 hC hE (fun y1 V1 h => ?_) FU _ _ _ h
  refine Y_iload_n (pc := 71) hC d_Mo_isGiven_71 rfl 0 rfl ?_
  obtain ⟨hbb, h⟩ := ck_some h
  exact Y_zret (pc := 72) hC hE d_Mo_isGiven_72 hbb h
