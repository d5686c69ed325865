set_option maxHeartbeats 4000000 in
set_option maxRecDepth 100000 in
theorem c_Na_giveMeaning (l : Launch) (D : va_G) (cI cZ : ClassId) (a : Nat → Nat) {V : Sto} {p1 : Int32} {r : Int32} {V' : Sto} (h : f_Na_giveMeaning V p1 = some (r, V')) : YMv l D cI cZ a shpC y_Na_giveMeaning b_Na_giveMeaning 3 rm_Na_giveMeaning true [.ref (a 6), .int p1] V V' := by
  refine YMv_of (by decide) (Nat.le_of_ble_eq_true rfl) ?_
  intro C hl hDD hcI hcZ ha hC hw hE
  subst hl hDD hcI hcZ ha
  show Y C shpC 3 0 [(0, .ref (C.a 6)), (1, .int p1)] [] V
  have hw := hw rfl
  rw [f_Na_giveMeaning] at h
  refine Y_aload_n (pc := 0) hC d_Na_giveMeaning_0 rfl 0 rfl ?_
  refine Y_getR (pc := 1) hC sc_6 fl_Na_34 rfl d_Na_giveMeaning_1 ?_
  refine Y_getR (pc := 4) hC sc_3 fl_Na_73 rfl d_Na_giveMeaning_4 ?_
  refine Y_iload_n (pc := 7) hC d_Na_giveMeaning_7 rfl 1 rfl ?_
  obtain ⟨hi, h⟩ := ck_some h
  refine Y_iald (pc := 8) hC sc_22 rfl hi d_Na_giveMeaning_8 ?_
  refine Y_istore_n (pc := 9) hC (L' := [(2, .int (V 22 p1.toNatClampNeg)), (0, .ref (C.a 6)), (1, .int p1)]) d_Na_giveMeaning_9 rfl (by decide) rfl ?_
  refine Y_aload_n (pc := 10) hC d_Na_giveMeaning_10 rfl 1 rfl ?_
  refine Y_getR (pc := 11) hC sc_6 fl_Na_30 rfl d_Na_giveMeaning_11 ?_
  refine Y_getR (pc := 14) hC sc_1 fl_Na_53 rfl d_Na_giveMeaning_14 ?_
  refine Y_aload_n (pc := 17) hC d_Na_giveMeaning_17 rfl 1 rfl ?_
  refine Y_getR (pc := 18) hC sc_6 fl_Na_34 rfl d_Na_giveMeaning_18 ?_
  refine Y_getR (pc := 21) hC sc_3 fl_Na_59 rfl d_Na_giveMeaning_21 ?_
  refine Y_iload_n (pc := 24) hC d_Na_giveMeaning_24 rfl 2 rfl ?_
  obtain ⟨hi, h⟩ := ck_some h
  refine Y_iald (pc := 25) hC sc_21 rfl hi d_Na_giveMeaning_25 ?_
  obtain ⟨hi, h⟩ := ck_some h
  refine Y_zald (pc := 26) hC sc_13 rfl hi d_Na_giveMeaning_26 ?_
  refine Y_if_ne (pc := 27) hC 41 d_Na_giveMeaning_27 rfl (fun cc_27 => ?_) (fun cc_27 => ?_)
  · have h := ifn cc_27 h
    refine Y_aload_n (pc := 41) hC d_Na_giveMeaning_41 rfl 1 rfl ?_
    refine Y_getR (pc := 42) hC sc_6 fl_Na_34 rfl d_Na_giveMeaning_42 ?_
    refine Y_getR (pc := 45) hC sc_3 fl_Na_76 rfl d_Na_giveMeaning_45 ?_
    refine Y_iload_n (pc := 48) hC d_Na_giveMeaning_48 rfl 2 rfl ?_
    obtain ⟨hi, h⟩ := ck_some h
    refine Y_iald (pc := 49) hC sc_23 rfl hi d_Na_giveMeaning_49 ?_
    refine Y_if_ne (pc := 50) hC 62 d_Na_giveMeaning_50 rfl (fun cc_50 => ?_) (fun cc_50 => ?_)
    · have h := ifn cc_50 h
      refine Y_aload_n (pc := 62) hC d_Na_giveMeaning_62 rfl 1 rfl ?_
      refine Y_iload_n (pc := 63) hC d_Na_giveMeaning_63 rfl 0 rfl ?_
      obtain ⟨r1, V1, hc_r1, h⟩ := cl_some h
      refine Y_callV (pc := 64) hC (c_Na_isCommon C.l C.D C.cI C.cZ C.a hc_r1) (fun q => nomatch q) sc_6 cls_Na ml_Na_93 mv_Na_isCommon (by decide) (Nat.le_of_ble_eq_true rfl) rfl d_Na_giveMeaning_64 ?_
      refine Y_if_eq (pc := 67) hC 81 d_Na_giveMeaning_67 rfl (fun cc_67 => ?_) (fun cc_67 => ?_)
      · have h := ifp cc_67 h
        refine Y_aload_n (pc := 81) hC d_Na_giveMeaning_81 rfl 1 rfl ?_
        refine Y_iload_n (pc := 82) hC d_Na_giveMeaning_82 rfl 0 rfl ?_
        obtain ⟨r2, V2, hc_r2, h⟩ := cl_some h
        refine Y_callV (pc := 83) hC (c_Na_definer C.l C.D C.cI C.cZ C.a hc_r2) (fun q => nomatch q) sc_6 cls_Na ml_Na_96 mv_Na_definer (by decide) (Nat.le_of_ble_eq_true rfl) rfl d_Na_giveMeaning_83 ?_
        refine Y_iconst (pc := 86) hC d_Na_giveMeaning_86 ki_m1 ?_
        refine Y_icmp_eq (pc := 87) hC 103 d_Na_giveMeaning_87 rfl (fun cc_87 => ?_) (fun cc_87 => ?_)
        · have h := ifp cc_87 h
          refine Y_aload_n (pc := 103) hC d_Na_giveMeaning_103 rfl 1 rfl ?_
          refine Y_getR (pc := 104) hC sc_6 fl_Na_34 rfl d_Na_giveMeaning_104 ?_
          refine Y_getR (pc := 107) hC sc_3 fl_Na_76 rfl d_Na_giveMeaning_107 ?_
          refine Y_iload_n (pc := 110) hC d_Na_giveMeaning_110 rfl 2 rfl ?_
          obtain ⟨hi, h⟩ := ck_some h
          refine Y_iald (pc := 111) hC sc_23 rfl hi d_Na_giveMeaning_111 ?_
          refine Y_iconst (pc := 112) hC d_Na_giveMeaning_112 ki_2 ?_
          refine Y_icmp_ne (pc := 113) hC 127 d_Na_giveMeaning_113 rfl (fun cc_113 => ?_) (fun cc_113 => ?_)
          · have h := ifn cc_113 h
            refine Y_aload_n (pc := 127) hC d_Na_giveMeaning_127 rfl 1 rfl ?_
            refine Y_iload_n (pc := 128) hC d_Na_giveMeaning_128 rfl 2 rfl ?_
            refine Y_iconst (pc := 129) hC d_Na_giveMeaning_129 ki_0 ?_
            refine Y_iconst (pc := 130) hC d_Na_giveMeaning_130 ki_m1 ?_
            refine Y_iconst (pc := 131) hC d_Na_giveMeaning_131 ki_0 ?_
            obtain ⟨r3, V3, hc_r3, h⟩ := cl_some h
            refine Y_callVv (pc := 132) hC (c_Na_setMeaning C.l C.D C.cI C.cZ C.a hc_r3) (fun _ => hw) sc_6 cls_Na ml_Na_103 mv_Na_setMeaning (by decide) (Nat.le_of_ble_eq_true rfl) rfl d_Na_giveMeaning_132 ?_
            exact Y_vret (pc := 135) hC hE d_Na_giveMeaning_135 h
          · have h := ifp cc_113 h
            refine Y_aload_n (pc := 116) hC d_Na_giveMeaning_116 rfl 1 rfl ?_
            refine Y_iload_n (pc := 117) hC d_Na_giveMeaning_117 rfl 2 rfl ?_
            refine Y_iconst (pc := 118) hC d_Na_giveMeaning_118 ki_2 ?_
            refine Y_iconst (pc := 119) hC d_Na_giveMeaning_119 ki_m1 ?_
            refine Y_iconst (pc := 120) hC d_Na_giveMeaning_120 ki_0 ?_
            obtain ⟨r4, V4, hc_r4, h⟩ := cl_some h
            refine Y_callVv (pc := 121) hC (c_Na_setMeaning C.l C.D C.cI C.cZ C.a hc_r4) (fun _ => hw) sc_6 cls_Na ml_Na_103 mv_Na_setMeaning (by decide) (Nat.le_of_ble_eq_true rfl) rfl d_Na_giveMeaning_121 ?_
            refine Y_goto (pc := 124) hC 135 d_Na_giveMeaning_124 rfl ?_
            exact Y_vret (pc := 135) hC hE d_Na_giveMeaning_135 h
        · have h := ifn cc_87 h
          refine Y_aload_n (pc := 90) hC d_Na_giveMeaning_90 rfl 1 rfl ?_
          refine Y_iload_n (pc := 91) hC d_Na_giveMeaning_91 rfl 2 rfl ?_
          refine Y_aload_n (pc := 92) hC d_Na_giveMeaning_92 rfl 1 rfl ?_
          refine Y_iload_n (pc := 93) hC d_Na_giveMeaning_93 rfl 0 rfl ?_
          obtain ⟨r5, V5, hc_r5, h⟩ := cl_some h
          refine Y_callV (pc := 94) hC (c_Na_definer C.l C.D C.cI C.cZ C.a hc_r5) (fun q => nomatch q) sc_6 cls_Na ml_Na_96 mv_Na_definer (by decide) (Nat.le_of_ble_eq_true rfl) rfl d_Na_giveMeaning_94 ?_
          obtain ⟨r6, V6, hc_r6, h⟩ := cl_some h
          refine Y_callVv (pc := 97) hC (c_Na_copyMeaning C.l C.D C.cI C.cZ C.a hc_r6) (fun _ => hw) sc_6 cls_Na ml_Na_107 mv_Na_copyMeaning (by decide) (Nat.le_of_ble_eq_true rfl) rfl d_Na_giveMeaning_97 ?_
          refine Y_goto (pc := 100) hC 135 d_Na_giveMeaning_100 rfl ?_
          exact Y_vret (pc := 135) hC hE d_Na_giveMeaning_135 h
      · have h := ifn cc_67 h
        refine Y_aload_n (pc := 70) hC d_Na_giveMeaning_70 rfl 1 rfl ?_
        refine Y_iload_n (pc := 71) hC d_Na_giveMeaning_71 rfl 2 rfl ?_
        refine Y_iconst (pc := 72) hC d_Na_giveMeaning_72 ki_3 ?_
        refine Y_iload_n (pc := 73) hC d_Na_giveMeaning_73 rfl 0 rfl ?_
        refine Y_iconst (pc := 74) hC d_Na_giveMeaning_74 ki_0 ?_
        obtain ⟨r7, V7, hc_r7, h⟩ := cl_some h
        refine Y_callVv (pc := 75) hC (c_Na_setMeaning C.l C.D C.cI C.cZ C.a hc_r7) (fun _ => hw) sc_6 cls_Na ml_Na_103 mv_Na_setMeaning (by decide) (Nat.le_of_ble_eq_true rfl) rfl d_Na_giveMeaning_75 ?_
        refine Y_goto (pc := 78) hC 135 d_Na_giveMeaning_78 rfl ?_
        exact Y_vret (pc := 135) hC hE d_Na_giveMeaning_135 h
    · have h := ifp cc_50 h
      refine Y_aload_n (pc := 53) hC d_Na_giveMeaning_53 rfl 1 rfl ?_
      refine Y_iload_n (pc := 54) hC d_Na_giveMeaning_54 rfl 2 rfl ?_
      refine Y_iload_n (pc := 55) hC d_Na_giveMeaning_55 rfl 2 rfl ?_
      obtain ⟨r8, V8, hc_r8, h⟩ := cl_some h
      refine Y_callVv (pc := 56) hC (c_Na_copyMeaning C.l C.D C.cI C.cZ C.a hc_r8) (fun _ => hw) sc_6 cls_Na ml_Na_107 mv_Na_copyMeaning (by decide) (Nat.le_of_ble_eq_true rfl) rfl d_Na_giveMeaning_56 ?_
      refine Y_goto (pc := 59) hC 135 d_Na_giveMeaning_59 rfl ?_
      exact Y_vret (pc := 135) hC hE d_Na_giveMeaning_135 h
  · have h := ifp cc_27 h
    refine Y_aload_n (pc := 30) hC d_Na_giveMeaning_30 rfl 1 rfl ?_
    refine Y_iload_n (pc := 31) hC d_Na_giveMeaning_31 rfl 2 rfl ?_
    refine Y_iconst (pc := 32) hC d_Na_giveMeaning_32 ki_m1 ?_
    refine Y_iconst (pc := 33) hC d_Na_giveMeaning_33 ki_m1 ?_
    refine Y_iconst (pc := 34) hC d_Na_giveMeaning_34 ki_0 ?_
    obtain ⟨r9, V9, hc_r9, h⟩ := cl_some h
    refine Y_callVv (pc := 35) hC (c_Na_setMeaning C.l C.D C.cI C.cZ C.a hc_r9) (fun _ => hw) sc_6 cls_Na ml_Na_103 mv_Na_setMeaning (by decide) (Nat.le_of_ble_eq_true rfl) rfl d_Na_giveMeaning_35 ?_
    refine Y_goto (pc := 38) hC 135 d_Na_giveMeaning_38 rfl ?_
    exact Y_vret (pc := 135) hC hE d_Na_giveMeaning_135 h
set_option maxHeartbeats 4000000 in
set_option maxRecDepth 100000 in
theorem c_Na_takeGlobal (l : Launch) (D : va_G) (cI cZ : ClassId) (a : Nat → Nat) {V : Sto} {p1 : Int32} {p2 : Int32} {r : Int32} {V' : Sto} (h : f_Na_takeGlobal V p1 p2 = some (r, V')) : YMv l D cI cZ a shpC y_Na_takeGlobal b_Na_takeGlobal 3 rm_Na_takeGlobal true [.ref (a 6), .int p1, .int p2] V V' := by
  refine YMv_of (by decide) (Nat.le_of_ble_eq_true rfl) ?_
  intro C hl hDD hcI hcZ ha hC hw hE
  subst hl hDD hcI hcZ ha
  show Y C shpC 3 0 [(0, .ref (C.a 6)), (1, .int p1), (2, .int p2)] [] V
  have hw := hw rfl
  rw [f_Na_takeGlobal] at h
  refine Y_aload_n (pc := 0) hC d_Na_takeGlobal_0 rfl 0 rfl ?_
  refine Y_getR (pc := 1) hC sc_6 fl_Na_9 rfl d_Na_takeGlobal_1 ?_
  refine Y_iload_n (pc := 4) hC d_Na_takeGlobal_4 rfl 1 rfl ?_
  obtain ⟨hi, h⟩ := ck_some h
  refine Y_iald (pc := 5) hC sc_37 rfl hi d_Na_takeGlobal_5 ?_
  refine Y_iconst (pc := 6) hC d_Na_takeGlobal_6 ki_m1 ?_
  refine Y_icmp_ne (pc := 7) hC 20 d_Na_takeGlobal_7 rfl (fun cc_7 => ?_) (fun cc_7 => ?_)
  · have h := ifn cc_7 h
    refine Y_aload_n (pc := 20) hC d_Na_takeGlobal_20 rfl 0 rfl ?_
    refine Y_getI (pc := 21) hC sc_6 fl_Na_44 rfl d_Na_takeGlobal_21 ?_
    refine Y_iconst (pc := 24) hC d_Na_takeGlobal_24 ki_m1 ?_
    refine Y_icmp_eq (pc := 25) hC 36 d_Na_takeGlobal_25 rfl (fun cc_25 => ?_) (fun cc_25 => ?_)
    · have h := ifp cc_25 h
      refine Y_aload_n (pc := 36) hC d_Na_takeGlobal_36 rfl 0 rfl ?_
      refine Y_iload_n (pc := 37) hC d_Na_takeGlobal_37 rfl 1 rfl ?_
      obtain ⟨V1, hV1, h⟩ := nm_some h
      refine Y_put (pc := 38) hC sc_6 fl_Na_44 rfl (by decide) fp_Na ft_Na_5 rfl rfl hw hV1 d_Na_takeGlobal_38 ?_
      exact Y_vret (pc := 41) hC hE d_Na_takeGlobal_41 h
    · have h := ifn cc_25 h
      refine Y_iload_n (pc := 28) hC d_Na_takeGlobal_28 rfl 1 rfl ?_
      refine Y_aload_n (pc := 29) hC d_Na_takeGlobal_29 rfl 0 rfl ?_
      refine Y_getI (pc := 30) hC sc_6 fl_Na_44 rfl d_Na_takeGlobal_30 ?_
      refine Y_icmp_ge (pc := 33) hC 41 d_Na_takeGlobal_33 rfl (fun cc_33 => ?_) (fun cc_33 => ?_)
      · have h := ifp cc_33 h
        exact Y_vret (pc := 41) hC hE d_Na_takeGlobal_41 h
      · have h := ifn cc_33 h
        refine Y_aload_n (pc := 36) hC d_Na_takeGlobal_36 rfl 0 rfl ?_
        refine Y_iload_n (pc := 37) hC d_Na_takeGlobal_37 rfl 1 rfl ?_
        obtain ⟨V2, hV2, h⟩ := nm_some h
        refine Y_put (pc := 38) hC sc_6 fl_Na_44 rfl (by decide) fp_Na ft_Na_5 rfl rfl hw hV2 d_Na_takeGlobal_38 ?_
        exact Y_vret (pc := 41) hC hE d_Na_takeGlobal_41 h
  · have h := ifp cc_7 h
    refine Y_aload_n (pc := 10) hC d_Na_takeGlobal_10 rfl 0 rfl ?_
    refine Y_getR (pc := 11) hC sc_6 fl_Na_9 rfl d_Na_takeGlobal_11 ?_
    refine Y_iload_n (pc := 14) hC d_Na_takeGlobal_14 rfl 1 rfl ?_
    refine Y_iload_n (pc := 15) hC d_Na_takeGlobal_15 rfl 2 rfl ?_
    obtain ⟨hi, h⟩ := ck_some h
    obtain ⟨V3, hV3, h⟩ := nm_some h
    refine Y_iast (pc := 16) hC sc_37 (by decide) rfl hi hw rfl hV3 d_Na_takeGlobal_16 ?_
    refine Y_goto (pc := 17) hC 41 d_Na_takeGlobal_17 rfl ?_
    exact Y_vret (pc := 41) hC hE d_Na_takeGlobal_41 h
set_option maxHeartbeats 4000000 in
set_option maxRecDepth 100000 in
theorem c_Na_takeWeak (l : Launch) (D : va_G) (cI cZ : ClassId) (a : Nat → Nat) {V : Sto} {p1 : Int32} {p2 : Int32} {r : Int32} {V' : Sto} (h : f_Na_takeWeak V p1 p2 = some (r, V')) : YMv l D cI cZ a shpC y_Na_takeWeak b_Na_takeWeak 3 rm_Na_takeWeak true [.ref (a 6), .int p1, .int p2] V V' := by
  refine YMv_of (by decide) (Nat.le_of_ble_eq_true rfl) ?_
  intro C hl hDD hcI hcZ ha hC hw hE
  subst hl hDD hcI hcZ ha
  show Y C shpC 3 0 [(0, .ref (C.a 6)), (1, .int p1), (2, .int p2)] [] V
  have hw := hw rfl
  rw [f_Na_takeWeak] at h
  refine Y_aload_n (pc := 0) hC d_Na_takeWeak_0 rfl 0 rfl ?_
  refine Y_getR (pc := 1) hC sc_6 fl_Na_15 rfl d_Na_takeWeak_1 ?_
  refine Y_iload_n (pc := 4) hC d_Na_takeWeak_4 rfl 1 rfl ?_
  obtain ⟨hi, h⟩ := ck_some h
  refine Y_iald (pc := 5) hC sc_38 rfl hi d_Na_takeWeak_5 ?_
  refine Y_iconst (pc := 6) hC d_Na_takeWeak_6 ki_m1 ?_
  refine Y_icmp_eq (pc := 7) hC 36 d_Na_takeWeak_7 rfl (fun cc_7 => ?_) (fun cc_7 => ?_)
  · have h := ifp cc_7 h
    refine Y_aload_n (pc := 36) hC d_Na_takeWeak_36 rfl 0 rfl ?_
    refine Y_getR (pc := 37) hC sc_6 fl_Na_15 rfl d_Na_takeWeak_37 ?_
    refine Y_iload_n (pc := 40) hC d_Na_takeWeak_40 rfl 1 rfl ?_
    refine Y_iload_n (pc := 41) hC d_Na_takeWeak_41 rfl 2 rfl ?_
    obtain ⟨hi, h⟩ := ck_some h
    obtain ⟨V1, hV1, h⟩ := nm_some h
    refine Y_iast (pc := 42) hC sc_38 (by decide) rfl hi hw rfl hV1 d_Na_takeWeak_42 ?_
    exact Y_vret (pc := 43) hC hE d_Na_takeWeak_43 h
  · have h := ifn cc_7 h
    refine Y_aload_n (pc := 10) hC d_Na_takeWeak_10 rfl 0 rfl ?_
    refine Y_getR (pc := 11) hC sc_6 fl_Na_34 rfl d_Na_takeWeak_11 ?_
    refine Y_getR (pc := 14) hC sc_3 fl_Na_59 rfl d_Na_takeWeak_14 ?_
    refine Y_iload_n (pc := 17) hC d_Na_takeWeak_17 rfl 2 rfl ?_
    obtain ⟨hi, h⟩ := ck_some h
    refine Y_iald (pc := 18) hC sc_21 rfl hi d_Na_takeWeak_18 ?_
    refine Y_aload_n (pc := 19) hC d_Na_takeWeak_19 rfl 0 rfl ?_
    refine Y_getR (pc := 20) hC sc_6 fl_Na_34 rfl d_Na_takeWeak_20 ?_
    refine Y_getR (pc := 23) hC sc_3 fl_Na_59 rfl d_Na_takeWeak_23 ?_
    refine Y_aload_n (pc := 26) hC d_Na_takeWeak_26 rfl 0 rfl ?_
    refine Y_getR (pc := 27) hC sc_6 fl_Na_15 rfl d_Na_takeWeak_27 ?_
    refine Y_iload_n (pc := 30) hC d_Na_takeWeak_30 rfl 1 rfl ?_
    obtain ⟨hi, h⟩ := ck_some h
    refine Y_iald (pc := 31) hC sc_38 rfl hi d_Na_takeWeak_31 ?_
    obtain ⟨hi, h⟩ := ck_some h
    refine Y_iald (pc := 32) hC sc_21 rfl hi d_Na_takeWeak_32 ?_
    refine Y_icmp_ge (pc := 33) hC 43 d_Na_takeWeak_33 rfl (fun cc_33 => ?_) (fun cc_33 => ?_)
    · have h := ifp cc_33 h
      exact Y_vret (pc := 43) hC hE d_Na_takeWeak_43 h
    · have h := ifn cc_33 h
      refine Y_aload_n (pc := 36) hC d_Na_takeWeak_36 rfl 0 rfl ?_
      refine Y_getR (pc := 37) hC sc_6 fl_Na_15 rfl d_Na_takeWeak_37 ?_
      refine Y_iload_n (pc := 40) hC d_Na_takeWeak_40 rfl 1 rfl ?_
      refine Y_iload_n (pc := 41) hC d_Na_takeWeak_41 rfl 2 rfl ?_
      obtain ⟨hi, h⟩ := ck_some h
      obtain ⟨V2, hV2, h⟩ := nm_some h
      refine Y_iast (pc := 42) hC sc_38 (by decide) rfl hi hw rfl hV2 d_Na_takeWeak_42 ?_
      exact Y_vret (pc := 43) hC hE d_Na_takeWeak_43 h
set_option maxHeartbeats 4000000 in
set_option maxRecDepth 100000 in
theorem c_Na_take (l : Launch) (D : va_G) (cI cZ : ClassId) (a : Nat → Nat) {V : Sto} {p1 : Int32} {r : Int32} {V' : Sto} (h : f_Na_take V p1 = some (r, V')) : YMv l D cI cZ a shpC y_Na_take b_Na_take 3 rm_Na_take true [.ref (a 6), .int p1] V V' := by
  refine YMv_of (by decide) (Nat.le_of_ble_eq_true rfl) ?_
  intro C hl hDD hcI hcZ ha hC hw hE
  subst hl hDD hcI hcZ ha
  show Y C shpC 3 0 [(0, .ref (C.a 6)), (1, .int p1)] [] V
  have hw := hw rfl
  rw [f_Na_take] at h
  refine Y_aload_n (pc := 0) hC d_Na_take_0 rfl 0 rfl ?_
  refine Y_getR (pc := 1) hC sc_6 fl_Na_34 rfl d_Na_take_1 ?_
  refine Y_getR (pc := 4) hC sc_3 fl_Na_73 rfl d_Na_take_4 ?_
  refine Y_iload_n (pc := 7) hC d_Na_take_7 rfl 1 rfl ?_
  obtain ⟨hi, h⟩ := ck_some h
  refine Y_iald (pc := 8) hC sc_22 rfl hi d_Na_take_8 ?_
  refine Y_istore_n (pc := 9) hC (L' := [(2, .int (V 22 p1.toNatClampNeg)), (0, .ref (C.a 6)), (1, .int p1)]) d_Na_take_9 rfl (by decide) rfl ?_
  refine Y_aload_n (pc := 10) hC d_Na_take_10 rfl 1 rfl ?_
  refine Y_getR (pc := 11) hC sc_6 fl_Na_34 rfl d_Na_take_11 ?_
  refine Y_getR (pc := 14) hC sc_3 fl_Na_76 rfl d_Na_take_14 ?_
  refine Y_iload_n (pc := 17) hC d_Na_take_17 rfl 2 rfl ?_
  obtain ⟨hi, h⟩ := ck_some h
  refine Y_iald (pc := 18) hC sc_23 rfl hi d_Na_take_18 ?_
  by_cases cs_19_0 : (V 23 p1.toNatClampNeg) = 1
  · have h := ifp cs_19_0 h
    refine Y_lookup (pc := 19) hC (off := 25) 44 d_Na_take_19 (by decide) (by rw [cs_19_0]; try rfl) rfl ?_
    refine Y_aload_n (pc := 44) hC d_Na_take_44 rfl 1 rfl ?_
    refine Y_iload_n (pc := 45) hC d_Na_take_45 rfl 0 rfl ?_
    refine Y_iload_n (pc := 46) hC d_Na_take_46 rfl 2 rfl ?_
    obtain ⟨r1, V1, hc_r1, h⟩ := cl_some h
    refine Y_callVv (pc := 47) hC (c_Na_takeGlobal C.l C.D C.cI C.cZ C.a hc_r1) (fun _ => hw) sc_6 cls_Na ml_Na_79 mv_Na_takeGlobal (by decide) (Nat.le_of_ble_eq_true rfl) rfl d_Na_take_47 ?_
    refine Y_goto (pc := 50) hC 86 d_Na_take_50 rfl ?_
    exact Y_vret (pc := 86) hC hE d_Na_take_86 h
  · have h := ifn cs_19_0 h
    by_cases cs_19_1 : (V 23 p1.toNatClampNeg) = 3
    · have h := ifp cs_19_1 h
      refine Y_lookup (pc := 19) hC (off := 34) 53 d_Na_take_19 (by decide) (by rw [cs_19_1]; try rfl) rfl ?_
      refine Y_aload_n (pc := 53) hC d_Na_take_53 rfl 1 rfl ?_
      refine Y_getR (pc := 54) hC sc_6 fl_Na_18 rfl d_Na_take_54 ?_
      refine Y_iload_n (pc := 57) hC d_Na_take_57 rfl 0 rfl ?_
      refine Y_aload_n (pc := 58) hC d_Na_take_58 rfl 1 rfl ?_
      refine Y_getR (pc := 59) hC sc_6 fl_Na_18 rfl d_Na_take_59 ?_
      refine Y_iload_n (pc := 62) hC d_Na_take_62 rfl 0 rfl ?_
      obtain ⟨hi, h⟩ := ck_some h
      refine Y_iald (pc := 63) hC sc_39 rfl hi d_Na_take_63 ?_
      refine Y_aload_n (pc := 64) hC d_Na_take_64 rfl 1 rfl ?_
      refine Y_getR (pc := 65) hC sc_6 fl_Na_34 rfl d_Na_take_65 ?_
      refine Y_getR (pc := 68) hC sc_3 fl_Na_83 rfl d_Na_take_68 ?_
      refine Y_iload_n (pc := 71) hC d_Na_take_71 rfl 2 rfl ?_
      obtain ⟨hi, h⟩ := ck_some h
      refine Y_iald (pc := 72) hC sc_26 rfl hi d_Na_take_72 ?_
      refine Y_mmax (pc := 73) hC mm_Na_84 (by decide) (Nat.le_of_ble_eq_true rfl) d_Na_take_73 ?_
      obtain ⟨hi, h⟩ := ck_some h
      obtain ⟨V2, hV2, h⟩ := nm_some h
      refine Y_iast (pc := 76) hC sc_39 (by decide) rfl hi hw rfl hV2 d_Na_take_76 ?_
      refine Y_goto (pc := 77) hC 86 d_Na_take_77 rfl ?_
      exact Y_vret (pc := 86) hC hE d_Na_take_86 h
    · have h := ifn cs_19_1 h
      have cn_0 := i32_ne cs_19_0
      have cn_1 := i32_ne cs_19_1
      simp only [i32lit_1, i32lit_3] at cn_0 cn_1
      refine Y_lookup (pc := 19) hC (off := 61) 80 d_Na_take_19 (by decide) (by simp [Op.lookupswitch.offset, Ne.symm cn_0, cn_0, Ne.symm cn_1, cn_1]) rfl ?_
      refine Y_aload_n (pc := 80) hC d_Na_take_80 rfl 1 rfl ?_
      refine Y_iload_n (pc := 81) hC d_Na_take_81 rfl 0 rfl ?_
      refine Y_iload_n (pc := 82) hC d_Na_take_82 rfl 2 rfl ?_
      obtain ⟨r2, V3, hc_r2, h⟩ := cl_some h
      refine Y_callVv (pc := 83) hC (c_Na_takeWeak C.l C.D C.cI C.cZ C.a hc_r2) (fun _ => hw) sc_6 cls_Na ml_Na_90 mv_Na_takeWeak (by decide) (Nat.le_of_ble_eq_true rfl) rfl d_Na_take_83 ?_
      exact Y_vret (pc := 86) hC hE d_Na_take_86 h
set_option maxHeartbeats 4000000 in
set_option maxRecDepth 100000 in
theorem ylp_fill37_5 {C : YC} {r : Int32} {V' : Sto} {x1 : Int32} {x3 : Int32} {k20 : Sto → RT} (hC : YF C "java/util/Arrays" b_fill37 4 rm_fill37) (hw : YWr C shpC) (hE : YEv C shpC V') (hk20 : ∀ (V1 : Sto), k20 V1 = some (r, V') → Y C shpC 4 20 [] [] V1) : ∀ (n : Nat) (x2 : Int32) (V : Sto), lp_fill37_5 x1 x3 k20 n x2 V = some (r, V') → Y C shpC 4 5 [(0, .ref (C.a 37)), (1, .int x1), (2, .int x2), (3, .int x3)] [] V := by
  intro n
  induction n with
  | zero =>
    intro x2 V h
    rw [lp_fill37_5] at h
    cases h
  | succ n ih =>
    intro x2 V h
    rw [lp_fill37_5] at h
    refine Y_iload_n (pc := 5) hC d_fill37_5 rfl 2 rfl ?_
    refine Y_iload_n (pc := 6) hC d_fill37_6 rfl 3 rfl ?_
    refine Y_icmp_ge (pc := 7) hC 20 d_fill37_7 rfl (fun cc_7 => ?_) (fun cc_7 => ?_)
    · have h := ifp cc_7 h
      refine Y_sub (pc := 20) [] rfl ?_
      exact hk20 _ h
    · have h := ifn cc_7 h
      refine Y_aload_n (pc := 10) hC d_fill37_10 rfl 0 rfl ?_
      refine Y_iload_n (pc := 11) hC d_fill37_11 rfl 2 rfl ?_
      refine Y_iload_n (pc := 12) hC d_fill37_12 rfl 1 rfl ?_
      obtain ⟨hi, h⟩ := ck_some h
      obtain ⟨V1, hV1, h⟩ := nm_some h
      refine Y_iast (pc := 13) hC sc_37 (by decide) rfl hi hw rfl hV1 d_fill37_13 ?_
      refine Y_iinc (pc := 14) hC (v := x2 + 1) (L' := [(2, .int (x2 + 1)), (0, .ref (C.a 37)), (1, .int x1), (3, .int x3)]) d_fill37_14 2 rfl rfl (by decide) rfl ?_
      refine Y_goto (pc := 17) hC 5 d_fill37_17 rfl ?_
      refine Y_sub (pc := 5) [1, 2, 0, 3] rfl ?_
      exact ih _ _ h
set_option maxHeartbeats 4000000 in
set_option maxRecDepth 100000 in
theorem c_fill37 (l : Launch) (D : va_G) (cI cZ : ClassId) (a : Nat → Nat) {V : Sto} {p1 : Int32} {r : Int32} {V' : Sto} (h : f_fill37 V p1 = some (r, V')) : YMv l D cI cZ a shpC y_fill37 b_fill37 4 rm_fill37 true [.ref (a 37), .int p1] V V' := by
  refine YMv_of (by decide) (Nat.le_of_ble_eq_true rfl) ?_
  intro C hl hDD hcI hcZ ha hC hw hE
  subst hl hDD hcI hcZ ha
  show Y C shpC 4 0 [(0, .ref (C.a 37)), (1, .int p1)] [] V
  have hw := hw rfl
  rw [f_fill37] at h
  refine Y_iconst (pc := 0) hC d_fill37_0 ki_0 ?_
  refine Y_istore_n (pc := 1) hC (L' := [(2, .int 0), (0, .ref (C.a 37)), (1, .int p1)]) d_fill37_1 rfl (by decide) rfl ?_
  refine Y_aload_n (pc := 2) hC d_fill37_2 rfl 1 rfl ?_
  refine Y_alen (pc := 3) hC sc_37 rfl d_fill37_3 ?_
  refine Y_istore_n (pc := 4) hC (L' := [(3, .int (nI 200)), (2, .int 0), (0, .ref (C.a 37)), (1, .int p1)]) d_fill37_4 rfl (by decide) rfl ?_
  refine Y_sub (pc := 5) [2, 3, 1, 0] rfl ?_
  refine ylp_fill37_5 hC hw hE (fun V2 h => ?_) FU _ _ h
  exact Y_vret (pc := 20) hC hE d_fill37_20 h
set_option maxHeartbeats 4000000 in
set_option maxRecDepth 100000 in
theorem ylp_fill38_5 {C : YC} {r : Int32} {V' : Sto} {x1 : Int32} {x3 : Int32} {k20 : Sto → RT} (hC : YF C "java/util/Arrays" b_fill38 4 rm_fill38) (hw : YWr C shpC) (hE : YEv C shpC V') (hk20 : ∀ (V1 : Sto), k20 V1 = some (r, V') → Y C shpC 4 20 [] [] V1) : ∀ (n : Nat) (x2 : Int32) (V : Sto), lp_fill38_5 x1 x3 k20 n x2 V = some (r, V') → Y C shpC 4 5 [(0, .ref (C.a 38)), (1, .int x1), (2, .int x2), (3, .int x3)] [] V := by
  intro n
  induction n with
  | zero =>
    intro x2 V h
    rw [lp_fill38_5] at h
    cases h
  | succ n ih =>
    intro x2 V h
    rw [lp_fill38_5] at h
    refine Y_iload_n (pc := 5) hC d_fill38_5 rfl 2 rfl ?_
    refine Y_iload_n (pc := 6) hC d_fill38_6 rfl 3 rfl ?_
    refine Y_icmp_ge (pc := 7) hC 20 d_fill38_7 rfl (fun cc_7 => ?_) (fun cc_7 => ?_)
    · have h := ifp cc_7 h
      refine Y_sub (pc := 20) [] rfl ?_
      exact hk20 _ h
    · have h := ifn cc_7 h
      refine Y_aload_n (pc := 10) hC d_fill38_10 rfl 0 rfl ?_
      refine Y_iload_n (pc := 11) hC d_fill38_11 rfl 2 rfl ?_
      refine Y_iload_n (pc := 12) hC d_fill38_12 rfl 1 rfl ?_
      obtain ⟨hi, h⟩ := ck_some h
      obtain ⟨V1, hV1, h⟩ := nm_some h
      refine Y_iast (pc := 13) hC sc_38 (by decide) rfl hi hw rfl hV1 d_fill38_13 ?_
      refine Y_iinc (pc := 14) hC (v := x2 + 1) (L' := [(2, .int (x2 + 1)), (0, .ref (C.a 38)), (1, .int x1), (3, .int x3)]) d_fill38_14 2 rfl rfl (by decide) rfl ?_
      refine Y_goto (pc := 17) hC 5 d_fill38_17 rfl ?_
      refine Y_sub (pc := 5) [1, 2, 0, 3] rfl ?_
      exact ih _ _ h
set_option maxHeartbeats 4000000 in
set_option maxRecDepth 100000 in
theorem c_fill38 (l : Launch) (D : va_G) (cI cZ : ClassId) (a : Nat → Nat) {V : Sto} {p1 : Int32} {r : Int32} {V' : Sto} (h : f_fill38 V p1 = some (r, V')) : YMv l D cI cZ a shpC y_fill38 b_fill38 4 rm_fill38 true [.ref (a 38), .int p1] V V' := by
  refine YMv_of (by decide) (Nat.le_of_ble_eq_true rfl) ?_
  intro C hl hDD hcI hcZ ha hC hw hE
  subst hl hDD hcI hcZ ha
  show Y C shpC 4 0 [(0, .ref (C.a 38)), (1, .int p1)] [] V
  have hw := hw rfl
  rw [f_fill38] at h
  refine Y_iconst (pc := 0) hC d_fill38_0 ki_0 ?_
  refine Y_istore_n (pc := 1) hC (L' := [(2, .int 0), (0, .ref (C.a 38)), (1, .int p1)]) d_fill38_1 rfl (by decide) rfl ?_
  refine Y_aload_n (pc := 2) hC d_fill38_2 rfl 1 rfl ?_
  refine Y_alen (pc := 3) hC sc_38 rfl d_fill38_3 ?_
  refine Y_istore_n (pc := 4) hC (L' := [(3, .int (nI 200)), (2, .int 0), (0, .ref (C.a 38)), (1, .int p1)]) d_fill38_4 rfl (by decide) rfl ?_
  refine Y_sub (pc := 5) [2, 3, 1, 0] rfl ?_
  refine ylp_fill38_5 hC hw hE (fun V2 h => ?_) FU _ _ h
  exact Y_vret (pc := 20) hC hE d_fill38_20 h
set_option maxHeartbeats 4000000 in
set_option maxRecDepth 100000 in
theorem ylp_fill39_5 {C : YC} {r : Int32} {V' : Sto} {x1 : Int32} {x3 : Int32} {k20 : Sto → RT} (hC : YF C "java/util/Arrays" b_fill39 4 rm_fill39) (hw : YWr C shpC) (hE : YEv C shpC V') (hk20 : ∀ (V1 : Sto), k20 V1 = some (r, V') → Y C shpC 4 20 [] [] V1) : ∀ (n : Nat) (x2 : Int32) (V : Sto), lp_fill39_5 x1 x3 k20 n x2 V = some (r, V') → Y C shpC 4 5 [(0, .ref (C.a 39)), (1, .int x1), (2, .int x2), (3, .int x3)] [] V := by
  intro n
  induction n with
  | zero =>
    intro x2 V h
    rw [lp_fill39_5] at h
    cases h
  | succ n ih =>
    intro x2 V h
    rw [lp_fill39_5] at h
    refine Y_iload_n (pc := 5) hC d_fill39_5 rfl 2 rfl ?_
    refine Y_iload_n (pc := 6) hC d_fill39_6 rfl 3 rfl ?_
    refine Y_icmp_ge (pc := 7) hC 20 d_fill39_7 rfl (fun cc_7 => ?_) (fun cc_7 => ?_)
    · have h := ifp cc_7 h
      refine Y_sub (pc := 20) [] rfl ?_
      exact hk20 _ h
    · have h := ifn cc_7 h
      refine Y_aload_n (pc := 10) hC d_fill39_10 rfl 0 rfl ?_
      refine Y_iload_n (pc := 11) hC d_fill39_11 rfl 2 rfl ?_
      refine Y_iload_n (pc := 12) hC d_fill39_12 rfl 1 rfl ?_
      obtain ⟨hi, h⟩ := ck_some h
      obtain ⟨V1, hV1, h⟩ := nm_some h
      refine Y_iast (pc := 13) hC sc_39 (by decide) rfl hi hw rfl hV1 d_fill39_13 ?_
      refine Y_iinc (pc := 14) hC (v := x2 + 1) (L' := [(2, .int (x2 + 1)), (0, .ref (C.a 39)), (1, .int x1), (3, .int x3)]) d_fill39_14 2 rfl rfl (by decide) rfl ?_
      refine Y_goto (pc := 17) hC 5 d_fill39_17 rfl ?_
      refine Y_sub (pc := 5) [1, 2, 0, 3] rfl ?_
      exact ih _ _ h
set_option maxHeartbeats 4000000 in
set_option maxRecDepth 100000 in
theorem c_fill39 (l : Launch) (D : va_G) (cI cZ : ClassId) (a : Nat → Nat) {V : Sto} {p1 : Int32} {r : Int32} {V' : Sto} (h : f_fill39 V p1 = some (r, V')) : YMv l D cI cZ a shpC y_fill39 b_fill39 4 rm_fill39 true [.ref (a 39), .int p1] V V' := by
  refine YMv_of (by decide) (Nat.le_of_ble_eq_true rfl) ?_
  intro C hl hDD hcI hcZ ha hC hw hE
  subst hl hDD hcI hcZ ha
  show Y C shpC 4 0 [(0, .ref (C.a 39)), (1, .int p1)] [] V
  have hw := hw rfl
  rw [f_fill39] at h
  refine Y_iconst (pc := 0) hC d_fill39_0 ki_0 ?_
  refine Y_istore_n (pc := 1) hC (L' := [(2, .int 0), (0, .ref (C.a 39)), (1, .int p1)]) d_fill39_1 rfl (by decide) rfl ?_
  refine Y_aload_n (pc := 2) hC d_fill39_2 rfl 1 rfl ?_
  refine Y_alen (pc := 3) hC sc_39 rfl d_fill39_3 ?_
  refine Y_istore_n (pc := 4) hC (L' := [(3, .int (nI 200)), (2, .int 0), (0, .ref (C.a 39)), (1, .int p1)]) d_fill39_4 rfl (by decide) rfl ?_
  refine Y_sub (pc := 5) [2, 3, 1, 0] rfl ?_
  refine ylp_fill39_5 hC hw hE (fun V2 h => ?_) FU _ _ h
  exact Y_vret (pc := 20) hC hE d_fill39_20 h
set_option maxHeartbeats 4000000 in
set_option maxRecDepth 100000 in
theorem ylp_Na_settle_31 {C : YC} {r : Int32} {V' : Sto} {k84 : Sto → RT} (hC : YF C R_Na b_Na_settle 2 rm_Na_settle) (hw : YWr C shpC) (hE : YEv C shpC V') (hk84 : ∀ (V1 : Sto), k84 V1 = some (r, V') → Y C shpC 2 84 [(0, .ref (C.a 6))] [] V1) : ∀ (n : Nat) (x1 : Int32) (V : Sto), lp_Na_settle_31 k84 n x1 V = some (r, V') → Y C shpC 2 31 [(0, .ref (C.a 6)), (1, .int x1)] [] V := by
  intro n
  induction n with
  | zero =>
    intro x1 V h
    rw [lp_Na_settle_31] at h
    cases h
  | succ n ih =>
    intro x1 V h
    rw [lp_Na_settle_31] at h
    refine Y_iload_n (pc := 31) hC d_Na_settle_31 rfl 1 rfl ?_
    refine Y_aload_n (pc := 32) hC d_Na_settle_32 rfl 0 rfl ?_
    refine Y_getR (pc := 33) hC sc_6 fl_Na_34 rfl d_Na_settle_33 ?_
    refine Y_getI (pc := 36) hC sc_3 fl_Na_48 rfl d_Na_settle_36 ?_
    refine Y_icmp_ge (pc := 39) hC 84 d_Na_settle_39 rfl (fun cc_39 => ?_) (fun cc_39 => ?_)
    · have h := ifp cc_39 h
      refine Y_sub (pc := 84) [0] rfl ?_
      exact hk84 _ h
    · have h := ifn cc_39 h
      refine Y_aload_n (pc := 42) hC d_Na_settle_42 rfl 0 rfl ?_
      refine Y_getR (pc := 43) hC sc_6 fl_Na_30 rfl d_Na_settle_43 ?_
      refine Y_getR (pc := 46) hC sc_1 fl_Na_53 rfl d_Na_settle_46 ?_
      refine Y_aload_n (pc := 49) hC d_Na_settle_49 rfl 0 rfl ?_
      refine Y_getR (pc := 50) hC sc_6 fl_Na_34 rfl d_Na_settle_50 ?_
      refine Y_getR (pc := 53) hC sc_3 fl_Na_59 rfl d_Na_settle_53 ?_
      refine Y_iload_n (pc := 56) hC d_Na_settle_56 rfl 1 rfl ?_
      obtain ⟨hi, h⟩ := ck_some h
      refine Y_iald (pc := 57) hC sc_21 rfl hi d_Na_settle_57 ?_
      obtain ⟨hi, h⟩ := ck_some h
      refine Y_zald (pc := 58) hC sc_13 rfl hi d_Na_settle_58 ?_
      refine Y_if_eq (pc := 59) hC 78 d_Na_settle_59 rfl (fun cc_59 => ?_) (fun cc_59 => ?_)
      · have h := ifp cc_59 h
        refine Y_iinc (pc := 78) hC (v := x1 + 1) (L' := [(1, .int (x1 + 1)), (0, .ref (C.a 6))]) d_Na_settle_78 1 rfl rfl (by decide) rfl ?_
        refine Y_goto (pc := 81) hC 31 d_Na_settle_81 rfl ?_
        refine Y_sub (pc := 31) [1, 0] rfl ?_
        exact ih _ _ h
      · have h := ifn cc_59 h
        refine Y_aload_n (pc := 62) hC d_Na_settle_62 rfl 0 rfl ?_
        refine Y_getR (pc := 63) hC sc_6 fl_Na_34 rfl d_Na_settle_63 ?_
        refine Y_iload_n (pc := 66) hC d_Na_settle_66 rfl 1 rfl ?_
        obtain ⟨r4, V5, hc_r4, h⟩ := cl_some h
        refine Y_callV (pc := 67) hC (c_Sy_givesName C.l C.D C.cI C.cZ C.a hc_r4) (fun q => nomatch q) sc_3 cls_Sy ml_Na_62 mv_Sy_givesName (by decide) (Nat.le_of_ble_eq_true rfl) rfl d_Na_settle_67 ?_
        refine Y_if_eq (pc := 70) hC 78 d_Na_settle_70 rfl (fun cc_70 => ?_) (fun cc_70 => ?_)
        · have h := ifp cc_70 h
          refine Y_iinc (pc := 78) hC (v := x1 + 1) (L' := [(1, .int (x1 + 1)), (0, .ref (C.a 6))]) d_Na_settle_78 1 rfl rfl (by decide) rfl ?_
          refine Y_goto (pc := 81) hC 31 d_Na_settle_81 rfl ?_
          refine Y_sub (pc := 31) [1, 0] rfl ?_
          exact ih _ _ h
        · have h := ifn cc_70 h
          refine Y_aload_n (pc := 73) hC d_Na_settle_73 rfl 0 rfl ?_
          refine Y_iload_n (pc := 74) hC d_Na_settle_74 rfl 1 rfl ?_
          obtain ⟨r5, V6, hc_r5, h⟩ := cl_some h
          refine Y_callVv (pc := 75) hC (c_Na_take C.l C.D C.cI C.cZ C.a hc_r5) (fun _ => hw) sc_6 cls_Na ml_Na_66 mv_Na_take (by decide) (Nat.le_of_ble_eq_true rfl) rfl d_Na_settle_75 ?_
          refine Y_iinc (pc := 78) hC (v := x1 + 1) (L' := [(1, .int (x1 + 1)), (0, .ref (C.a 6))]) d_Na_settle_78 1 rfl rfl (by decide) rfl ?_
          refine Y_goto (pc := 81) hC 31 d_Na_settle_81 rfl ?_
          refine Y_sub (pc := 31) [1, 0] rfl ?_
          exact ih _ _ h
set_option maxHeartbeats 4000000 in
set_option maxRecDepth 100000 in
theorem ylp_Na_settle_86 {C : YC} {r : Int32} {V' : Sto} {k108 : Sto → RT} (hC : YF C R_Na b_Na_settle 2 rm_Na_settle) (hw : YWr C shpC) (hE : YEv C shpC V') (hk108 : ∀ (V1 : Sto), k108 V1 = some (r, V') → Y C shpC 2 108 [] [] V1) : ∀ (n : Nat) (x1 : Int32) (V : Sto), lp_Na_settle_86 k108 n x1 V = some (r, V') → Y C shpC 2 86 [(0, .ref (C.a 6)), (1, .int x1)] [] V := by
  intro n
  induction n with
  | zero =>
    intro x1 V h
    rw [lp_Na_settle_86] at h
    cases h
  | succ n ih =>
    intro x1 V h
    rw [lp_Na_settle_86] at h
    refine Y_iload_n (pc := 86) hC d_Na_settle_86 rfl 1 rfl ?_
    refine Y_aload_n (pc := 87) hC d_Na_settle_87 rfl 0 rfl ?_
    refine Y_getR (pc := 88) hC sc_6 fl_Na_34 rfl d_Na_settle_88 ?_
    refine Y_getI (pc := 91) hC sc_3 fl_Na_48 rfl d_Na_settle_91 ?_
    refine Y_icmp_ge (pc := 94) hC 108 d_Na_settle_94 rfl (fun cc_94 => ?_) (fun cc_94 => ?_)
    · have h := ifp cc_94 h
      refine Y_sub (pc := 108) [] rfl ?_
      exact hk108 _ h
    · have h := ifn cc_94 h
      refine Y_aload_n (pc := 97) hC d_Na_settle_97 rfl 0 rfl ?_
      refine Y_iload_n (pc := 98) hC d_Na_settle_98 rfl 1 rfl ?_
      obtain ⟨r6, V8, hc_r6, h⟩ := cl_some h
      refine Y_callVv (pc := 99) hC (c_Na_giveMeaning C.l C.D C.cI C.cZ C.a hc_r6) (fun _ => hw) sc_6 cls_Na ml_Na_70 mv_Na_giveMeaning (by decide) (Nat.le_of_ble_eq_true rfl) rfl d_Na_settle_99 ?_
      refine Y_iinc (pc := 102) hC (v := x1 + 1) (L' := [(1, .int (x1 + 1)), (0, .ref (C.a 6))]) d_Na_settle_102 1 rfl rfl (by decide) rfl ?_
      refine Y_goto (pc := 105) hC 86 d_Na_settle_105 rfl ?_
      refine Y_sub (pc := 86) [1, 0] rfl ?_
      exact ih _ _ h
set_option maxHeartbeats 4000000 in
set_option maxRecDepth 100000 in
theorem c_Na_settle (l : Launch) (D : va_G) (cI cZ : ClassId) (a : Nat → Nat) {V : Sto} {r : Int32} {V' : Sto} (h : f_Na_settle V = some (r, V')) : YMv l D cI cZ a shpC y_Na_settle b_Na_settle 2 rm_Na_settle true [.ref (a 6)] V V' := by
  refine YMv_of (by decide) (Nat.le_of_ble_eq_true rfl) ?_
  intro C hl hDD hcI hcZ ha hC hw hE
  subst hl hDD hcI hcZ ha
  show Y C shpC 2 0 [(0, .ref (C.a 6))] [] V
  have hw := hw rfl
  rw [f_Na_settle] at h
  refine Y_aload_n (pc := 0) hC d_Na_settle_0 rfl 0 rfl ?_
  refine Y_getR (pc := 1) hC sc_6 fl_Na_9 rfl d_Na_settle_1 ?_
  refine Y_iconst (pc := 4) hC d_Na_settle_4 ki_m1 ?_
  obtain ⟨r1, V1, hc_r1, h⟩ := cl_some h
  refine Y_callSv (pc := 5) hC (c_fill37 C.l C.D C.cI C.cZ C.a hc_r1) (fun _ => hw) ml_Na_38 ms_fill37 (by decide) (Nat.le_of_ble_eq_true rfl) rfl d_Na_settle_5 ?_
  refine Y_aload_n (pc := 8) hC d_Na_settle_8 rfl 0 rfl ?_
  refine Y_getR (pc := 9) hC sc_6 fl_Na_15 rfl d_Na_settle_9 ?_
  refine Y_iconst (pc := 12) hC d_Na_settle_12 ki_m1 ?_
  obtain ⟨r2, V2, hc_r2, h⟩ := cl_some h
  refine Y_callSv (pc := 13) hC (c_fill38 C.l C.D C.cI C.cZ C.a hc_r2) (fun _ => hw) ml_Na_38 ms_fill38 (by decide) (Nat.le_of_ble_eq_true rfl) rfl d_Na_settle_13 ?_
  refine Y_aload_n (pc := 16) hC d_Na_settle_16 rfl 0 rfl ?_
  refine Y_getR (pc := 17) hC sc_6 fl_Na_18 rfl d_Na_settle_17 ?_
  refine Y_iconst (pc := 20) hC d_Na_settle_20 ki_0 ?_
  obtain ⟨r3, V3, hc_r3, h⟩ := cl_some h
  refine Y_callSv (pc := 21) hC (c_fill39 C.l C.D C.cI C.cZ C.a hc_r3) (fun _ => hw) ml_Na_38 ms_fill39 (by decide) (Nat.le_of_ble_eq_true rfl) rfl d_Na_settle_21 ?_
  refine Y_aload_n (pc := 24) hC d_Na_settle_24 rfl 0 rfl ?_
  refine Y_iconst (pc := 25) hC d_Na_settle_25 ki_m1 ?_
  obtain ⟨V4, hV4, h⟩ := nm_some h
  refine Y_put (pc := 26) hC sc_6 fl_Na_44 rfl (by decide) fp_Na ft_Na_5 rfl rfl hw hV4 d_Na_settle_26 ?_
  refine Y_iconst (pc := 29) hC d_Na_settle_29 ki_0 ?_
  refine Y_istore_n (pc := 30) hC (L' := [(1, .int 0), (0, .ref (C.a 6))]) d_Na_settle_30 rfl (by decide) rfl ?_
  refine Y_sub (pc := 31) [1, 0] rfl ?_
  refine ylp_Na_settle_31 hC hw hE (fun V7 h => ?_) FU _ _ h
  refine Y_iconst (pc := 84) hC d_Na_settle_84 ki_0 ?_
  refine Y_istore_n (pc := 85) hC (L' := [(1, .int 0), (0, .ref (C.a 6))]) d_Na_settle_85 rfl (by decide) rfl ?_
  refine Y_sub (pc := 86) [1, 0] rfl ?_
  refine ylp_Na_settle_86 hC hw hE (fun V9 h => ?_) FU _ _ h
  exact Y_vret (pc := 108) hC hE d_Na_settle_108 h
set_option maxHeartbeats 4000000 in
set_option maxRecDepth 100000 in
theorem ylp_Rc_firstMissing_2 {C : YC} {r : Int32} {V' : Sto} {k60 : Int32 → Sto → RT} {k68 : Sto → RT} (hC : YF C R_Rc b_Rc_firstMissing 3 rm_Rc_firstMissing) (hE : YEi C .int shpC r V') (hk60 : ∀ (y2 : Int32) (V1 : Sto), k60 y2 V1 = some (r, V') → Y C shpC 3 60 [(2, .int y2)] [] V1) (hk68 : ∀ (V1 : Sto), k68 V1 = some (r, V') → Y C shpC 3 68 [] [] V1) : ∀ (n : Nat) (x1 : Int32) (V : Sto), lp_Rc_firstMissing_2 k60 k68 n x1 V = some (r, V') → Y C shpC 3 2 [(0, .ref (C.a 7)), (1, .int x1)] [] V := by
  intro n
  induction n with
  | zero =>
    intro x1 V h
    rw [lp_Rc_firstMissing_2] at h
    cases h
  | succ n ih =>
    intro x1 V h
    rw [lp_Rc_firstMissing_2] at h
    refine Y_iload_n (pc := 2) hC d_Rc_firstMissing_2 rfl 1 rfl ?_
    refine Y_aload_n (pc := 3) hC d_Rc_firstMissing_3 rfl 0 rfl ?_
    refine Y_getR (pc := 4) hC sc_7 fl_Rc_30 rfl d_Rc_firstMissing_4 ?_
    refine Y_getI (pc := 7) hC sc_4 fl_Rc_89 rfl d_Rc_firstMissing_7 ?_
    refine Y_icmp_ge (pc := 10) hC 68 d_Rc_firstMissing_10 rfl (fun cc_10 => ?_) (fun cc_10 => ?_)
    · have h := ifp cc_10 h
      refine Y_sub (pc := 68) [] rfl ?_
      exact hk68 _ h
    · have h := ifn cc_10 h
      refine Y_aload_n (pc := 13) hC d_Rc_firstMissing_13 rfl 0 rfl ?_
      refine Y_getR (pc := 14) hC sc_7 fl_Rc_30 rfl d_Rc_firstMissing_14 ?_
      refine Y_getR (pc := 17) hC sc_4 fl_Rc_90 rfl d_Rc_firstMissing_17 ?_
      refine Y_iload_n (pc := 20) hC d_Rc_firstMissing_20 rfl 1 rfl ?_
      obtain ⟨hi, h⟩ := ck_some h
      refine Y_iald (pc := 21) hC sc_32 rfl hi d_Rc_firstMissing_21 ?_
      refine Y_istore_n (pc := 22) hC (L' := [(2, .int (V 32 x1.toNatClampNeg)), (0, .ref (C.a 7)), (1, .int x1)]) d_Rc_firstMissing_22 rfl (by decide) rfl ?_
      refine Y_aload_n (pc := 23) hC d_Rc_firstMissing_23 rfl 1 rfl ?_
      refine Y_getR (pc := 24) hC sc_7 fl_Rc_9 rfl d_Rc_firstMissing_24 ?_
      refine Y_aload_n (pc := 27) hC d_Rc_firstMissing_27 rfl 1 rfl ?_
      refine Y_getR (pc := 28) hC sc_7 fl_Rc_30 rfl d_Rc_firstMissing_28 ?_
      refine Y_getR (pc := 31) hC sc_4 fl_Rc_93 rfl d_Rc_firstMissing_31 ?_
      refine Y_iload_n (pc := 34) hC d_Rc_firstMissing_34 rfl 0 rfl ?_
      obtain ⟨hi, h⟩ := ck_some h
      refine Y_iald (pc := 35) hC sc_27 rfl hi d_Rc_firstMissing_35 ?_
      obtain ⟨hi, h⟩ := ck_some h
      refine Y_zald (pc := 36) hC sc_43 rfl hi d_Rc_firstMissing_36 ?_
      refine Y_if_eq (pc := 37) hC 62 d_Rc_firstMissing_37 rfl (fun cc_37 => ?_) (fun cc_37 => ?_)
      · have h := ifp cc_37 h
        refine Y_iinc (pc := 62) hC (v := x1 + 1) (L' := [(1, .int (x1 + 1)), (2, .int (V 32 x1.toNatClampNeg)), (0, .ref (C.a 7))]) d_Rc_firstMissing_62 2 rfl rfl (by decide) rfl ?_
        refine Y_goto (pc := 65) hC 2 d_Rc_firstMissing_65 rfl ?_
        refine Y_sub (pc := 2) [2, 0] rfl ?_
        exact ih _ _ h
      · have h := ifn cc_37 h
        refine Y_aload_n (pc := 40) hC d_Rc_firstMissing_40 rfl 1 rfl ?_
        refine Y_getR (pc := 41) hC sc_7 fl_Rc_34 rfl d_Rc_firstMissing_41 ?_
        refine Y_getR (pc := 44) hC sc_6 fl_Rc_81 rfl d_Rc_firstMissing_44 ?_
        refine Y_aload_n (pc := 47) hC d_Rc_firstMissing_47 rfl 1 rfl ?_
        refine Y_getR (pc := 48) hC sc_7 fl_Rc_30 rfl d_Rc_firstMissing_48 ?_
        refine Y_getR (pc := 51) hC sc_4 fl_Rc_74 rfl d_Rc_firstMissing_51 ?_
        refine Y_iload_n (pc := 54) hC d_Rc_firstMissing_54 rfl 0 rfl ?_
        obtain ⟨hi, h⟩ := ck_some h
        refine Y_iald (pc := 55) hC sc_30 rfl hi d_Rc_firstMissing_55 ?_
        obtain ⟨hi, h⟩ := ck_some h
        refine Y_iald (pc := 56) hC sc_40 rfl hi d_Rc_firstMissing_56 ?_
        refine Y_if_ne (pc := 57) hC 62 d_Rc_firstMissing_57 rfl (fun cc_57 => ?_) (fun cc_57 => ?_)
        · have h := ifn cc_57 h
          refine Y_iinc (pc := 62) hC (v := x1 + 1) (L' := [(1, .int (x1 + 1)), (2, .int (V 32 x1.toNatClampNeg)), (0, .ref (C.a 7))]) d_Rc_firstMissing_62 2 rfl rfl (by decide) rfl ?_
          refine Y_goto (pc := 65) hC 2 d_Rc_firstMissing_65 rfl ?_
          refine Y_sub (pc := 2) [2, 0] rfl ?_
          exact ih _ _ h
        · have h := ifp cc_57 h
          refine Y_sub (pc := 60) [0] rfl ?_
          exact hk60 _ _ h
set_option maxHeartbeats 4000000 in
set_option maxRecDepth 100000 in
theorem c_Rc_firstMissing (l : Launch) (D : va_G) (cI cZ : ClassId) (a : Nat → Nat) {V : Sto} {r : Int32} {V' : Sto} (h : f_Rc_firstMissing V = some (r, V')) : YMi l D cI cZ a shpC y_Rc_firstMissing b_Rc_firstMissing 3 (some .int) rm_Rc_firstMissing false [.ref (a 7)] V r V' := by
  refine YMi_of (by decide) (Nat.le_of_ble_eq_true rfl) ?_
  intro C hl hDD hcI hcZ ha hC hw hE
  subst hl hDD hcI hcZ ha
  show Y C shpC 3 0 [(0, .ref (C.a 7))] [] V
  rw [f_Rc_firstMissing] at h
  refine Y_iconst (pc := 0) hC d_Rc_firstMissing_0 ki_0 ?_
  refine Y_istore_n (pc := 1) hC (L' := [(1, .int 0), (0, .ref (C.a 7))]) d_Rc_firstMissing_1 rfl (by decide) rfl ?_
  refine Y_sub (pc := 2) [1, 0] rfl ?_
  refine ylp_Rc_firstMissing_2 hC hE (fun y1 V1 h => ?_) (fun V2 h => ?_) FU _ _ h
  · have h := h
    refine Y_iload_n (pc := 60) hC d_Rc_firstMissing_60 rfl 0 rfl ?_
    exact Y_iret (pc := 61) hC hE d_Rc_firstMissing_61 h
  · have h := h
    refine Y_iconst (pc := 68) hC d_Rc_firstMissing_68 ki_m1 ?_
    exact Y_iret (pc := 69) hC hE d_Rc_firstMissing_69 h
set_option maxHeartbeats 4000000 in
set_option maxRecDepth 100000 in
theorem c_Rc_find (l : Launch) (D : va_G) (cI cZ : ClassId) (a : Nat → Nat) {V : Sto} {p1 : Int32} {r : Int32} {V' : Sto} (h : f_Rc_find V p1 = some (r, V')) : YMv l D cI cZ a shpC y_Rc_find b_Rc_find 2 rm_Rc_find true [.ref (a 7), .int p1] V V' := by
  refine YMv_of (by decide) (Nat.le_of_ble_eq_true rfl) ?_
  intro C hl hDD hcI hcZ ha hC hw hE
  subst hl hDD hcI hcZ ha
  show Y C shpC 2 0 [(0, .ref (C.a 7)), (1, .int p1)] [] V
  have hw := hw rfl
  rw [f_Rc_find] at h
  refine Y_aload_n (pc := 0) hC d_Rc_find_0 rfl 0 rfl ?_
  refine Y_getR (pc := 1) hC sc_7 fl_Rc_9 rfl d_Rc_find_1 ?_
  refine Y_iload_n (pc := 4) hC d_Rc_find_4 rfl 1 rfl ?_
  obtain ⟨hi, h⟩ := ck_some h
  refine Y_zald (pc := 5) hC sc_43 rfl hi d_Rc_find_5 ?_
  refine Y_if_ne (pc := 6) hC 36 d_Rc_find_6 rfl (fun cc_6 => ?_) (fun cc_6 => ?_)
  · have h := ifn cc_6 h
    exact Y_vret (pc := 36) hC hE d_Rc_find_36 h
  · have h := ifp cc_6 h
    refine Y_aload_n (pc := 9) hC d_Rc_find_9 rfl 0 rfl ?_
    refine Y_getR (pc := 10) hC sc_7 fl_Rc_9 rfl d_Rc_find_10 ?_
    refine Y_iload_n (pc := 13) hC d_Rc_find_13 rfl 1 rfl ?_
    refine Y_iconst (pc := 14) hC d_Rc_find_14 ki_1 ?_
    obtain ⟨hi, h⟩ := ck_some h
    obtain ⟨V1, hV1, h⟩ := nm_some h
    refine Y_zast (pc := 15) hC sc_43 (by decide) rfl hi hw rfl hV1 d_Rc_find_15 ?_
    refine Y_aload_n (pc := 16) hC d_Rc_find_16 rfl 0 rfl ?_
    refine Y_getR (pc := 17) hC sc_7 fl_Rc_18 rfl d_Rc_find_17 ?_
    refine Y_aload_n (pc := 20) hC d_Rc_find_20 rfl 0 rfl ?_
    refine Y_getI (pc := 21) hC sc_7 fl_Rc_62 rfl d_Rc_find_21 ?_
    refine Y_iload_n (pc := 24) hC d_Rc_find_24 rfl 1 rfl ?_
    obtain ⟨hi, h⟩ := ck_some h
    obtain ⟨V2, hV2, h⟩ := nm_some h
    refine Y_iast (pc := 25) hC sc_45 (by decide) rfl hi hw rfl hV2 d_Rc_find_25 ?_
    refine Y_aload_n (pc := 26) hC d_Rc_find_26 rfl 0 rfl ?_
    refine Y_dup (pc := 27) hC d_Rc_find_27 rfl ?_
    refine Y_getI (pc := 28) hC sc_7 fl_Rc_62 rfl d_Rc_find_28 ?_
    refine Y_iconst (pc := 31) hC d_Rc_find_31 ki_1 ?_
    refine Y_iadd (pc := 32) hC d_Rc_find_32 ?_
    obtain ⟨V3, hV3, h⟩ := nm_some h
    refine Y_put (pc := 33) hC sc_7 fl_Rc_62 rfl (by decide) fp_Rc ft_Rc_6 rfl rfl hw hV3 d_Rc_find_33 ?_
    exact Y_vret (pc := 36) hC hE d_Rc_find_36 h
set_option maxHeartbeats 4000000 in
set_option maxRecDepth 100000 in
theorem ylp_Rc_forget_2 {C : YC} {r : Int32} {V' : Sto} {k21 : Sto → RT} (hC : YF C R_Rc b_Rc_forget 2 rm_Rc_forget) (hw : YWr C shpC) (hE : YEv C shpC V') (hk21 : ∀ (V1 : Sto), k21 V1 = some (r, V') → Y C shpC 2 21 [(0, .ref (C.a 7))] [] V1) : ∀ (n : Nat) (x1 : Int32) (V : Sto), lp_Rc_forget_2 k21 n x1 V = some (r, V') → Y C shpC 2 2 [(0, .ref (C.a 7)), (1, .int x1)] [] V := by
  intro n
  induction n with
  | zero =>
    intro x1 V h
    rw [lp_Rc_forget_2] at h
    cases h
  | succ n ih =>
    intro x1 V h
    rw [lp_Rc_forget_2] at h
    refine Y_iload_n (pc := 2) hC d_Rc_forget_2 rfl 1 rfl ?_
    refine Y_bipush (pc := 3) hC d_Rc_forget_3 kb_96 ?_
    refine Y_icmp_ge (pc := 5) hC 21 d_Rc_forget_5 rfl (fun cc_5 => ?_) (fun cc_5 => ?_)
    · have h := ifp cc_5 h
      refine Y_sub (pc := 21) [0] rfl ?_
      exact hk21 _ h
    · have h := ifn cc_5 h
      refine Y_aload_n (pc := 8) hC d_Rc_forget_8 rfl 0 rfl ?_
      refine Y_getR (pc := 9) hC sc_7 fl_Rc_9 rfl d_Rc_forget_9 ?_
      refine Y_iload_n (pc := 12) hC d_Rc_forget_12 rfl 1 rfl ?_
      refine Y_iconst (pc := 13) hC d_Rc_forget_13 ki_0 ?_
      obtain ⟨hi, h⟩ := ck_some h
      obtain ⟨V1, hV1, h⟩ := nm_some h
      refine Y_zast (pc := 14) hC sc_43 (by decide) rfl hi hw rfl hV1 d_Rc_forget_14 ?_
      refine Y_iinc (pc := 15) hC (v := x1 + 1) (L' := [(1, .int (x1 + 1)), (0, .ref (C.a 7))]) d_Rc_forget_15 1 rfl rfl (by decide) rfl ?_
      refine Y_goto (pc := 18) hC 2 d_Rc_forget_18 rfl ?_
      refine Y_sub (pc := 2) [1, 0] rfl ?_
      exact ih _ _ h
set_option maxHeartbeats 4000000 in
set_option maxRecDepth 100000 in
theorem ylp_Rc_forget_23 {C : YC} {r : Int32} {V' : Sto} {k43 : Sto → RT} (hC : YF C R_Rc b_Rc_forget 2 rm_Rc_forget) (hw : YWr C shpC) (hE : YEv C shpC V') (hk43 : ∀ (V1 : Sto), k43 V1 = some (r, V') → Y C shpC 2 43 [(0, .ref (C.a 7))] [] V1) : ∀ (n : Nat) (x1 : Int32) (V : Sto), lp_Rc_forget_23 k43 n x1 V = some (r, V') → Y C shpC 2 23 [(0, .ref (C.a 7)), (1, .int x1)] [] V := by
  intro n
  induction n with
  | zero =>
    intro x1 V h
    rw [lp_Rc_forget_23] at h
    cases h
  | succ n ih =>
    intro x1 V h
    rw [lp_Rc_forget_23] at h
    refine Y_iload_n (pc := 23) hC d_Rc_forget_23 rfl 1 rfl ?_
    refine Y_sipush (pc := 24) hC d_Rc_forget_24 ks_200 ?_
    refine Y_icmp_ge (pc := 27) hC 43 d_Rc_forget_27 rfl (fun cc_27 => ?_) (fun cc_27 => ?_)
    · have h := ifp cc_27 h
      refine Y_sub (pc := 43) [0] rfl ?_
      exact hk43 _ h
    · have h := ifn cc_27 h
      refine Y_aload_n (pc := 30) hC d_Rc_forget_30 rfl 0 rfl ?_
      refine Y_getR (pc := 31) hC sc_7 fl_Rc_15 rfl d_Rc_forget_31 ?_
      refine Y_iload_n (pc := 34) hC d_Rc_forget_34 rfl 1 rfl ?_
      refine Y_iconst (pc := 35) hC d_Rc_forget_35 ki_0 ?_
      obtain ⟨hi, h⟩ := ck_some h
      obtain ⟨V3, hV3, h⟩ := nm_some h
      refine Y_zast (pc := 36) hC sc_44 (by decide) rfl hi hw rfl hV3 d_Rc_forget_36 ?_
      refine Y_iinc (pc := 37) hC (v := x1 + 1) (L' := [(1, .int (x1 + 1)), (0, .ref (C.a 7))]) d_Rc_forget_37 1 rfl rfl (by decide) rfl ?_
      refine Y_goto (pc := 40) hC 23 d_Rc_forget_40 rfl ?_
      refine Y_sub (pc := 23) [1, 0] rfl ?_
      exact ih _ _ h
set_option maxHeartbeats 4000000 in
set_option maxRecDepth 100000 in
theorem c_Rc_forget (l : Launch) (D : va_G) (cI cZ : ClassId) (a : Nat → Nat) {V : Sto} {r : Int32} {V' : Sto} (h : f_Rc_forget V = some (r, V')) : YMv l D cI cZ a shpC y_Rc_forget b_Rc_forget 2 rm_Rc_forget true [.ref (a 7)] V V' := by
  refine YMv_of (by decide) (Nat.le_of_ble_eq_true rfl) ?_
  intro C hl hDD hcI hcZ ha hC hw hE
  subst hl hDD hcI hcZ ha
  show Y C shpC 2 0 [(0, .ref (C.a 7))] [] V
  have hw := hw rfl
  rw [f_Rc_forget] at h
  refine Y_iconst (pc := 0) hC d_Rc_forget_0 ki_0 ?_
  refine Y_istore_n (pc := 1) hC (L' := [(1, .int 0), (0, .ref (C.a 7))]) d_Rc_forget_1 rfl (by decide) rfl ?_
  refine Y_sub (pc := 2) [1, 0] rfl ?_
  refine ylp_Rc_forget_2 hC hw hE (fun V2 h => ?_) FU _ _ h
  refine Y_iconst (pc := 21) hC d_Rc_forget_21 ki_0 ?_
  refine Y_istore_n (pc := 22) hC (L' := [(1, .int 0), (0, .ref (C.a 7))]) d_Rc_forget_22 rfl (by decide) rfl ?_
  refine Y_sub (pc := 23) [1, 0] rfl ?_
  refine ylp_Rc_forget_23 hC hw hE (fun V4 h => ?_) FU _ _ h
  refine Y_aload_n (pc := 43) hC d_Rc_forget_43 rfl 0 rfl ?_
  refine Y_iconst (pc := 44) hC d_Rc_forget_44 ki_0 ?_
  obtain ⟨V5, hV5, h⟩ := nm_some h
  refine Y_put (pc := 45) hC sc_7 fl_Rc_62 rfl (by decide) fp_Rc ft_Rc_6 rfl rfl hw hV5 d_Rc_forget_45 ?_
  exact Y_vret (pc := 48) hC hE d_Rc_forget_48 h
set_option maxHeartbeats 4000000 in
set_option maxRecDepth 100000 in
theorem c_Re_countOf (l : Launch) (D : va_G) (cI cZ : ClassId) (a : Nat → Nat) {V : Sto} {p1 : Int32} {r : Int32} {V' : Sto} (h : f_Re_countOf V p1 = some (r, V')) : YMi l D cI cZ a shpC y_Re_countOf b_Re_countOf 2 (some .int) rm_Re_countOf false [.ref (a 4), .int p1] V r V' := by
  refine YMi_of (by decide) (Nat.le_of_ble_eq_true rfl) ?_
  intro C hl hDD hcI hcZ ha hC hw hE
  subst hl hDD hcI hcZ ha
  show Y C shpC 2 0 [(0, .ref (C.a 4)), (1, .int p1)] [] V
  rw [f_Re_countOf] at h
  refine Y_aload_n (pc := 0) hC d_Re_countOf_0 rfl 0 rfl ?_
  refine Y_getR (pc := 1) hC sc_4 fl_Re_30 rfl d_Re_countOf_1 ?_
  refine Y_iload_n (pc := 4) hC d_Re_countOf_4 rfl 1 rfl ?_
  refine Y_iconst (pc := 5) hC d_Re_countOf_5 ki_1 ?_
  refine Y_iadd (pc := 6) hC d_Re_countOf_6 ?_
  obtain ⟨hi, h⟩ := ck_some h
  refine Y_iald (pc := 7) hC sc_33 rfl hi d_Re_countOf_7 ?_
  refine Y_aload_n (pc := 8) hC d_Re_countOf_8 rfl 0 rfl ?_
  refine Y_getR (pc := 9) hC sc_4 fl_Re_30 rfl d_Re_countOf_9 ?_
  refine Y_iload_n (pc := 12) hC d_Re_countOf_12 rfl 1 rfl ?_
  obtain ⟨hi, h⟩ := ck_some h
  refine Y_iald (pc := 13) hC sc_33 rfl hi d_Re_countOf_13 ?_
  refine Y_isub (pc := 14) hC d_Re_countOf_14 ?_
  exact Y_iret (pc := 15) hC hE d_Re_countOf_15 h
set_option maxHeartbeats 4000000 in
set_option maxRecDepth 100000 in
theorem c_Re_pick (l : Launch) (D : va_G) (cI cZ : ClassId) (a : Nat → Nat) {V : Sto} {p1 : Int32} {p2 : Int32} {r : Int32} {V' : Sto} (h : f_Re_pick V p1 p2 = some (r, V')) : YMi l D cI cZ a shpC y_Re_pick b_Re_pick 3 (some .int) rm_Re_pick false [.ref (a 4), .int p1, .int p2] V r V' := by
  refine YMi_of (by decide) (Nat.le_of_ble_eq_true rfl) ?_
  intro C hl hDD hcI hcZ ha hC hw hE
  subst hl hDD hcI hcZ ha
  show Y C shpC 3 0 [(0, .ref (C.a 4)), (1, .int p1), (2, .int p2)] [] V
  rw [f_Re_pick] at h
  refine Y_aload_n (pc := 0) hC d_Re_pick_0 rfl 0 rfl ?_
  refine Y_getR (pc := 1) hC sc_4 fl_Re_27 rfl d_Re_pick_1 ?_
  refine Y_aload_n (pc := 4) hC d_Re_pick_4 rfl 0 rfl ?_
  refine Y_getR (pc := 5) hC sc_4 fl_Re_30 rfl d_Re_pick_5 ?_
  refine Y_iload_n (pc := 8) hC d_Re_pick_8 rfl 1 rfl ?_
  obtain ⟨hi, h⟩ := ck_some h
  refine Y_iald (pc := 9) hC sc_33 rfl hi d_Re_pick_9 ?_
  refine Y_iload_n (pc := 10) hC d_Re_pick_10 rfl 2 rfl ?_
  refine Y_iadd (pc := 11) hC d_Re_pick_11 ?_
  obtain ⟨hi, h⟩ := ck_some h
  refine Y_iald (pc := 12) hC sc_32 rfl hi d_Re_pick_12 ?_
  exact Y_iret (pc := 13) hC hE d_Re_pick_13 h
set_option maxHeartbeats 4000000 in
set_option maxRecDepth 100000 in
theorem ylp_Rc_spreadFrom_2 {C : YC} {r : Int32} {V' : Sto} {x1 : Int32} {k95 : Sto → RT} (hC : YF C R_Rc b_Rc_spreadFrom 4 rm_Rc_spreadFrom) (hw : YWr C shpC) (hE : YEv C shpC V') (hk95 : ∀ (V1 : Sto), k95 V1 = some (r, V') → Y C shpC 4 95 [] [] V1) : ∀ (n : Nat) (x2 : Int32) (V : Sto), lp_Rc_spreadFrom_2 x1 k95 n x2 V = some (r, V') → Y C shpC 4 2 [(0, .ref (C.a 7)), (1, .int x1), (2, .int x2)] [] V := by
  intro n
  induction n with
  | zero =>
    intro x2 V h
    rw [lp_Rc_spreadFrom_2] at h
    cases h
  | succ n ih =>
    intro x2 V h
    rw [lp_Rc_spreadFrom_2] at h
    refine Y_iload_n (pc := 2) hC d_Rc_spreadFrom_2 rfl 2 rfl ?_
    refine Y_aload_n (pc := 3) hC d_Rc_spreadFrom_3 rfl 0 rfl ?_
    refine Y_getR (pc := 4) hC sc_7 fl_Rc_30 rfl d_Rc_spreadFrom_4 ?_
    refine Y_iload_n (pc := 7) hC d_Rc_spreadFrom_7 rfl 1 rfl ?_
    obtain ⟨r1, V1, hc_r1, h⟩ := cl_some h
    refine Y_callV (pc := 8) hC (c_Re_countOf C.l C.D C.cI C.cZ C.a hc_r1) (fun q => nomatch q) sc_4 cls_Re ml_Rc_68 mv_Re_countOf (by decide) (Nat.le_of_ble_eq_true rfl) rfl d_Rc_spreadFrom_8 ?_
    refine Y_icmp_ge (pc := 11) hC 95 d_Rc_spreadFrom_11 rfl (fun cc_11 => ?_) (fun cc_11 => ?_)
    · have h := ifp cc_11 h
      refine Y_sub (pc := 95) [] rfl ?_
      exact hk95 _ h
    · have h := ifn cc_11 h
      refine Y_aload_n (pc := 14) hC d_Rc_spreadFrom_14 rfl 0 rfl ?_
      refine Y_getR (pc := 15) hC sc_7 fl_Rc_30 rfl d_Rc_spreadFrom_15 ?_
      refine Y_getR (pc := 18) hC sc_4 fl_Rc_74 rfl d_Rc_spreadFrom_18 ?_
      refine Y_aload_n (pc := 21) hC d_Rc_spreadFrom_21 rfl 0 rfl ?_
      refine Y_getR (pc := 22) hC sc_7 fl_Rc_30 rfl d_Rc_spreadFrom_22 ?_
      refine Y_iload_n (pc := 25) hC d_Rc_spreadFrom_25 rfl 1 rfl ?_
      refine Y_iload_n (pc := 26) hC d_Rc_spreadFrom_26 rfl 2 rfl ?_
      obtain ⟨r2, V2, hc_r2, h⟩ := cl_some h
      refine Y_callV (pc := 27) hC (c_Re_pick C.l C.D C.cI C.cZ C.a hc_r2) (fun q => nomatch q) sc_4 cls_Re ml_Rc_77 mv_Re_pick (by decide) (Nat.le_of_ble_eq_true rfl) rfl d_Rc_spreadFrom_27 ?_
      obtain ⟨hi, h⟩ := ck_some h
      refine Y_iald (pc := 30) hC sc_30 rfl hi d_Rc_spreadFrom_30 ?_
      refine Y_istore_n (pc := 31) hC (L' := [(3, .int (V2 30 r2.toNatClampNeg)), (0, .ref (C.a 7)), (1, .int x1), (2, .int x2)]) d_Rc_spreadFrom_31 rfl (by decide) rfl ?_
      refine Y_aload_n (pc := 32) hC d_Rc_spreadFrom_32 rfl 1 rfl ?_
      refine Y_getR (pc := 33) hC sc_7 fl_Rc_34 rfl d_Rc_spreadFrom_33 ?_
      refine Y_getR (pc := 36) hC sc_6 fl_Rc_81 rfl d_Rc_spreadFrom_36 ?_
      refine Y_iload_n (pc := 39) hC d_Rc_spreadFrom_39 rfl 0 rfl ?_
      obtain ⟨hi, h⟩ := ck_some h
      refine Y_iald (pc := 40) hC sc_40 rfl hi d_Rc_spreadFrom_40 ?_
      refine Y_iconst (pc := 41) hC d_Rc_spreadFrom_41 ki_1 ?_
      refine Y_icmp_ne (pc := 42) hC 61 d_Rc_spreadFrom_42 rfl (fun cc_42 => ?_) (fun cc_42 => ?_)
      · have h := ifn cc_42 h
        refine Y_aload_n (pc := 61) hC d_Rc_spreadFrom_61 rfl 1 rfl ?_
        refine Y_getR (pc := 62) hC sc_7 fl_Rc_34 rfl d_Rc_spreadFrom_62 ?_
        refine Y_getR (pc := 65) hC sc_6 fl_Rc_81 rfl d_Rc_spreadFrom_65 ?_
        refine Y_iload_n (pc := 68) hC d_Rc_spreadFrom_68 rfl 0 rfl ?_
        obtain ⟨hi, h⟩ := ck_some h
        refine Y_iald (pc := 69) hC sc_40 rfl hi d_Rc_spreadFrom_69 ?_
        refine Y_iconst (pc := 70) hC d_Rc_spreadFrom_70 ki_3 ?_
        refine Y_icmp_ne (pc := 71) hC 89 d_Rc_spreadFrom_71 rfl (fun cc_71 => ?_) (fun cc_71 => ?_)
        · have h := ifn cc_71 h
          refine Y_iinc (pc := 89) hC (v := x2 + 1) (L' := [(2, .int (x2 + 1)), (3, .int (V2 30 r2.toNatClampNeg)), (0, .ref (C.a 7)), (1, .int x1)]) d_Rc_spreadFrom_89 3 rfl rfl (by decide) rfl ?_
          refine Y_goto (pc := 92) hC 2 d_Rc_spreadFrom_92 rfl ?_
          refine Y_sub (pc := 2) [2, 3, 0] rfl ?_
          exact ih _ _ h
        · have h := ifp cc_71 h
          refine Y_aload_n (pc := 74) hC d_Rc_spreadFrom_74 rfl 1 rfl ?_
          refine Y_getR (pc := 75) hC sc_7 fl_Rc_15 rfl d_Rc_spreadFrom_75 ?_
          refine Y_aload_n (pc := 78) hC d_Rc_spreadFrom_78 rfl 1 rfl ?_
          refine Y_getR (pc := 79) hC sc_7 fl_Rc_34 rfl d_Rc_spreadFrom_79 ?_
          refine Y_getR (pc := 82) hC sc_6 fl_Rc_86 rfl d_Rc_spreadFrom_82 ?_
          refine Y_iload_n (pc := 85) hC d_Rc_spreadFrom_85 rfl 0 rfl ?_
          obtain ⟨hi, h⟩ := ck_some h
          refine Y_iald (pc := 86) hC sc_41 rfl hi d_Rc_spreadFrom_86 ?_
          refine Y_iconst (pc := 87) hC d_Rc_spreadFrom_87 ki_1 ?_
          obtain ⟨hi, h⟩ := ck_some h
          obtain ⟨V3, hV3, h⟩ := nm_some h
          refine Y_zast (pc := 88) hC sc_44 (by decide) rfl hi hw rfl hV3 d_Rc_spreadFrom_88 ?_
          refine Y_iinc (pc := 89) hC (v := x2 + 1) (L' := [(2, .int (x2 + 1)), (3, .int (V2 30 r2.toNatClampNeg)), (0, .ref (C.a 7)), (1, .int x1)]) d_Rc_spreadFrom_89 3 rfl rfl (by decide) rfl ?_
          refine Y_goto (pc := 92) hC 2 d_Rc_spreadFrom_92 rfl ?_
          refine Y_sub (pc := 2) [2, 3, 0] rfl ?_
          exact ih _ _ h
      · have h := ifp cc_42 h
        refine Y_aload_n (pc := 45) hC d_Rc_spreadFrom_45 rfl 1 rfl ?_
        refine Y_aload_n (pc := 46) hC d_Rc_spreadFrom_46 rfl 1 rfl ?_
        refine Y_getR (pc := 47) hC sc_7 fl_Rc_34 rfl d_Rc_spreadFrom_47 ?_
        refine Y_getR (pc := 50) hC sc_6 fl_Rc_86 rfl d_Rc_spreadFrom_50 ?_
        refine Y_iload_n (pc := 53) hC d_Rc_spreadFrom_53 rfl 0 rfl ?_
        obtain ⟨hi, h⟩ := ck_some h
        refine Y_iald (pc := 54) hC sc_41 rfl hi d_Rc_spreadFrom_54 ?_
        obtain ⟨r3, V4, hc_r3, h⟩ := cl_some h
        refine Y_callVv (pc := 55) hC (c_Rc_find C.l C.D C.cI C.cZ C.a hc_r3) (fun _ => hw) sc_7 cls_Rc ml_Rc_41 mv_Rc_find (by decide) (Nat.le_of_ble_eq_true rfl) rfl d_Rc_spreadFrom_55 ?_
        refine Y_goto (pc := 58) hC 89 d_Rc_spreadFrom_58 rfl ?_
        refine Y_iinc (pc := 89) hC (v := x2 + 1) (L' := [(2, .int (x2 + 1)), (3, .int (V2 30 r2.toNatClampNeg)), (0, .ref (C.a 7)), (1, .int x1)]) d_Rc_spreadFrom_89 3 rfl rfl (by decide) rfl ?_
        refine Y_goto (pc := 92) hC 2 d_Rc_spreadFrom_92 rfl ?_
        refine Y_sub (pc := 2) [2, 3, 0] rfl ?_
        exact ih _ _ h
set_option maxHeartbeats 4000000 in
set_option maxRecDepth 100000 in
theorem c_Rc_spreadFrom (l : Launch) (D : va_G) (cI cZ : ClassId) (a : Nat → Nat) {V : Sto} {p1 : Int32} {r : Int32} {V' : Sto} (h : f_Rc_spreadFrom V p1 = some (r, V')) : YMv l D cI cZ a shpC y_Rc_spreadFrom b_Rc_spreadFrom 4 rm_Rc_spreadFrom true [.ref (a 7), .int p1] V V' := by
  refine YMv_of (by decide) (Nat.le_of_ble_eq_true rfl) ?_
  intro C hl hDD hcI hcZ ha hC hw hE
  subst hl hDD hcI hcZ ha
  show Y C shpC 4 0 [(0, .ref (C.a 7)), (1, .int p1)] [] V
  have hw := hw rfl
  rw [f_Rc_spreadFrom] at h
  refine Y_iconst (pc := 0) hC d_Rc_spreadFrom_0 ki_0 ?_
  refine Y_istore_n (pc := 1) hC (L' := [(2, .int 0), (0, .ref (C.a 7)), (1, .int p1)]) d_Rc_spreadFrom_1 rfl (by decide) rfl ?_
  refine Y_sub (pc := 2) [1, 2, 0] rfl ?_
  refine ylp_Rc_spreadFrom_2 hC hw hE (fun V5 h => ?_) FU _ _ h
  exact Y_vret (pc := 95) hC hE d_Rc_spreadFrom_95 h
