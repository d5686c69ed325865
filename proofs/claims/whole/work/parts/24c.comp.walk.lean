set_option maxHeartbeats 4000000 in
set_option maxRecDepth 100000 in
theorem ylp_Is_find_12 {C : YC} {r : Int32} {V' : Sto} {x1 : Int32} {x2 : Int32} {k83 : Int32 → Sto → RT} {k91 : Sto → RT} (hC : YF C R_Is b_Is_find 4 rm_Is_find) (hE : YEi C .int shpC r V') (hk83 : ∀ (y3 : Int32) (V1 : Sto), k83 y3 V1 = some (r, V') → Y C shpC 4 83 [(3, .int y3)] [] V1) (hk91 : ∀ (V1 : Sto), k91 V1 = some (r, V') → Y C shpC 4 91 [(0, .ref (C.a 10))] [] V1) : ∀ (n : Nat) (x3 : Int32) (V : Sto), lp_Is_find_12 x1 x2 k83 k91 n x3 V = some (r, V') → Y C shpC 4 12 [(0, .ref (C.a 10)), (1, .int x1), (2, .int x2), (3, .int x3)] [] V := by
  intro n
  induction n with
  | zero =>
    intro x3 V h
    rw [lp_Is_find_12] at h
    cases h
  | succ n ih =>
    intro x3 V h
    rw [lp_Is_find_12] at h
    refine Y_iload_n (pc := 12) hC d_Is_find_12 rfl 3 rfl ?_
    refine Y_aload_n (pc := 13) hC d_Is_find_13 rfl 0 rfl ?_
    refine Y_getI (pc := 14) hC sc_10 fl_Is_44 rfl d_Is_find_14 ?_
    refine Y_icmp_ge (pc := 17) hC 91 d_Is_find_17 rfl (fun cc_17 => ?_) (fun cc_17 => ?_)
    · have h := ifp cc_17 h
      refine Y_sub (pc := 91) [0] rfl ?_
      exact hk91 _ h
    · have h := ifn cc_17 h
      refine Y_aload_n (pc := 20) hC d_Is_find_20 rfl 0 rfl ?_
      refine Y_getR (pc := 21) hC sc_10 fl_Is_9 rfl d_Is_find_21 ?_
      refine Y_iload_n (pc := 24) hC d_Is_find_24 rfl 3 rfl ?_
      obtain ⟨hi, h⟩ := ck_some h
      refine Y_iald (pc := 25) hC sc_50 rfl hi d_Is_find_25 ?_
      refine Y_aload_n (pc := 26) hC d_Is_find_26 rfl 0 rfl ?_
      refine Y_getR (pc := 27) hC sc_10 fl_Is_32 rfl d_Is_find_27 ?_
      refine Y_getR (pc := 30) hC sc_6 fl_Is_111 rfl d_Is_find_30 ?_
      refine Y_iload_n (pc := 33) hC d_Is_find_33 rfl 2 rfl ?_
      obtain ⟨hi, h⟩ := ck_some h
      refine Y_iald (pc := 34) hC sc_40 rfl hi d_Is_find_34 ?_
      refine Y_icmp_ne (pc := 35) hC 85 d_Is_find_35 rfl (fun cc_35 => ?_) (fun cc_35 => ?_)
      · have h := ifn cc_35 h
        refine Y_iinc (pc := 85) hC (v := x3 + 1) (L' := [(3, .int (x3 + 1)), (0, .ref (C.a 10)), (1, .int x1), (2, .int x2)]) d_Is_find_85 3 rfl rfl (by decide) rfl ?_
        refine Y_goto (pc := 88) hC 12 d_Is_find_88 rfl ?_
        refine Y_sub (pc := 12) [1, 2, 3, 0] rfl ?_
        exact ih _ _ h
      · have h := ifp cc_35 h
        refine Y_aload_n (pc := 38) hC d_Is_find_38 rfl 0 rfl ?_
        refine Y_getR (pc := 39) hC sc_10 fl_Is_15 rfl d_Is_find_39 ?_
        refine Y_iload_n (pc := 42) hC d_Is_find_42 rfl 3 rfl ?_
        obtain ⟨hi, h⟩ := ck_some h
        refine Y_iald (pc := 43) hC sc_51 rfl hi d_Is_find_43 ?_
        refine Y_aload_n (pc := 44) hC d_Is_find_44 rfl 0 rfl ?_
        refine Y_getR (pc := 45) hC sc_10 fl_Is_36 rfl d_Is_find_45 ?_
        refine Y_iload_n (pc := 48) hC d_Is_find_48 rfl 2 rfl ?_
        obtain ⟨r1, V1, hc_r1, h⟩ := cl_some h
        refine Y_callV (pc := 49) hC (c_Fo_leaderOfMeant C.l C.D C.cI C.cZ C.a hc_r1) (fun q => nomatch q) sc_8 cls_Fo ml_Is_114 mv_Fo_leaderOfMeant (by decide) (Nat.le_of_ble_eq_true rfl) rfl d_Is_find_49 ?_
        refine Y_icmp_ne (pc := 52) hC 85 d_Is_find_52 rfl (fun cc_52 => ?_) (fun cc_52 => ?_)
        · have h := ifn cc_52 h
          refine Y_iinc (pc := 85) hC (v := x3 + 1) (L' := [(3, .int (x3 + 1)), (0, .ref (C.a 10)), (1, .int x1), (2, .int x2)]) d_Is_find_85 3 rfl rfl (by decide) rfl ?_
          refine Y_goto (pc := 88) hC 12 d_Is_find_88 rfl ?_
          refine Y_sub (pc := 12) [1, 2, 3, 0] rfl ?_
          exact ih _ _ h
        · have h := ifp cc_52 h
          refine Y_aload_n (pc := 55) hC d_Is_find_55 rfl 0 rfl ?_
          refine Y_getR (pc := 56) hC sc_10 fl_Is_18 rfl d_Is_find_56 ?_
          refine Y_iload_n (pc := 59) hC d_Is_find_59 rfl 3 rfl ?_
          obtain ⟨hi, h⟩ := ck_some h
          refine Y_iald (pc := 60) hC sc_52 rfl hi d_Is_find_60 ?_
          refine Y_aload_n (pc := 61) hC d_Is_find_61 rfl 0 rfl ?_
          refine Y_getR (pc := 62) hC sc_10 fl_Is_32 rfl d_Is_find_62 ?_
          refine Y_getR (pc := 65) hC sc_6 fl_Is_119 rfl d_Is_find_65 ?_
          refine Y_iload_n (pc := 68) hC d_Is_find_68 rfl 2 rfl ?_
          obtain ⟨hi, h⟩ := ck_some h
          refine Y_iald (pc := 69) hC sc_42 rfl hi d_Is_find_69 ?_
          refine Y_aload_n (pc := 70) hC d_Is_find_70 rfl 0 rfl ?_
          refine Y_getR (pc := 71) hC sc_10 fl_Is_28 rfl d_Is_find_71 ?_
          refine Y_getR (pc := 74) hC sc_4 fl_Is_122 rfl d_Is_find_74 ?_
          refine Y_iload_n (pc := 77) hC d_Is_find_77 rfl 1 rfl ?_
          obtain ⟨hi, h⟩ := ck_some h
          refine Y_iald (pc := 78) hC sc_31 rfl hi d_Is_find_78 ?_
          refine Y_iadd (pc := 79) hC d_Is_find_79 ?_
          refine Y_icmp_ne (pc := 80) hC 85 d_Is_find_80 rfl (fun cc_80 => ?_) (fun cc_80 => ?_)
          · have h := ifn cc_80 h
            refine Y_iinc (pc := 85) hC (v := x3 + 1) (L' := [(3, .int (x3 + 1)), (0, .ref (C.a 10)), (1, .int x1), (2, .int x2)]) d_Is_find_85 3 rfl rfl (by decide) rfl ?_
            refine Y_goto (pc := 88) hC 12 d_Is_find_88 rfl ?_
            refine Y_sub (pc := 12) [1, 2, 3, 0] rfl ?_
            exact ih _ _ h
          · have h := ifp cc_80 h
            refine Y_sub (pc := 83) [3] rfl ?_
            exact hk83 _ _ h
set_option maxHeartbeats 4000000 in
set_option maxRecDepth 100000 in
theorem c_Is_find (l : Launch) (D : va_G) (cI cZ : ClassId) (a : Nat → Nat) {V : Sto} {p1 : Int32} {r : Int32} {V' : Sto} (h : f_Is_find V p1 = some (r, V')) : YMi l D cI cZ a shpC y_Is_find b_Is_find 4 (some .int) rm_Is_find false [.ref (a 10), .int p1] V r V' := by
  refine YMi_of (by decide) (Nat.le_of_ble_eq_true rfl) ?_
  intro C hl hDD hcI hcZ ha hC hw hE
  subst hl hDD hcI hcZ ha
  show Y C shpC 4 0 [(0, .ref (C.a 10)), (1, .int p1)] [] V
  rw [f_Is_find] at h
  refine Y_aload_n (pc := 0) hC d_Is_find_0 rfl 0 rfl ?_
  refine Y_getR (pc := 1) hC sc_10 fl_Is_28 rfl d_Is_find_1 ?_
  refine Y_getR (pc := 4) hC sc_4 fl_Is_108 rfl d_Is_find_4 ?_
  refine Y_iload_n (pc := 7) hC d_Is_find_7 rfl 1 rfl ?_
  obtain ⟨hi, h⟩ := ck_some h
  refine Y_iald (pc := 8) hC sc_30 rfl hi d_Is_find_8 ?_
  refine Y_istore_n (pc := 9) hC (L' := [(2, .int (V 30 p1.toNatClampNeg)), (0, .ref (C.a 10)), (1, .int p1)]) d_Is_find_9 rfl (by decide) rfl ?_
  refine Y_iconst (pc := 10) hC d_Is_find_10 ki_0 ?_
  refine Y_istore_n (pc := 11) hC (L' := [(3, .int 0), (2, .int (V 30 p1.toNatClampNeg)), (0, .ref (C.a 10)), (1, .int p1)]) d_Is_find_11 rfl (by decide) rfl ?_
  refine Y_sub (pc := 12) [2, 3, 1, 0] rfl ?_
  refine ylp_Is_find_12 hC hE (fun y1 V2 h => ?_) (fun V3 h => ?_) FU _ _ h
  · have h := h
    refine Y_iload_n (pc := 83) hC d_Is_find_83 rfl 0 rfl ?_
    exact Y_iret (pc := 84) hC hE d_Is_find_84 h
  · have h := h
    refine Y_aload_n (pc := 91) hC d_Is_find_91 rfl 0 rfl ?_
    refine Y_getI (pc := 92) hC sc_10 fl_Is_44 rfl d_Is_find_92 ?_
    exact Y_iret (pc := 95) hC hE d_Is_find_95 h
set_option maxHeartbeats 4000000 in
set_option maxRecDepth 100000 in
theorem c_Is_raise (l : Launch) (D : va_G) (cI cZ : ClassId) (a : Nat → Nat) {V : Sto} {p1 : Int32} {r : Int32} {V' : Sto} (h : f_Is_raise V p1 = some (r, V')) : YMv l D cI cZ a shpC y_Is_raise b_Is_raise 3 rm_Is_raise true [.ref (a 10), .int p1] V V' := by
  refine YMv_of (by decide) (Nat.le_of_ble_eq_true rfl) ?_
  intro C hl hDD hcI hcZ ha hC hw hE
  subst hl hDD hcI hcZ ha
  show Y C shpC 3 0 [(0, .ref (C.a 10)), (1, .int p1)] [] V
  have hw := hw rfl
  rw [f_Is_raise] at h
  refine Y_aload_n (pc := 0) hC d_Is_raise_0 rfl 0 rfl ?_
  refine Y_getR (pc := 1) hC sc_10 fl_Is_28 rfl d_Is_raise_1 ?_
  refine Y_getR (pc := 4) hC sc_4 fl_Is_108 rfl d_Is_raise_4 ?_
  refine Y_iload_n (pc := 7) hC d_Is_raise_7 rfl 1 rfl ?_
  obtain ⟨hi, h⟩ := ck_some h
  refine Y_iald (pc := 8) hC sc_30 rfl hi d_Is_raise_8 ?_
  refine Y_istore_n (pc := 9) hC (L' := [(2, .int (V 30 p1.toNatClampNeg)), (0, .ref (C.a 10)), (1, .int p1)]) d_Is_raise_9 rfl (by decide) rfl ?_
  refine Y_aload_n (pc := 10) hC d_Is_raise_10 rfl 1 rfl ?_
  refine Y_getR (pc := 11) hC sc_10 fl_Is_9 rfl d_Is_raise_11 ?_
  refine Y_aload_n (pc := 14) hC d_Is_raise_14 rfl 1 rfl ?_
  refine Y_getI (pc := 15) hC sc_10 fl_Is_44 rfl d_Is_raise_15 ?_
  refine Y_aload_n (pc := 18) hC d_Is_raise_18 rfl 1 rfl ?_
  refine Y_getR (pc := 19) hC sc_10 fl_Is_32 rfl d_Is_raise_19 ?_
  refine Y_getR (pc := 22) hC sc_6 fl_Is_111 rfl d_Is_raise_22 ?_
  refine Y_iload_n (pc := 25) hC d_Is_raise_25 rfl 0 rfl ?_
  obtain ⟨hi, h⟩ := ck_some h
  refine Y_iald (pc := 26) hC sc_40 rfl hi d_Is_raise_26 ?_
  obtain ⟨hi, h⟩ := ck_some h
  obtain ⟨V1, hV1, h⟩ := nm_some h
  refine Y_iast (pc := 27) hC sc_50 (by decide) rfl hi hw rfl hV1 d_Is_raise_27 ?_
  refine Y_aload_n (pc := 28) hC d_Is_raise_28 rfl 1 rfl ?_
  refine Y_getR (pc := 29) hC sc_10 fl_Is_15 rfl d_Is_raise_29 ?_
  refine Y_aload_n (pc := 32) hC d_Is_raise_32 rfl 1 rfl ?_
  refine Y_getI (pc := 33) hC sc_10 fl_Is_44 rfl d_Is_raise_33 ?_
  refine Y_aload_n (pc := 36) hC d_Is_raise_36 rfl 1 rfl ?_
  refine Y_getR (pc := 37) hC sc_10 fl_Is_36 rfl d_Is_raise_37 ?_
  refine Y_iload_n (pc := 40) hC d_Is_raise_40 rfl 0 rfl ?_
  obtain ⟨r1, V2, hc_r1, h⟩ := cl_some h
  refine Y_callV (pc := 41) hC (c_Fo_leaderOfMeant C.l C.D C.cI C.cZ C.a hc_r1) (fun q => nomatch q) sc_8 cls_Fo ml_Is_114 mv_Fo_leaderOfMeant (by decide) (Nat.le_of_ble_eq_true rfl) rfl d_Is_raise_41 ?_
  obtain ⟨hi, h⟩ := ck_some h
  obtain ⟨V3, hV3, h⟩ := nm_some h
  refine Y_iast (pc := 44) hC sc_51 (by decide) rfl hi hw rfl hV3 d_Is_raise_44 ?_
  refine Y_aload_n (pc := 45) hC d_Is_raise_45 rfl 1 rfl ?_
  refine Y_getR (pc := 46) hC sc_10 fl_Is_18 rfl d_Is_raise_46 ?_
  refine Y_aload_n (pc := 49) hC d_Is_raise_49 rfl 1 rfl ?_
  refine Y_getI (pc := 50) hC sc_10 fl_Is_44 rfl d_Is_raise_50 ?_
  refine Y_aload_n (pc := 53) hC d_Is_raise_53 rfl 1 rfl ?_
  refine Y_getR (pc := 54) hC sc_10 fl_Is_32 rfl d_Is_raise_54 ?_
  refine Y_getR (pc := 57) hC sc_6 fl_Is_119 rfl d_Is_raise_57 ?_
  refine Y_iload_n (pc := 60) hC d_Is_raise_60 rfl 0 rfl ?_
  obtain ⟨hi, h⟩ := ck_some h
  refine Y_iald (pc := 61) hC sc_42 rfl hi d_Is_raise_61 ?_
  refine Y_aload_n (pc := 62) hC d_Is_raise_62 rfl 1 rfl ?_
  refine Y_getR (pc := 63) hC sc_10 fl_Is_28 rfl d_Is_raise_63 ?_
  refine Y_getR (pc := 66) hC sc_4 fl_Is_122 rfl d_Is_raise_66 ?_
  refine Y_iload_n (pc := 69) hC d_Is_raise_69 rfl 2 rfl ?_
  obtain ⟨hi, h⟩ := ck_some h
  refine Y_iald (pc := 70) hC sc_31 rfl hi d_Is_raise_70 ?_
  refine Y_iadd (pc := 71) hC d_Is_raise_71 ?_
  obtain ⟨hi, h⟩ := ck_some h
  obtain ⟨V4, hV4, h⟩ := nm_some h
  refine Y_iast (pc := 72) hC sc_52 (by decide) rfl hi hw rfl hV4 d_Is_raise_72 ?_
  refine Y_aload_n (pc := 73) hC d_Is_raise_73 rfl 1 rfl ?_
  refine Y_dup (pc := 74) hC d_Is_raise_74 rfl ?_
  refine Y_getI (pc := 75) hC sc_10 fl_Is_44 rfl d_Is_raise_75 ?_
  refine Y_iconst (pc := 78) hC d_Is_raise_78 ki_1 ?_
  refine Y_iadd (pc := 79) hC d_Is_raise_79 ?_
  obtain ⟨V5, hV5, h⟩ := nm_some h
  refine Y_put (pc := 80) hC sc_10 fl_Is_44 rfl (by decide) fp_Is ft_Is_5 rfl rfl hw hV5 d_Is_raise_80 ?_
  exact Y_vret (pc := 83) hC hE d_Is_raise_83 h
set_option maxHeartbeats 4000000 in
set_option maxRecDepth 100000 in
theorem c_Is_send (l : Launch) (D : va_G) (cI cZ : ClassId) (a : Nat → Nat) {V : Sto} {p1 : Int32} {r : Int32} {V' : Sto} (h : f_Is_send V p1 = some (r, V')) : YMi l D cI cZ a shpC y_Is_send b_Is_send 3 (some .boolean) rm_Is_send true [.ref (a 10), .int p1] V r V' := by
  refine YMi_of (by decide) (Nat.le_of_ble_eq_true rfl) ?_
  intro C hl hDD hcI hcZ ha hC hw hE
  subst hl hDD hcI hcZ ha
  show Y C shpC 3 0 [(0, .ref (C.a 10)), (1, .int p1)] [] V
  have hw := hw rfl
  rw [f_Is_send] at h
  refine Y_aload_n (pc := 0) hC d_Is_send_0 rfl 0 rfl ?_
  refine Y_iload_n (pc := 1) hC d_Is_send_1 rfl 1 rfl ?_
  obtain ⟨r1, V1, hc_r1, h⟩ := cl_some h
  refine Y_callV (pc := 2) hC (c_Is_find C.l C.D C.cI C.cZ C.a hc_r1) (fun q => nomatch q) sc_10 cls_Is ml_Is_102 mv_Is_find (by decide) (Nat.le_of_ble_eq_true rfl) rfl d_Is_send_2 ?_
  refine Y_istore_n (pc := 5) hC (L' := [(2, .int r1), (0, .ref (C.a 10)), (1, .int p1)]) d_Is_send_5 rfl (by decide) rfl ?_
  refine Y_iload_n (pc := 6) hC d_Is_send_6 rfl 0 rfl ?_
  refine Y_aload_n (pc := 7) hC d_Is_send_7 rfl 1 rfl ?_
  refine Y_getI (pc := 8) hC sc_10 fl_Is_44 rfl d_Is_send_8 ?_
  refine Y_icmp_ne (pc := 11) hC 30 d_Is_send_11 rfl (fun cc_11 => ?_) (fun cc_11 => ?_)
  · have h := ifn cc_11 h
    refine Y_aload_n (pc := 30) hC d_Is_send_30 rfl 1 rfl ?_
    refine Y_getR (pc := 31) hC sc_10 fl_Is_21 rfl d_Is_send_31 ?_
    refine Y_iload_n (pc := 34) hC d_Is_send_34 rfl 2 rfl ?_
    refine Y_iload_n (pc := 35) hC d_Is_send_35 rfl 0 rfl ?_
    obtain ⟨hi, h⟩ := ck_some h
    obtain ⟨V2, hV2, h⟩ := nm_some h
    refine Y_iast (pc := 36) hC sc_53 (by decide) rfl hi hw rfl hV2 d_Is_send_36 ?_
    refine Y_aload_n (pc := 37) hC d_Is_send_37 rfl 1 rfl ?_
    refine Y_dup (pc := 38) hC d_Is_send_38 rfl ?_
    refine Y_getI (pc := 39) hC sc_10 fl_Is_48 rfl d_Is_send_39 ?_
    refine Y_iconst (pc := 42) hC d_Is_send_42 ki_1 ?_
    refine Y_iadd (pc := 43) hC d_Is_send_43 ?_
    obtain ⟨V3, hV3, h⟩ := nm_some h
    refine Y_put (pc := 44) hC sc_10 fl_Is_48 rfl (by decide) fp_Is ft_Is_6 rfl rfl hw hV3 d_Is_send_44 ?_
    refine Y_iconst (pc := 47) hC d_Is_send_47 ki_1 ?_
    exact Y_zret (pc := 48) hC hE d_Is_send_48 rfl h
  · have h := ifp cc_11 h
    refine Y_aload_n (pc := 14) hC d_Is_send_14 rfl 1 rfl ?_
    refine Y_getI (pc := 15) hC sc_10 fl_Is_44 rfl d_Is_send_15 ?_
    refine Y_bipush (pc := 18) hC d_Is_send_18 kb_32 ?_
    refine Y_icmp_lt (pc := 20) hC 25 d_Is_send_20 rfl (fun cc_20 => ?_) (fun cc_20 => ?_)
    · have h := ifp cc_20 h
      refine Y_aload_n (pc := 25) hC d_Is_send_25 rfl 1 rfl ?_
      refine Y_iload_n (pc := 26) hC d_Is_send_26 rfl 2 rfl ?_
      obtain ⟨r2, V4, hc_r2, h⟩ := cl_some h
      refine Y_callVv (pc := 27) hC (c_Is_raise C.l C.D C.cI C.cZ C.a hc_r2) (fun _ => hw) sc_10 cls_Is ml_Is_105 mv_Is_raise (by decide) (Nat.le_of_ble_eq_true rfl) rfl d_Is_send_27 ?_
      refine Y_aload_n (pc := 30) hC d_Is_send_30 rfl 1 rfl ?_
      refine Y_getR (pc := 31) hC sc_10 fl_Is_21 rfl d_Is_send_31 ?_
      refine Y_iload_n (pc := 34) hC d_Is_send_34 rfl 2 rfl ?_
      refine Y_iload_n (pc := 35) hC d_Is_send_35 rfl 0 rfl ?_
      obtain ⟨hi, h⟩ := ck_some h
      obtain ⟨V5, hV5, h⟩ := nm_some h
      refine Y_iast (pc := 36) hC sc_53 (by decide) rfl hi hw rfl hV5 d_Is_send_36 ?_
      refine Y_aload_n (pc := 37) hC d_Is_send_37 rfl 1 rfl ?_
      refine Y_dup (pc := 38) hC d_Is_send_38 rfl ?_
      refine Y_getI (pc := 39) hC sc_10 fl_Is_48 rfl d_Is_send_39 ?_
      refine Y_iconst (pc := 42) hC d_Is_send_42 ki_1 ?_
      refine Y_iadd (pc := 43) hC d_Is_send_43 ?_
      obtain ⟨V6, hV6, h⟩ := nm_some h
      refine Y_put (pc := 44) hC sc_10 fl_Is_48 rfl (by decide) fp_Is ft_Is_6 rfl rfl hw hV6 d_Is_send_44 ?_
      refine Y_iconst (pc := 47) hC d_Is_send_47 ki_1 ?_
      exact Y_zret (pc := 48) hC hE d_Is_send_48 rfl h
    · have h := ifn cc_20 h
      refine Y_iconst (pc := 23) hC d_Is_send_23 ki_0 ?_
      exact Y_zret (pc := 24) hC hE d_Is_send_24 rfl h
set_option maxHeartbeats 4000000 in
set_option maxRecDepth 100000 in
theorem c_La_put (l : Launch) (D : va_G) (cI cZ : ClassId) (a : Nat → Nat) {V : Sto} {p1 : Int32} {p2 : Int32} {r : Int32} {V' : Sto} (h : f_La_put V p1 p2 = some (r, V')) : YMi l D cI cZ a shpC y_La_put b_La_put 4 (some .int) rm_La_put true [.ref (a 9), .int p1, .int p2] V r V' := by
  refine YMi_of (by decide) (Nat.le_of_ble_eq_true rfl) ?_
  intro C hl hDD hcI hcZ ha hC hw hE
  subst hl hDD hcI hcZ ha
  show Y C shpC 4 0 [(0, .ref (C.a 9)), (1, .int p1), (2, .int p2)] [] V
  have hw := hw rfl
  rw [f_La_put] at h
  refine Y_aload_n (pc := 0) hC d_La_put_0 rfl 0 rfl ?_
  refine Y_getI (pc := 1) hC sc_9 fl_La_47 rfl d_La_put_1 ?_
  refine Y_iload_n (pc := 4) hC d_La_put_4 rfl 2 rfl ?_
  refine Y_iadd (pc := 5) hC d_La_put_5 ?_
  refine Y_iconst (pc := 6) hC d_La_put_6 ki_1 ?_
  refine Y_isub (pc := 7) hC d_La_put_7 ?_
  refine Y_iload_n (pc := 8) hC d_La_put_8 rfl 2 rfl ?_
  refine Y_ineg (pc := 9) hC d_La_put_9 ?_
  refine Y_iand (pc := 10) hC d_La_put_10 ?_
  refine Y_istore_n (pc := 11) hC (L' := [(3, .int ((((V 9 5) + p2) - 1) &&& (-p2))), (0, .ref (C.a 9)), (1, .int p1), (2, .int p2)]) d_La_put_11 rfl (by decide) rfl ?_
  refine Y_aload_n (pc := 12) hC d_La_put_12 rfl 1 rfl ?_
  refine Y_iload_n (pc := 13) hC d_La_put_13 rfl 0 rfl ?_
  refine Y_iload_n (pc := 14) hC d_La_put_14 rfl 2 rfl ?_
  refine Y_iadd (pc := 15) hC d_La_put_15 ?_
  obtain ⟨V1, hV1, h⟩ := nm_some h
  refine Y_put (pc := 16) hC sc_9 fl_La_47 rfl (by decide) fp_La ft_La_5 rfl rfl hw hV1 d_La_put_16 ?_
  refine Y_iload_n (pc := 19) hC d_La_put_19 rfl 0 rfl ?_
  exact Y_iret (pc := 20) hC hE d_La_put_20 h
set_option maxHeartbeats 4000000 in
set_option maxRecDepth 100000 in
theorem ylp_La_laySections_2 {C : YC} {r : Int32} {V' : Sto} {x1 : Int32} {k100 : Sto → RT} (hC : YF C R_La b_La_laySections 3 rm_La_laySections) (hw : YWr C shpC) (hE : YEv C shpC V') (hk100 : ∀ (V1 : Sto), k100 V1 = some (r, V') → Y C shpC 3 100 [] [] V1) : ∀ (n : Nat) (x2 : Int32) (V : Sto), lp_La_laySections_2 x1 k100 n x2 V = some (r, V') → Y C shpC 3 2 [(0, .ref (C.a 9)), (1, .int x1), (2, .int x2)] [] V := by
  intro n
  induction n with
  | zero =>
    intro x2 V h
    rw [lp_La_laySections_2] at h
    cases h
  | succ n ih =>
    intro x2 V h
    rw [lp_La_laySections_2] at h
    refine Y_iload_n (pc := 2) hC d_La_laySections_2 rfl 2 rfl ?_
    refine Y_aload_n (pc := 3) hC d_La_laySections_3 rfl 0 rfl ?_
    refine Y_getR (pc := 4) hC sc_9 fl_La_18 rfl d_La_laySections_4 ?_
    refine Y_getI (pc := 7) hC sc_2 fl_La_72 rfl d_La_laySections_7 ?_
    refine Y_icmp_ge (pc := 10) hC 100 d_La_laySections_10 rfl (fun cc_10 => ?_) (fun cc_10 => ?_)
    · have h := ifp cc_10 h
      refine Y_sub (pc := 100) [] rfl ?_
      exact hk100 _ h
    · have h := ifn cc_10 h
      refine Y_aload_n (pc := 13) hC d_La_laySections_13 rfl 0 rfl ?_
      refine Y_getR (pc := 14) hC sc_9 fl_La_26 rfl d_La_laySections_14 ?_
      refine Y_getR (pc := 17) hC sc_7 fl_La_77 rfl d_La_laySections_17 ?_
      refine Y_iload_n (pc := 20) hC d_La_laySections_20 rfl 2 rfl ?_
      obtain ⟨hi, h⟩ := ck_some h
      refine Y_zald (pc := 21) hC sc_43 rfl hi d_La_laySections_21 ?_
      refine Y_if_eq (pc := 22) hC 94 d_La_laySections_22 rfl (fun cc_22 => ?_) (fun cc_22 => ?_)
      · have h := ifp cc_22 h
        refine Y_iinc (pc := 94) hC (v := x2 + 1) (L' := [(2, .int (x2 + 1)), (0, .ref (C.a 9)), (1, .int x1)]) d_La_laySections_94 2 rfl rfl (by decide) rfl ?_
        refine Y_goto (pc := 97) hC 2 d_La_laySections_97 rfl ?_
        refine Y_sub (pc := 2) [1, 2, 0] rfl ?_
        exact ih _ _ h
      · have h := ifn cc_22 h
        refine Y_aload_n (pc := 25) hC d_La_laySections_25 rfl 0 rfl ?_
        refine Y_getR (pc := 26) hC sc_9 fl_La_18 rfl d_La_laySections_26 ?_
        refine Y_getR (pc := 29) hC sc_2 fl_La_80 rfl d_La_laySections_29 ?_
        refine Y_iload_n (pc := 32) hC d_La_laySections_32 rfl 2 rfl ?_
        obtain ⟨hi, h⟩ := ck_some h
        refine Y_iald (pc := 33) hC sc_16 rfl hi d_La_laySections_33 ?_
        refine Y_iload_n (pc := 34) hC d_La_laySections_34 rfl 1 rfl ?_
        refine Y_icmp_ne (pc := 35) hC 94 d_La_laySections_35 rfl (fun cc_35 => ?_) (fun cc_35 => ?_)
        · have h := ifn cc_35 h
          refine Y_iinc (pc := 94) hC (v := x2 + 1) (L' := [(2, .int (x2 + 1)), (0, .ref (C.a 9)), (1, .int x1)]) d_La_laySections_94 2 rfl rfl (by decide) rfl ?_
          refine Y_goto (pc := 97) hC 2 d_La_laySections_97 rfl ?_
          refine Y_sub (pc := 2) [1, 2, 0] rfl ?_
          exact ih _ _ h
        · have h := ifp cc_35 h
          refine Y_aload_n (pc := 38) hC d_La_laySections_38 rfl 0 rfl ?_
          refine Y_getR (pc := 39) hC sc_9 fl_La_9 rfl d_La_laySections_39 ?_
          refine Y_iload_n (pc := 42) hC d_La_laySections_42 rfl 2 rfl ?_
          refine Y_aload_n (pc := 43) hC d_La_laySections_43 rfl 0 rfl ?_
          refine Y_getR (pc := 44) hC sc_9 fl_La_30 rfl d_La_laySections_44 ?_
          refine Y_iload_n (pc := 47) hC d_La_laySections_47 rfl 2 rfl ?_
          obtain ⟨r1, V1, hc_r1, h⟩ := cl_some h
          refine Y_callV (pc := 48) hC (c_Fo_isFolded C.l C.D C.cI C.cZ C.a hc_r1) (fun q => nomatch q) sc_8 cls_Fo ml_La_83 mv_Fo_isFolded (by decide) (Nat.le_of_ble_eq_true rfl) rfl d_La_laySections_48 ?_
          refine Y_if_eq (pc := 51) hC 71 d_La_laySections_51 rfl (fun cc_51 => ?_) (fun cc_51 => ?_)
          · have h := ifp cc_51 h
            refine Y_aload_n (pc := 71) hC d_La_laySections_71 rfl 0 rfl ?_
            refine Y_aload_n (pc := 72) hC d_La_laySections_72 rfl 0 rfl ?_
            refine Y_getR (pc := 73) hC sc_9 fl_La_18 rfl d_La_laySections_73 ?_
            refine Y_getR (pc := 76) hC sc_2 fl_La_92 rfl d_La_laySections_76 ?_
            refine Y_iload_n (pc := 79) hC d_La_laySections_79 rfl 2 rfl ?_
            obtain ⟨hi, h⟩ := ck_some h
            refine Y_iald (pc := 80) hC sc_17 rfl hi d_La_laySections_80 ?_
            refine Y_aload_n (pc := 81) hC d_La_laySections_81 rfl 0 rfl ?_
            refine Y_getR (pc := 82) hC sc_9 fl_La_18 rfl d_La_laySections_82 ?_
            refine Y_getR (pc := 85) hC sc_2 fl_La_95 rfl d_La_laySections_85 ?_
            refine Y_iload_n (pc := 88) hC d_La_laySections_88 rfl 2 rfl ?_
            obtain ⟨hi, h⟩ := ck_some h
            refine Y_iald (pc := 89) hC sc_18 rfl hi d_La_laySections_89 ?_
            obtain ⟨r2, V2, hc_r2, h⟩ := cl_some h
            refine Y_callV (pc := 90) hC (c_La_put C.l C.D C.cI C.cZ C.a hc_r2) (fun _ => hw) sc_9 cls_La ml_La_54 mv_La_put (by decide) (Nat.le_of_ble_eq_true rfl) rfl d_La_laySections_90 ?_
            obtain ⟨hi, h⟩ := ck_some h
            obtain ⟨V3, hV3, h⟩ := nm_some h
            refine Y_iast (pc := 93) hC sc_48 (by decide) rfl hi hw rfl hV3 d_La_laySections_93 ?_
            refine Y_iinc (pc := 94) hC (v := x2 + 1) (L' := [(2, .int (x2 + 1)), (0, .ref (C.a 9)), (1, .int x1)]) d_La_laySections_94 2 rfl rfl (by decide) rfl ?_
            refine Y_goto (pc := 97) hC 2 d_La_laySections_97 rfl ?_
            refine Y_sub (pc := 2) [1, 2, 0] rfl ?_
            exact ih _ _ h
          · have h := ifn cc_51 h
            refine Y_aload_n (pc := 54) hC d_La_laySections_54 rfl 0 rfl ?_
            refine Y_getR (pc := 55) hC sc_9 fl_La_9 rfl d_La_laySections_55 ?_
            refine Y_aload_n (pc := 58) hC d_La_laySections_58 rfl 0 rfl ?_
            refine Y_getR (pc := 59) hC sc_9 fl_La_30 rfl d_La_laySections_59 ?_
            refine Y_getR (pc := 62) hC sc_8 fl_La_89 rfl d_La_laySections_62 ?_
            refine Y_iload_n (pc := 65) hC d_La_laySections_65 rfl 2 rfl ?_
            obtain ⟨hi, h⟩ := ck_some h
            refine Y_iald (pc := 66) hC sc_46 rfl hi d_La_laySections_66 ?_
            obtain ⟨hi, h⟩ := ck_some h
            refine Y_iald (pc := 67) hC sc_48 rfl hi d_La_laySections_67 ?_
            refine Y_goto (pc := 68) hC 93 d_La_laySections_68 rfl ?_
            obtain ⟨hi, h⟩ := ck_some h
            obtain ⟨V4, hV4, h⟩ := nm_some h
            refine Y_iast (pc := 93) hC sc_48 (by decide) rfl hi hw rfl hV4 d_La_laySections_93 ?_
            refine Y_iinc (pc := 94) hC (v := x2 + 1) (L' := [(2, .int (x2 + 1)), (0, .ref (C.a 9)), (1, .int x1)]) d_La_laySections_94 2 rfl rfl (by decide) rfl ?_
            refine Y_goto (pc := 97) hC 2 d_La_laySections_97 rfl ?_
            refine Y_sub (pc := 2) [1, 2, 0] rfl ?_
            exact ih _ _ h
set_option maxHeartbeats 4000000 in
set_option maxRecDepth 100000 in
theorem c_La_laySections (l : Launch) (D : va_G) (cI cZ : ClassId) (a : Nat → Nat) {V : Sto} {p1 : Int32} {r : Int32} {V' : Sto} (h : f_La_laySections V p1 = some (r, V')) : YMv l D cI cZ a shpC y_La_laySections b_La_laySections 3 rm_La_laySections true [.ref (a 9), .int p1] V V' := by
  refine YMv_of (by decide) (Nat.le_of_ble_eq_true rfl) ?_
  intro C hl hDD hcI hcZ ha hC hw hE
  subst hl hDD hcI hcZ ha
  show Y C shpC 3 0 [(0, .ref (C.a 9)), (1, .int p1)] [] V
  have hw := hw rfl
  rw [f_La_laySections] at h
  refine Y_iconst (pc := 0) hC d_La_laySections_0 ki_0 ?_
  refine Y_istore_n (pc := 1) hC (L' := [(2, .int 0), (0, .ref (C.a 9)), (1, .int p1)]) d_La_laySections_1 rfl (by decide) rfl ?_
  refine Y_sub (pc := 2) [1, 2, 0] rfl ?_
  refine ylp_La_laySections_2 hC hw hE (fun V5 h => ?_) FU _ _ h
  exact Y_vret (pc := 100) hC hE d_La_laySections_100 h
set_option maxHeartbeats 4000000 in
set_option maxRecDepth 100000 in
theorem ylp_La_lay_48 {C : YC} {r : Int32} {V' : Sto} {k93 : Sto → RT} (hC : YF C R_La b_La_lay 3 rm_La_lay) (hw : YWr C shpC) (hE : YEv C shpC V') (hk93 : ∀ (V1 : Sto), k93 V1 = some (r, V') → Y C shpC 3 93 [] [] V1) : ∀ (n : Nat) (x2 : Int32) (V : Sto), lp_La_lay_48 k93 n x2 V = some (r, V') → Y C shpC 3 48 [(0, .ref (C.a 9)), (2, .int x2)] [] V := by
  intro n
  induction n with
  | zero =>
    intro x2 V h
    rw [lp_La_lay_48] at h
    cases h
  | succ n ih =>
    intro x2 V h
    rw [lp_La_lay_48] at h
    refine Y_iload_n (pc := 48) hC d_La_lay_48 rfl 1 rfl ?_
    refine Y_sipush (pc := 49) hC d_La_lay_49 ks_200 ?_
    refine Y_icmp_ge (pc := 52) hC 93 d_La_lay_52 rfl (fun cc_52 => ?_) (fun cc_52 => ?_)
    · have h := ifp cc_52 h
      refine Y_sub (pc := 93) [] rfl ?_
      exact hk93 _ h
    · have h := ifn cc_52 h
      refine Y_aload_n (pc := 55) hC d_La_lay_55 rfl 0 rfl ?_
      refine Y_getR (pc := 56) hC sc_9 fl_La_26 rfl d_La_lay_56 ?_
      refine Y_getR (pc := 59) hC sc_7 fl_La_61 rfl d_La_lay_59 ?_
      refine Y_iload_n (pc := 62) hC d_La_lay_62 rfl 1 rfl ?_
      obtain ⟨hi, h⟩ := ck_some h
      refine Y_zald (pc := 63) hC sc_44 rfl hi d_La_lay_63 ?_
      refine Y_if_eq (pc := 64) hC 87 d_La_lay_64 rfl (fun cc_64 => ?_) (fun cc_64 => ?_)
      · have h := ifp cc_64 h
        refine Y_iinc (pc := 87) hC (v := x2 + 1) (L' := [(2, .int (x2 + 1)), (0, .ref (C.a 9))]) d_La_lay_87 1 rfl rfl (by decide) rfl ?_
        refine Y_goto (pc := 90) hC 48 d_La_lay_90 rfl ?_
        refine Y_sub (pc := 48) [1, 0] rfl ?_
        exact ih _ _ h
      · have h := ifn cc_64 h
        refine Y_aload_n (pc := 67) hC d_La_lay_67 rfl 0 rfl ?_
        refine Y_getR (pc := 68) hC sc_9 fl_La_15 rfl d_La_lay_68 ?_
        refine Y_iload_n (pc := 71) hC d_La_lay_71 rfl 1 rfl ?_
        refine Y_aload_n (pc := 72) hC d_La_lay_72 rfl 0 rfl ?_
        refine Y_aload_n (pc := 73) hC d_La_lay_73 rfl 0 rfl ?_
        refine Y_getR (pc := 74) hC sc_9 fl_La_22 rfl d_La_lay_74 ?_
        refine Y_getR (pc := 77) hC sc_6 fl_La_67 rfl d_La_lay_77 ?_
        refine Y_iload_n (pc := 80) hC d_La_lay_80 rfl 1 rfl ?_
        obtain ⟨hi, h⟩ := ck_some h
        refine Y_iald (pc := 81) hC sc_39 rfl hi d_La_lay_81 ?_
        refine Y_iconst (pc := 82) hC d_La_lay_82 ki_4 ?_
        obtain ⟨r5, V8, hc_r5, h⟩ := cl_some h
        refine Y_callV (pc := 83) hC (c_La_put C.l C.D C.cI C.cZ C.a hc_r5) (fun _ => hw) sc_9 cls_La ml_La_54 mv_La_put (by decide) (Nat.le_of_ble_eq_true rfl) rfl d_La_lay_83 ?_
        obtain ⟨hi, h⟩ := ck_some h
        obtain ⟨V9, hV9, h⟩ := nm_some h
        refine Y_iast (pc := 86) hC sc_49 (by decide) rfl hi hw rfl hV9 d_La_lay_86 ?_
        refine Y_iinc (pc := 87) hC (v := x2 + 1) (L' := [(2, .int (x2 + 1)), (0, .ref (C.a 9))]) d_La_lay_87 1 rfl rfl (by decide) rfl ?_
        refine Y_goto (pc := 90) hC 48 d_La_lay_90 rfl ?_
        refine Y_sub (pc := 48) [1, 0] rfl ?_
        exact ih _ _ h
set_option maxHeartbeats 4000000 in
set_option maxRecDepth 100000 in
theorem c_La_lay (l : Launch) (D : va_G) (cI cZ : ClassId) (a : Nat → Nat) {V : Sto} {p1 : Int32} {r : Int32} {V' : Sto} (h : f_La_lay V p1 = some (r, V')) : YMv l D cI cZ a shpC y_La_lay b_La_lay 3 rm_La_lay true [.ref (a 9), .int p1] V V' := by
  refine YMv_of (by decide) (Nat.le_of_ble_eq_true rfl) ?_
  intro C hl hDD hcI hcZ ha hC hw hE
  subst hl hDD hcI hcZ ha
  show Y C shpC 3 0 [(0, .ref (C.a 9)), (1, .int p1)] [] V
  have hw := hw rfl
  rw [f_La_lay] at h
  refine Y_aload_n (pc := 0) hC d_La_lay_0 rfl 0 rfl ?_
  refine Y_dup (pc := 1) hC d_La_lay_1 rfl ?_
  refine Y_getI (pc := 2) hC sc_9 fl_La_38 rfl d_La_lay_2 ?_
  refine Y_iconst (pc := 5) hC d_La_lay_5 ki_1 ?_
  refine Y_iadd (pc := 6) hC d_La_lay_6 ?_
  obtain ⟨V1, hV1, h⟩ := nm_some h
  refine Y_put (pc := 7) hC sc_9 fl_La_38 rfl (by decide) fp_La ft_La_6 rfl rfl hw hV1 d_La_lay_7 ?_
  refine Y_aload_n (pc := 10) hC d_La_lay_10 rfl 0 rfl ?_
  refine Y_aload_n (pc := 11) hC d_La_lay_11 rfl 0 rfl ?_
  refine Y_getI (pc := 12) hC sc_9 fl_La_34 rfl d_La_lay_12 ?_
  obtain ⟨V2, hV2, h⟩ := nm_some h
  refine Y_put (pc := 15) hC sc_9 fl_La_47 rfl (by decide) fp_La ft_La_5 rfl rfl hw hV2 d_La_lay_15 ?_
  refine Y_aload_n (pc := 18) hC d_La_lay_18 rfl 0 rfl ?_
  refine Y_iconst (pc := 19) hC d_La_lay_19 ki_0 ?_
  obtain ⟨r1, V3, hc_r1, h⟩ := cl_some h
  refine Y_callVv (pc := 20) hC (c_La_laySections C.l C.D C.cI C.cZ C.a hc_r1) (fun _ => hw) sc_9 cls_La ml_La_50 mv_La_laySections (by decide) (Nat.le_of_ble_eq_true rfl) rfl d_La_lay_20 ?_
  refine Y_aload_n (pc := 23) hC d_La_lay_23 rfl 0 rfl ?_
  refine Y_aload_n (pc := 24) hC d_La_lay_24 rfl 0 rfl ?_
  refine Y_iload_n (pc := 25) hC d_La_lay_25 rfl 1 rfl ?_
  refine Y_bipush (pc := 26) hC d_La_lay_26 kb_8 ?_
  refine Y_imul (pc := 28) hC d_La_lay_28 ?_
  refine Y_iconst (pc := 29) hC d_La_lay_29 ki_4 ?_
  obtain ⟨r2, V4, hc_r2, h⟩ := cl_some h
  refine Y_callV (pc := 30) hC (c_La_put C.l C.D C.cI C.cZ C.a hc_r2) (fun _ => hw) sc_9 cls_La ml_La_54 mv_La_put (by decide) (Nat.le_of_ble_eq_true rfl) rfl d_La_lay_30 ?_
  obtain ⟨V5, hV5, h⟩ := nm_some h
  refine Y_put (pc := 33) hC sc_9 fl_La_58 rfl (by decide) fp_La ft_La_7 rfl rfl hw hV5 d_La_lay_33 ?_
  refine Y_aload_n (pc := 36) hC d_La_lay_36 rfl 0 rfl ?_
  refine Y_iconst (pc := 37) hC d_La_lay_37 ki_1 ?_
  obtain ⟨r3, V6, hc_r3, h⟩ := cl_some h
  refine Y_callVv (pc := 38) hC (c_La_laySections C.l C.D C.cI C.cZ C.a hc_r3) (fun _ => hw) sc_9 cls_La ml_La_50 mv_La_laySections (by decide) (Nat.le_of_ble_eq_true rfl) rfl d_La_lay_38 ?_
  refine Y_aload_n (pc := 41) hC d_La_lay_41 rfl 0 rfl ?_
  refine Y_iconst (pc := 42) hC d_La_lay_42 ki_2 ?_
  obtain ⟨r4, V7, hc_r4, h⟩ := cl_some h
  refine Y_callVv (pc := 43) hC (c_La_laySections C.l C.D C.cI C.cZ C.a hc_r4) (fun _ => hw) sc_9 cls_La ml_La_50 mv_La_laySections (by decide) (Nat.le_of_ble_eq_true rfl) rfl d_La_lay_43 ?_
  refine Y_iconst (pc := 46) hC d_La_lay_46 ki_0 ?_
  refine Y_istore_n (pc := 47) hC (L' := [(2, .int 0), (0, .ref (C.a 9)), (1, .int p1)]) d_La_lay_47 rfl (by decide) rfl ?_
  refine Y_sub (pc := 48) [1, 0] rfl ?_
  refine ylp_La_lay_48 hC hw hE (fun V10 h => ?_) FU _ _ h
  exact Y_vret (pc := 93) hC hE d_La_lay_93 h
set_option maxHeartbeats 4000000 in
set_option maxRecDepth 100000 in
theorem ylp_fill53_5 {C : YC} {r : Int32} {V' : Sto} {x1 : Int32} {x3 : Int32} {k20 : Sto → RT} (hC : YF C "java/util/Arrays" b_fill53 4 rm_fill53) (hw : YWr C shpC) (hE : YEv C shpC V') (hk20 : ∀ (V1 : Sto), k20 V1 = some (r, V') → Y C shpC 4 20 [] [] V1) : ∀ (n : Nat) (x2 : Int32) (V : Sto), lp_fill53_5 x1 x3 k20 n x2 V = some (r, V') → Y C shpC 4 5 [(0, .ref (C.a 53)), (1, .int x1), (2, .int x2), (3, .int x3)] [] V := by
  intro n
  induction n with
  | zero =>
    intro x2 V h
    rw [lp_fill53_5] at h
    cases h
  | succ n ih =>
    intro x2 V h
    rw [lp_fill53_5] at h
    refine Y_iload_n (pc := 5) hC d_fill53_5 rfl 2 rfl ?_
    refine Y_iload_n (pc := 6) hC d_fill53_6 rfl 3 rfl ?_
    refine Y_icmp_ge (pc := 7) hC 20 d_fill53_7 rfl (fun cc_7 => ?_) (fun cc_7 => ?_)
    · have h := ifp cc_7 h
      refine Y_sub (pc := 20) [] rfl ?_
      exact hk20 _ h
    · have h := ifn cc_7 h
      refine Y_aload_n (pc := 10) hC d_fill53_10 rfl 0 rfl ?_
      refine Y_iload_n (pc := 11) hC d_fill53_11 rfl 2 rfl ?_
      refine Y_iload_n (pc := 12) hC d_fill53_12 rfl 1 rfl ?_
      obtain ⟨hi, h⟩ := ck_some h
      obtain ⟨V1, hV1, h⟩ := nm_some h
      refine Y_iast (pc := 13) hC sc_53 (by decide) rfl hi hw rfl hV1 d_fill53_13 ?_
      refine Y_iinc (pc := 14) hC (v := x2 + 1) (L' := [(2, .int (x2 + 1)), (0, .ref (C.a 53)), (1, .int x1), (3, .int x3)]) d_fill53_14 2 rfl rfl (by decide) rfl ?_
      refine Y_goto (pc := 17) hC 5 d_fill53_17 rfl ?_
      refine Y_sub (pc := 5) [1, 2, 0, 3] rfl ?_
      exact ih _ _ h
set_option maxHeartbeats 4000000 in
set_option maxRecDepth 100000 in
theorem c_fill53 (l : Launch) (D : va_G) (cI cZ : ClassId) (a : Nat → Nat) {V : Sto} {p1 : Int32} {r : Int32} {V' : Sto} (h : f_fill53 V p1 = some (r, V')) : YMv l D cI cZ a shpC y_fill53 b_fill53 4 rm_fill53 true [.ref (a 53), .int p1] V V' := by
  refine YMv_of (by decide) (Nat.le_of_ble_eq_true rfl) ?_
  intro C hl hDD hcI hcZ ha hC hw hE
  subst hl hDD hcI hcZ ha
  show Y C shpC 4 0 [(0, .ref (C.a 53)), (1, .int p1)] [] V
  have hw := hw rfl
  rw [f_fill53] at h
  refine Y_iconst (pc := 0) hC d_fill53_0 ki_0 ?_
  refine Y_istore_n (pc := 1) hC (L' := [(2, .int 0), (0, .ref (C.a 53)), (1, .int p1)]) d_fill53_1 rfl (by decide) rfl ?_
  refine Y_aload_n (pc := 2) hC d_fill53_2 rfl 1 rfl ?_
  refine Y_alen (pc := 3) hC sc_53 rfl d_fill53_3 ?_
  refine Y_istore_n (pc := 4) hC (L' := [(3, .int (nI 600)), (2, .int 0), (0, .ref (C.a 53)), (1, .int p1)]) d_fill53_4 rfl (by decide) rfl ?_
  refine Y_sub (pc := 5) [2, 3, 1, 0] rfl ?_
  refine ylp_fill53_5 hC hw hE (fun V2 h => ?_) FU _ _ h
  exact Y_vret (pc := 20) hC hE d_fill53_20 h
set_option maxHeartbeats 4000000 in
set_option maxRecDepth 100000 in
theorem ylp_Is_settle_31 {C : YC} {r : Int32} {V' : Sto} {k59 : Sto → RT} {k78 : Sto → RT} (hC : YF C R_Is b_Is_settle 3 rm_Is_settle) (hw : YWr C shpC) (hE : YEi C .boolean shpC r V') (hk59 : ∀ (V1 : Sto), k59 V1 = some (r, V') → Y C shpC 3 59 [] [] V1) (hk78 : ∀ (V1 : Sto), k78 V1 = some (r, V') → Y C shpC 3 78 [] [] V1) : ∀ (n : Nat) (x1 : Int32) (V : Sto), lp_Is_settle_31 k59 k78 n x1 V = some (r, V') → Y C shpC 3 31 [(0, .ref (C.a 10)), (1, .int x1)] [] V := by
  intro n
  induction n with
  | zero =>
    intro x1 V h
    rw [lp_Is_settle_31] at h
    cases h
  | succ n ih =>
    intro x1 V h
    rw [lp_Is_settle_31] at h
    refine Y_iload_n (pc := 31) hC d_Is_settle_31 rfl 1 rfl ?_
    refine Y_sipush (pc := 32) hC d_Is_settle_32 ks_600 ?_
    refine Y_icmp_gt (pc := 35) hC 78 d_Is_settle_35 rfl (fun cc_35 => ?_) (fun cc_35 => ?_)
    · have h := ifp cc_35 h
      refine Y_sub (pc := 78) [] rfl ?_
      exact hk78 _ h
    · have h := ifn cc_35 h
      refine Y_aload_n (pc := 38) hC d_Is_settle_38 rfl 0 rfl ?_
      obtain ⟨r3, V5, hc_r3, h⟩ := cl_some h
      refine Y_callV (pc := 39) hC (c_Is_firstStranded C.l C.D C.cI C.cZ C.a hc_r3) (fun q => nomatch q) sc_10 cls_Is ml_Is_63 mv_Is_firstStranded (by decide) (Nat.le_of_ble_eq_true rfl) rfl d_Is_settle_39 ?_
      refine Y_istore_n (pc := 42) hC (L' := [(2, .int r3), (0, .ref (C.a 10)), (1, .int x1)]) d_Is_settle_42 rfl (by decide) rfl ?_
      refine Y_iload_n (pc := 43) hC d_Is_settle_43 rfl 0 rfl ?_
      refine Y_iconst (pc := 44) hC d_Is_settle_44 ki_m1 ?_
      refine Y_icmp_ne (pc := 45) hC 51 d_Is_settle_45 rfl (fun cc_45 => ?_) (fun cc_45 => ?_)
      · have h := ifn cc_45 h
        refine Y_aload_n (pc := 51) hC d_Is_settle_51 rfl 1 rfl ?_
        refine Y_iload_n (pc := 52) hC d_Is_settle_52 rfl 0 rfl ?_
        obtain ⟨r4, V6, hc_r4, h⟩ := cl_some h
        refine Y_callV (pc := 53) hC (c_Is_send C.l C.D C.cI C.cZ C.a hc_r4) (fun _ => hw) sc_10 cls_Is ml_Is_67 mv_Is_send (by decide) (Nat.le_of_ble_eq_true rfl) rfl d_Is_settle_53 ?_
        refine Y_if_ne (pc := 56) hC 61 d_Is_settle_56 rfl (fun cc_56 => ?_) (fun cc_56 => ?_)
        · have h := ifn cc_56 h
          refine Y_aload_n (pc := 61) hC d_Is_settle_61 rfl 1 rfl ?_
          refine Y_getR (pc := 62) hC sc_10 fl_Is_40 rfl d_Is_settle_62 ?_
          refine Y_aload_n (pc := 65) hC d_Is_settle_65 rfl 1 rfl ?_
          refine Y_getI (pc := 66) hC sc_10 fl_Is_44 rfl d_Is_settle_66 ?_
          obtain ⟨r5, V7, hc_r5, h⟩ := cl_some h
          refine Y_callVv (pc := 69) hC (c_La_lay C.l C.D C.cI C.cZ C.a hc_r5) (fun _ => hw) sc_9 cls_La ml_Is_57 mv_La_lay (by decide) (Nat.le_of_ble_eq_true rfl) rfl d_Is_settle_69 ?_
          refine Y_iinc (pc := 72) hC (v := x1 + 1) (L' := [(1, .int (x1 + 1)), (2, .int r3), (0, .ref (C.a 10))]) d_Is_settle_72 2 rfl rfl (by decide) rfl ?_
          refine Y_goto (pc := 75) hC 31 d_Is_settle_75 rfl ?_
          refine Y_sub (pc := 31) [2, 0] rfl ?_
          exact ih _ _ h
        · have h := ifp cc_56 h
          refine Y_sub (pc := 59) [] rfl ?_
          exact hk59 _ h
      · have h := ifp cc_45 h
        refine Y_goto (pc := 48) hC 78 d_Is_settle_48 rfl ?_
        refine Y_sub (pc := 78) [] rfl ?_
        exact hk78 _ h
set_option maxHeartbeats 4000000 in
set_option maxRecDepth 100000 in
theorem c_Is_settle (l : Launch) (D : va_G) (cI cZ : ClassId) (a : Nat → Nat) {V : Sto} {r : Int32} {V' : Sto} (h : f_Is_settle V = some (r, V')) : YMi l D cI cZ a shpC y_Is_settle b_Is_settle 3 (some .boolean) rm_Is_settle true [.ref (a 10)] V r V' := by
  refine YMi_of (by decide) (Nat.le_of_ble_eq_true rfl) ?_
  intro C hl hDD hcI hcZ ha hC hw hE
  subst hl hDD hcI hcZ ha
  show Y C shpC 3 0 [(0, .ref (C.a 10))] [] V
  have hw := hw rfl
  rw [f_Is_settle] at h
  refine Y_aload_n (pc := 0) hC d_Is_settle_0 rfl 0 rfl ?_
  refine Y_iconst (pc := 1) hC d_Is_settle_1 ki_0 ?_
  obtain ⟨V1, hV1, h⟩ := nm_some h
  refine Y_put (pc := 2) hC sc_10 fl_Is_44 rfl (by decide) fp_Is ft_Is_5 rfl rfl hw hV1 d_Is_settle_2 ?_
  refine Y_aload_n (pc := 5) hC d_Is_settle_5 rfl 0 rfl ?_
  refine Y_iconst (pc := 6) hC d_Is_settle_6 ki_0 ?_
  obtain ⟨V2, hV2, h⟩ := nm_some h
  refine Y_put (pc := 7) hC sc_10 fl_Is_48 rfl (by decide) fp_Is ft_Is_6 rfl rfl hw hV2 d_Is_settle_7 ?_
  refine Y_aload_n (pc := 10) hC d_Is_settle_10 rfl 0 rfl ?_
  refine Y_getR (pc := 11) hC sc_10 fl_Is_21 rfl d_Is_settle_11 ?_
  refine Y_iconst (pc := 14) hC d_Is_settle_14 ki_m1 ?_
  obtain ⟨r1, V3, hc_r1, h⟩ := cl_some h
  refine Y_callSv (pc := 15) hC (c_fill53 C.l C.D C.cI C.cZ C.a hc_r1) (fun _ => hw) ml_Is_51 ms_fill53 (by decide) (Nat.le_of_ble_eq_true rfl) rfl d_Is_settle_15 ?_
  refine Y_aload_n (pc := 18) hC d_Is_settle_18 rfl 0 rfl ?_
  refine Y_getR (pc := 19) hC sc_10 fl_Is_40 rfl d_Is_settle_19 ?_
  refine Y_aload_n (pc := 22) hC d_Is_settle_22 rfl 0 rfl ?_
  refine Y_getI (pc := 23) hC sc_10 fl_Is_44 rfl d_Is_settle_23 ?_
  obtain ⟨r2, V4, hc_r2, h⟩ := cl_some h
  refine Y_callVv (pc := 26) hC (c_La_lay C.l C.D C.cI C.cZ C.a hc_r2) (fun _ => hw) sc_9 cls_La ml_Is_57 mv_La_lay (by decide) (Nat.le_of_ble_eq_true rfl) rfl d_Is_settle_26 ?_
  refine Y_iconst (pc := 29) hC d_Is_settle_29 ki_0 ?_
  refine Y_istore_n (pc := 30) hC (L' := [(1, .int 0), (0, .ref (C.a 10))]) d_Is_settle_30 rfl (by decide) rfl ?_
  refine Y_sub (pc := 31) [1, 0] rfl ?_
  refine ylp_Is_settle_31 hC hw hE (fun V8 h => ?_) (fun V9 h => ?_) FU _ _ h
  · have h := h
    refine Y_iconst (pc := 59) hC d_Is_settle_59 ki_0 ?_
    exact Y_zret (pc := 60) hC hE d_Is_settle_60 rfl h
  · have h := h
    refine Y_iconst (pc := 78) hC d_Is_settle_78 ki_1 ?_
    exact Y_zret (pc := 79) hC hE d_Is_settle_79 rfl h
set_option maxHeartbeats 4000000 in
set_option maxRecDepth 100000 in
theorem ylp_fill48_5 {C : YC} {r : Int32} {V' : Sto} {x1 : Int32} {x3 : Int32} {k20 : Sto → RT} (hC : YF C "java/util/Arrays" b_fill48 4 rm_fill48) (hw : YWr C shpC) (hE : YEv C shpC V') (hk20 : ∀ (V1 : Sto), k20 V1 = some (r, V') → Y C shpC 4 20 [] [] V1) : ∀ (n : Nat) (x2 : Int32) (V : Sto), lp_fill48_5 x1 x3 k20 n x2 V = some (r, V') → Y C shpC 4 5 [(0, .ref (C.a 48)), (1, .int x1), (2, .int x2), (3, .int x3)] [] V := by
  intro n
  induction n with
  | zero =>
    intro x2 V h
    rw [lp_fill48_5] at h
    cases h
  | succ n ih =>
    intro x2 V h
    rw [lp_fill48_5] at h
    refine Y_iload_n (pc := 5) hC d_fill48_5 rfl 2 rfl ?_
    refine Y_iload_n (pc := 6) hC d_fill48_6 rfl 3 rfl ?_
    refine Y_icmp_ge (pc := 7) hC 20 d_fill48_7 rfl (fun cc_7 => ?_) (fun cc_7 => ?_)
    · have h := ifp cc_7 h
      refine Y_sub (pc := 20) [] rfl ?_
      exact hk20 _ h
    · have h := ifn cc_7 h
      refine Y_aload_n (pc := 10) hC d_fill48_10 rfl 0 rfl ?_
      refine Y_iload_n (pc := 11) hC d_fill48_11 rfl 2 rfl ?_
      refine Y_iload_n (pc := 12) hC d_fill48_12 rfl 1 rfl ?_
      obtain ⟨hi, h⟩ := ck_some h
      obtain ⟨V1, hV1, h⟩ := nm_some h
      refine Y_iast (pc := 13) hC sc_48 (by decide) rfl hi hw rfl hV1 d_fill48_13 ?_
      refine Y_iinc (pc := 14) hC (v := x2 + 1) (L' := [(2, .int (x2 + 1)), (0, .ref (C.a 48)), (1, .int x1), (3, .int x3)]) d_fill48_14 2 rfl rfl (by decide) rfl ?_
      refine Y_goto (pc := 17) hC 5 d_fill48_17 rfl ?_
      refine Y_sub (pc := 5) [1, 2, 0, 3] rfl ?_
      exact ih _ _ h
set_option maxHeartbeats 4000000 in
set_option maxRecDepth 100000 in
theorem c_fill48 (l : Launch) (D : va_G) (cI cZ : ClassId) (a : Nat → Nat) {V : Sto} {p1 : Int32} {r : Int32} {V' : Sto} (h : f_fill48 V p1 = some (r, V')) : YMv l D cI cZ a shpC y_fill48 b_fill48 4 rm_fill48 true [.ref (a 48), .int p1] V V' := by
  refine YMv_of (by decide) (Nat.le_of_ble_eq_true rfl) ?_
  intro C hl hDD hcI hcZ ha hC hw hE
  subst hl hDD hcI hcZ ha
  show Y C shpC 4 0 [(0, .ref (C.a 48)), (1, .int p1)] [] V
  have hw := hw rfl
  rw [f_fill48] at h
  refine Y_iconst (pc := 0) hC d_fill48_0 ki_0 ?_
  refine Y_istore_n (pc := 1) hC (L' := [(2, .int 0), (0, .ref (C.a 48)), (1, .int p1)]) d_fill48_1 rfl (by decide) rfl ?_
  refine Y_aload_n (pc := 2) hC d_fill48_2 rfl 1 rfl ?_
  refine Y_alen (pc := 3) hC sc_48 rfl d_fill48_3 ?_
  refine Y_istore_n (pc := 4) hC (L' := [(3, .int (nI 96)), (2, .int 0), (0, .ref (C.a 48)), (1, .int p1)]) d_fill48_4 rfl (by decide) rfl ?_
  refine Y_sub (pc := 5) [2, 3, 1, 0] rfl ?_
  refine ylp_fill48_5 hC hw hE (fun V2 h => ?_) FU _ _ h
  exact Y_vret (pc := 20) hC hE d_fill48_20 h
set_option maxHeartbeats 4000000 in
set_option maxRecDepth 100000 in
theorem ylp_fill49_5 {C : YC} {r : Int32} {V' : Sto} {x1 : Int32} {x3 : Int32} {k20 : Sto → RT} (hC : YF C "java/util/Arrays" b_fill49 4 rm_fill49) (hw : YWr C shpC) (hE : YEv C shpC V') (hk20 : ∀ (V1 : Sto), k20 V1 = some (r, V') → Y C shpC 4 20 [] [] V1) : ∀ (n : Nat) (x2 : Int32) (V : Sto), lp_fill49_5 x1 x3 k20 n x2 V = some (r, V') → Y C shpC 4 5 [(0, .ref (C.a 49)), (1, .int x1), (2, .int x2), (3, .int x3)] [] V := by
  intro n
  induction n with
  | zero =>
    intro x2 V h
    rw [lp_fill49_5] at h
    cases h
  | succ n ih =>
    intro x2 V h
    rw [lp_fill49_5] at h
    refine Y_iload_n (pc := 5) hC d_fill49_5 rfl 2 rfl ?_
    refine Y_iload_n (pc := 6) hC d_fill49_6 rfl 3 rfl ?_
    refine Y_icmp_ge (pc := 7) hC 20 d_fill49_7 rfl (fun cc_7 => ?_) (fun cc_7 => ?_)
    · have h := ifp cc_7 h
      refine Y_sub (pc := 20) [] rfl ?_
      exact hk20 _ h
    · have h := ifn cc_7 h
      refine Y_aload_n (pc := 10) hC d_fill49_10 rfl 0 rfl ?_
      refine Y_iload_n (pc := 11) hC d_fill49_11 rfl 2 rfl ?_
      refine Y_iload_n (pc := 12) hC d_fill49_12 rfl 1 rfl ?_
      obtain ⟨hi, h⟩ := ck_some h
      obtain ⟨V1, hV1, h⟩ := nm_some h
      refine Y_iast (pc := 13) hC sc_49 (by decide) rfl hi hw rfl hV1 d_fill49_13 ?_
      refine Y_iinc (pc := 14) hC (v := x2 + 1) (L' := [(2, .int (x2 + 1)), (0, .ref (C.a 49)), (1, .int x1), (3, .int x3)]) d_fill49_14 2 rfl rfl (by decide) rfl ?_
      refine Y_goto (pc := 17) hC 5 d_fill49_17 rfl ?_
      refine Y_sub (pc := 5) [1, 2, 0, 3] rfl ?_
      exact ih _ _ h
set_option maxHeartbeats 4000000 in
set_option maxRecDepth 100000 in
theorem c_fill49 (l : Launch) (D : va_G) (cI cZ : ClassId) (a : Nat → Nat) {V : Sto} {p1 : Int32} {r : Int32} {V' : Sto} (h : f_fill49 V p1 = some (r, V')) : YMv l D cI cZ a shpC y_fill49 b_fill49 4 rm_fill49 true [.ref (a 49), .int p1] V V' := by
  refine YMv_of (by decide) (Nat.le_of_ble_eq_true rfl) ?_
  intro C hl hDD hcI hcZ ha hC hw hE
  subst hl hDD hcI hcZ ha
  show Y C shpC 4 0 [(0, .ref (C.a 49)), (1, .int p1)] [] V
  have hw := hw rfl
  rw [f_fill49] at h
  refine Y_iconst (pc := 0) hC d_fill49_0 ki_0 ?_
  refine Y_istore_n (pc := 1) hC (L' := [(2, .int 0), (0, .ref (C.a 49)), (1, .int p1)]) d_fill49_1 rfl (by decide) rfl ?_
  refine Y_aload_n (pc := 2) hC d_fill49_2 rfl 1 rfl ?_
  refine Y_alen (pc := 3) hC sc_49 rfl d_fill49_3 ?_
  refine Y_istore_n (pc := 4) hC (L' := [(3, .int (nI 200)), (2, .int 0), (0, .ref (C.a 49)), (1, .int p1)]) d_fill49_4 rfl (by decide) rfl ?_
  refine Y_sub (pc := 5) [2, 3, 1, 0] rfl ?_
  refine ylp_fill49_5 hC hw hE (fun V2 h => ?_) FU _ _ h
  exact Y_vret (pc := 20) hC hE d_fill49_20 h
set_option maxHeartbeats 4000000 in
set_option maxRecDepth 100000 in
theorem c_La_begin (l : Launch) (D : va_G) (cI cZ : ClassId) (a : Nat → Nat) {V : Sto} {p1 : Int32} {r : Int32} {V' : Sto} (h : f_La_begin V p1 = some (r, V')) : YMv l D cI cZ a shpC y_La_begin b_La_begin 2 rm_La_begin true [.ref (a 9), .int p1] V V' := by
  refine YMv_of (by decide) (Nat.le_of_ble_eq_true rfl) ?_
  intro C hl hDD hcI hcZ ha hC hw hE
  subst hl hDD hcI hcZ ha
  show Y C shpC 2 0 [(0, .ref (C.a 9)), (1, .int p1)] [] V
  have hw := hw rfl
  rw [f_La_begin] at h
  refine Y_aload_n (pc := 0) hC d_La_begin_0 rfl 0 rfl ?_
  refine Y_iload_n (pc := 1) hC d_La_begin_1 rfl 1 rfl ?_
  obtain ⟨V1, hV1, h⟩ := nm_some h
  refine Y_put (pc := 2) hC sc_9 fl_La_34 rfl (by decide) fp_La ft_La_4 rfl rfl hw hV1 d_La_begin_2 ?_
  refine Y_aload_n (pc := 5) hC d_La_begin_5 rfl 0 rfl ?_
  refine Y_iconst (pc := 6) hC d_La_begin_6 ki_0 ?_
  obtain ⟨V2, hV2, h⟩ := nm_some h
  refine Y_put (pc := 7) hC sc_9 fl_La_38 rfl (by decide) fp_La ft_La_6 rfl rfl hw hV2 d_La_begin_7 ?_
  refine Y_aload_n (pc := 10) hC d_La_begin_10 rfl 0 rfl ?_
  refine Y_getR (pc := 11) hC sc_9 fl_La_9 rfl d_La_begin_11 ?_
  refine Y_iconst (pc := 14) hC d_La_begin_14 ki_m1 ?_
  obtain ⟨r1, V3, hc_r1, h⟩ := cl_some h
  refine Y_callSv (pc := 15) hC (c_fill48 C.l C.D C.cI C.cZ C.a hc_r1) (fun _ => hw) ml_La_41 ms_fill48 (by decide) (Nat.le_of_ble_eq_true rfl) rfl d_La_begin_15 ?_
  refine Y_aload_n (pc := 18) hC d_La_begin_18 rfl 0 rfl ?_
  refine Y_getR (pc := 19) hC sc_9 fl_La_15 rfl d_La_begin_19 ?_
  refine Y_iconst (pc := 22) hC d_La_begin_22 ki_m1 ?_
  obtain ⟨r2, V4, hc_r2, h⟩ := cl_some h
  refine Y_callSv (pc := 23) hC (c_fill49 C.l C.D C.cI C.cZ C.a hc_r2) (fun _ => hw) ml_La_41 ms_fill49 (by decide) (Nat.le_of_ble_eq_true rfl) rfl d_La_begin_23 ?_
  exact Y_vret (pc := 26) hC hE d_La_begin_26 h
set_option maxHeartbeats 4000000 in
set_option maxRecDepth 100000 in
theorem c_Is_goalOf (l : Launch) (D : va_G) (cI cZ : ClassId) (a : Nat → Nat) {V : Sto} {p1 : Int32} {p2 : Int32} {r : Int32} {V' : Sto} (h : f_Is_goalOf V p1 p2 = some (r, V')) : YMi l D cI cZ a shpC y_Is_goalOf b_Is_goalOf 4 (some .int) rm_Is_goalOf false [.ref (a 10), .int p1, .int p2] V r V' := by
  refine YMi_of (by decide) (Nat.le_of_ble_eq_true rfl) ?_
  intro C hl hDD hcI hcZ ha hC hw hE
  subst hl hDD hcI hcZ ha
  show Y C shpC 4 0 [(0, .ref (C.a 10)), (1, .int p1), (2, .int p2)] [] V
  rw [f_Is_goalOf] at h
  refine Y_aload_n (pc := 0) hC d_Is_goalOf_0 rfl 0 rfl ?_
  refine Y_getR (pc := 1) hC sc_10 fl_Is_21 rfl d_Is_goalOf_1 ?_
  refine Y_iload_n (pc := 4) hC d_Is_goalOf_4 rfl 1 rfl ?_
  obtain ⟨hi, h⟩ := ck_some h
  refine Y_iald (pc := 5) hC sc_53 rfl hi d_Is_goalOf_5 ?_
  refine Y_istore_n (pc := 6) hC (L' := [(3, .int (V 53 p1.toNatClampNeg)), (0, .ref (C.a 10)), (1, .int p1), (2, .int p2)]) d_Is_goalOf_6 rfl (by decide) rfl ?_
  refine Y_iload_n (pc := 7) hC d_Is_goalOf_7 rfl 0 rfl ?_
  refine Y_iconst (pc := 8) hC d_Is_goalOf_8 ki_m1 ?_
  refine Y_icmp_ne (pc := 9) hC 16 d_Is_goalOf_9 rfl (fun cc_9 => ?_) (fun cc_9 => ?_)
  · have h := ifn cc_9 h
    refine Y_aload_n (pc := 16) hC d_Is_goalOf_16 rfl 1 rfl ?_
    refine Y_getR (pc := 17) hC sc_10 fl_Is_40 rfl d_Is_goalOf_17 ?_
    refine Y_getI (pc := 20) hC sc_9 fl_Is_134 rfl d_Is_goalOf_20 ?_
    refine Y_iload_n (pc := 23) hC d_Is_goalOf_23 rfl 0 rfl ?_
    refine Y_bipush (pc := 24) hC d_Is_goalOf_24 kb_8 ?_
    refine Y_imul (pc := 26) hC d_Is_goalOf_26 ?_
    refine Y_iadd (pc := 27) hC d_Is_goalOf_27 ?_
    exact Y_iret (pc := 28) hC hE d_Is_goalOf_28 h
  · have h := ifp cc_9 h
    refine Y_iload_n (pc := 12) hC d_Is_goalOf_12 rfl 3 rfl ?_
    refine Y_goto (pc := 13) hC 28 d_Is_goalOf_13 rfl ?_
    exact Y_iret (pc := 28) hC hE d_Is_goalOf_28 h
set_option maxHeartbeats 4000000 in
set_option maxRecDepth 100000 in
theorem c_Me_isMended (l : Launch) (D : va_G) (cI cZ : ClassId) (a : Nat → Nat) {V : Sto} {p1 : Int32} {p2 : Int32} {r : Int32} {V' : Sto} (h : f_Me_isMended V p1 p2 = some (r, V')) : YMi l D cI cZ a shpC y_Me_isMended b_Me_isMended 3 (some .boolean) rm_Me_isMended false [.ref (a 11), .int p1, .int p2] V r V' := by
  refine YMi_of (by decide) (Nat.le_of_ble_eq_true rfl) ?_
  intro C hl hDD hcI hcZ ha hC hw hE
  subst hl hDD hcI hcZ ha
  show Y C shpC 3 0 [(0, .ref (C.a 11)), (1, .int p1), (2, .int p2)] [] V
  rw [f_Me_isMended] at h
  refine Y_aload_n (pc := 0) hC d_Me_isMended_0 rfl 0 rfl ?_
  refine Y_getR (pc := 1) hC sc_11 fl_Me_15 rfl d_Me_isMended_1 ?_
  refine Y_getR (pc := 4) hC sc_4 fl_Me_54 rfl d_Me_isMended_4 ?_
  refine Y_iload_n (pc := 7) hC d_Me_isMended_7 rfl 1 rfl ?_
  obtain ⟨hi, h⟩ := ck_some h
  refine Y_iald (pc := 8) hC sc_29 rfl hi d_Me_isMended_8 ?_
  refine Y_iload_n (pc := 9) hC d_Me_isMended_9 rfl 2 rfl ?_
  refine Y_icmp_ne (pc := 10) hC 36 d_Me_isMended_10 rfl (fun cc_10 => ?_) (fun cc_10 => ?_)
  · have h := ifn cc_10 h
    refine Y_iconst (pc := 36) hC d_Me_isMended_36 ki_0 ?_
    exact Y_zret (pc := 37) hC hE d_Me_isMended_37 rfl h
  · have h := ifp cc_10 h
    refine Y_aload_n (pc := 13) hC d_Me_isMended_13 rfl 0 rfl ?_
    refine Y_getR (pc := 14) hC sc_11 fl_Me_19 rfl d_Me_isMended_14 ?_
    refine Y_aload_n (pc := 17) hC d_Me_isMended_17 rfl 0 rfl ?_
    refine Y_getR (pc := 18) hC sc_11 fl_Me_15 rfl d_Me_isMended_18 ?_
    refine Y_getR (pc := 21) hC sc_4 fl_Me_57 rfl d_Me_isMended_21 ?_
    refine Y_iload_n (pc := 24) hC d_Me_isMended_24 rfl 1 rfl ?_
    obtain ⟨hi, h⟩ := ck_some h
    refine Y_iald (pc := 25) hC sc_27 rfl hi d_Me_isMended_25 ?_
    obtain ⟨r1, V1, hc_r1, h⟩ := cl_some h
    refine Y_callV (pc := 26) hC (c_La_isStanding C.l C.D C.cI C.cZ C.a hc_r1) (fun q => nomatch q) sc_9 cls_La ml_Me_60 mv_La_isStanding (by decide) (Nat.le_of_ble_eq_true rfl) rfl d_Me_isMended_26 ?_
    refine Y_if_eq (pc := 29) hC 36 d_Me_isMended_29 rfl (fun cc_29 => ?_) (fun cc_29 => ?_)
    · have h := ifp cc_29 h
      refine Y_iconst (pc := 36) hC d_Me_isMended_36 ki_0 ?_
      exact Y_zret (pc := 37) hC hE d_Me_isMended_37 rfl h
    · have h := ifn cc_29 h
      refine Y_iconst (pc := 32) hC d_Me_isMended_32 ki_1 ?_
      refine Y_goto (pc := 33) hC 37 d_Me_isMended_33 rfl ?_
      exact Y_zret (pc := 37) hC hE d_Me_isMended_37 rfl h
set_option maxHeartbeats 4000000 in
set_option maxRecDepth 100000 in
theorem ylp_Me_firstFar_2 {C : YC} {r : Int32} {V' : Sto} {k59 : Int32 → Sto → RT} {k67 : Sto → RT} (hC : YF C R_Me b_Me_firstFar 3 rm_Me_firstFar) (hE : YEi C .int shpC r V') (hk59 : ∀ (y2 : Int32) (V1 : Sto), k59 y2 V1 = some (r, V') → Y C shpC 3 59 [(2, .int y2)] [] V1) (hk67 : ∀ (V1 : Sto), k67 V1 = some (r, V') → Y C shpC 3 67 [] [] V1) : ∀ (n : Nat) (x1 : Int32) (V : Sto), lp_Me_firstFar_2 k59 k67 n x1 V = some (r, V') → Y C shpC 3 2 [(0, .ref (C.a 11)), (1, .int x1)] [] V := by
  intro n
  induction n with
  | zero =>
    intro x1 V h
    rw [lp_Me_firstFar_2] at h
    cases h
  | succ n ih =>
    intro x1 V h
    rw [lp_Me_firstFar_2] at h
    refine Y_iload_n (pc := 2) hC d_Me_firstFar_2 rfl 1 rfl ?_
    refine Y_aload_n (pc := 3) hC d_Me_firstFar_3 rfl 0 rfl ?_
    refine Y_getR (pc := 4) hC sc_11 fl_Me_15 rfl d_Me_firstFar_4 ?_
    refine Y_getI (pc := 7) hC sc_4 fl_Me_27 rfl d_Me_firstFar_7 ?_
    refine Y_icmp_ge (pc := 10) hC 67 d_Me_firstFar_10 rfl (fun cc_10 => ?_) (fun cc_10 => ?_)
    · have h := ifp cc_10 h
      refine Y_sub (pc := 67) [] rfl ?_
      exact hk67 _ h
    · have h := ifn cc_10 h
      refine Y_aload_n (pc := 13) hC d_Me_firstFar_13 rfl 0 rfl ?_
      refine Y_getR (pc := 14) hC sc_11 fl_Me_15 rfl d_Me_firstFar_14 ?_
      refine Y_getR (pc := 17) hC sc_4 fl_Me_33 rfl d_Me_firstFar_17 ?_
      refine Y_iload_n (pc := 20) hC d_Me_firstFar_20 rfl 1 rfl ?_
      obtain ⟨hi, h⟩ := ck_some h
      refine Y_iald (pc := 21) hC sc_32 rfl hi d_Me_firstFar_21 ?_
      refine Y_istore_n (pc := 22) hC (L' := [(2, .int (V 32 x1.toNatClampNeg)), (0, .ref (C.a 11)), (1, .int x1)]) d_Me_firstFar_22 rfl (by decide) rfl ?_
      refine Y_aload_n (pc := 23) hC d_Me_firstFar_23 rfl 1 rfl ?_
      refine Y_iload_n (pc := 24) hC d_Me_firstFar_24 rfl 0 rfl ?_
      refine Y_iconst (pc := 25) hC d_Me_firstFar_25 ki_4 ?_
      obtain ⟨r1, V1, hc_r1, h⟩ := cl_some h
      refine Y_callV (pc := 26) hC (c_Me_isMended C.l C.D C.cI C.cZ C.a hc_r1) (fun q => nomatch q) sc_11 cls_Me ml_Me_37 mv_Me_isMended (by decide) (Nat.le_of_ble_eq_true rfl) rfl d_Me_firstFar_26 ?_
      refine Y_if_eq (pc := 29) hC 61 d_Me_firstFar_29 rfl (fun cc_29 => ?_) (fun cc_29 => ?_)
      · have h := ifp cc_29 h
        refine Y_iinc (pc := 61) hC (v := x1 + 1) (L' := [(1, .int (x1 + 1)), (2, .int (V 32 x1.toNatClampNeg)), (0, .ref (C.a 11))]) d_Me_firstFar_61 2 rfl rfl (by decide) rfl ?_
        refine Y_goto (pc := 64) hC 2 d_Me_firstFar_64 rfl ?_
        refine Y_sub (pc := 2) [2, 0] rfl ?_
        exact ih _ _ h
      · have h := ifn cc_29 h
        refine Y_aload_n (pc := 32) hC d_Me_firstFar_32 rfl 1 rfl ?_
        refine Y_getR (pc := 33) hC sc_11 fl_Me_23 rfl d_Me_firstFar_33 ?_
        refine Y_iload_n (pc := 36) hC d_Me_firstFar_36 rfl 0 rfl ?_
        refine Y_aload_n (pc := 37) hC d_Me_firstFar_37 rfl 1 rfl ?_
        refine Y_getR (pc := 38) hC sc_11 fl_Me_23 rfl d_Me_firstFar_38 ?_
        refine Y_iload_n (pc := 41) hC d_Me_firstFar_41 rfl 0 rfl ?_
        refine Y_aload_n (pc := 42) hC d_Me_firstFar_42 rfl 1 rfl ?_
        refine Y_getR (pc := 43) hC sc_11 fl_Me_23 rfl d_Me_firstFar_43 ?_
        refine Y_iload_n (pc := 46) hC d_Me_firstFar_46 rfl 0 rfl ?_
        obtain ⟨r2, V2, hc_r2, h⟩ := cl_some h
        refine Y_callV (pc := 47) hC (c_Is_targetOf C.l C.D C.cI C.cZ C.a hc_r2) (fun q => nomatch q) sc_10 cls_Is ml_Me_41 mv_Is_targetOf (by decide) (Nat.le_of_ble_eq_true rfl) rfl d_Me_firstFar_47 ?_
        obtain ⟨r3, V3, hc_r3, h⟩ := cl_some h
        refine Y_callV (pc := 50) hC (c_Is_goalOf C.l C.D C.cI C.cZ C.a hc_r3) (fun q => nomatch q) sc_10 cls_Is ml_Me_47 mv_Is_goalOf (by decide) (Nat.le_of_ble_eq_true rfl) rfl d_Me_firstFar_50 ?_
        obtain ⟨r4, V4, hc_r4, h⟩ := cl_some h
        refine Y_callV (pc := 53) hC (c_Is_isNear C.l C.D C.cI C.cZ C.a hc_r4) (fun q => nomatch q) sc_10 cls_Is ml_Me_51 mv_Is_isNear (by decide) (Nat.le_of_ble_eq_true rfl) rfl d_Me_firstFar_53 ?_
        refine Y_if_ne (pc := 56) hC 61 d_Me_firstFar_56 rfl (fun cc_56 => ?_) (fun cc_56 => ?_)
        · have h := ifn cc_56 h
          refine Y_iinc (pc := 61) hC (v := x1 + 1) (L' := [(1, .int (x1 + 1)), (2, .int (V 32 x1.toNatClampNeg)), (0, .ref (C.a 11))]) d_Me_firstFar_61 2 rfl rfl (by decide) rfl ?_
          refine Y_goto (pc := 64) hC 2 d_Me_firstFar_64 rfl ?_
          refine Y_sub (pc := 2) [2, 0] rfl ?_
          exact ih _ _ h
        · have h := ifp cc_56 h
          refine Y_sub (pc := 59) [0] rfl ?_
          exact hk59 _ _ h
set_option maxHeartbeats 4000000 in
set_option maxRecDepth 100000 in
theorem c_Me_firstFar (l : Launch) (D : va_G) (cI cZ : ClassId) (a : Nat → Nat) {V : Sto} {r : Int32} {V' : Sto} (h : f_Me_firstFar V = some (r, V')) : YMi l D cI cZ a shpC y_Me_firstFar b_Me_firstFar 3 (some .int) rm_Me_firstFar false [.ref (a 11)] V r V' := by
  refine YMi_of (by decide) (Nat.le_of_ble_eq_true rfl) ?_
  intro C hl hDD hcI hcZ ha hC hw hE
  subst hl hDD hcI hcZ ha
  show Y C shpC 3 0 [(0, .ref (C.a 11))] [] V
  rw [f_Me_firstFar] at h
  refine Y_iconst (pc := 0) hC d_Me_firstFar_0 ki_0 ?_
  refine Y_istore_n (pc := 1) hC (L' := [(1, .int 0), (0, .ref (C.a 11))]) d_Me_firstFar_1 rfl (by decide) rfl ?_
  refine Y_sub (pc := 2) [1, 0] rfl ?_
  refine ylp_Me_firstFar_2 hC hE (fun y1 V5 h => ?_) (fun V6 h => ?_) FU _ _ h
  · have h := h
    refine Y_iload_n (pc := 59) hC d_Me_firstFar_59 rfl 0 rfl ?_
    exact Y_iret (pc := 60) hC hE d_Me_firstFar_60 h
  · have h := h
    refine Y_iconst (pc := 67) hC d_Me_firstFar_67 ki_m1 ?_
    exact Y_iret (pc := 68) hC hE d_Me_firstFar_68 h
