set_option maxHeartbeats 4000000 in
set_option maxRecDepth 100000 in
theorem c_La_isLaid (l : Launch) (D : va_G) (cI cZ : ClassId) (a : Nat → Nat) {V : Sto} {p1 : Int32} {r : Int32} {V' : Sto} (h : f_La_isLaid V p1 = some (r, V')) : YMi l D cI cZ a shpC y_La_isLaid b_La_isLaid 2 (some .boolean) rm_La_isLaid false [.ref (a 9), .int p1] V r V' := by
  refine YMi_of (by decide) (Nat.le_of_ble_eq_true rfl) ?_
  intro C hl hDD hcI hcZ ha hC hw hE
  subst hl hDD hcI hcZ ha
  show Y C shpC 2 0 [(0, .ref (C.a 9)), (1, .int p1)] [] V
  rw [f_La_isLaid] at h
  refine Y_aload_n (pc := 0) hC d_La_isLaid_0 rfl 0 rfl ?_
  refine Y_getR (pc := 1) hC sc_9 fl_La_22 rfl d_La_isLaid_1 ?_
  refine Y_getR (pc := 4) hC sc_6 fl_La_98 rfl d_La_isLaid_4 ?_
  refine Y_iload_n (pc := 7) hC d_La_isLaid_7 rfl 1 rfl ?_
  obtain ⟨hi, h⟩ := ck_some h
  refine Y_iald (pc := 8) hC sc_40 rfl hi d_La_isLaid_8 ?_
  by_cases cs_9_0 : (V 40 p1.toNatClampNeg) = 1
  · have h := ifp cs_9_0 h
    refine Y_lookup (pc := 9) hC (off := 27) 36 d_La_isLaid_9 (by decide) (by rw [cs_9_0]; try rfl) rfl ?_
    refine Y_aload_n (pc := 36) hC d_La_isLaid_36 rfl 0 rfl ?_
    refine Y_getR (pc := 37) hC sc_9 fl_La_26 rfl d_La_isLaid_37 ?_
    refine Y_getR (pc := 40) hC sc_7 fl_La_77 rfl d_La_isLaid_40 ?_
    refine Y_aload_n (pc := 43) hC d_La_isLaid_43 rfl 0 rfl ?_
    refine Y_getR (pc := 44) hC sc_9 fl_La_22 rfl d_La_isLaid_44 ?_
    refine Y_getR (pc := 47) hC sc_6 fl_La_101 rfl d_La_isLaid_47 ?_
    refine Y_iload_n (pc := 50) hC d_La_isLaid_50 rfl 1 rfl ?_
    obtain ⟨hi, h⟩ := ck_some h
    refine Y_iald (pc := 51) hC sc_41 rfl hi d_La_isLaid_51 ?_
    obtain ⟨hi, h⟩ := ck_some h
    refine Y_zald (pc := 52) hC sc_43 rfl hi d_La_isLaid_52 ?_
    obtain ⟨hbb, h⟩ := ck_some h
    exact Y_zret (pc := 53) hC hE d_La_isLaid_53 hbb h
  · have h := ifn cs_9_0 h
    by_cases cs_9_1 : (V 40 p1.toNatClampNeg) = 3
    · have h := ifp cs_9_1 h
      refine Y_lookup (pc := 9) hC (off := 45) 54 d_La_isLaid_9 (by decide) (by rw [cs_9_1]; try rfl) rfl ?_
      refine Y_aload_n (pc := 54) hC d_La_isLaid_54 rfl 0 rfl ?_
      refine Y_getR (pc := 55) hC sc_9 fl_La_26 rfl d_La_isLaid_55 ?_
      refine Y_getR (pc := 58) hC sc_7 fl_La_61 rfl d_La_isLaid_58 ?_
      refine Y_aload_n (pc := 61) hC d_La_isLaid_61 rfl 0 rfl ?_
      refine Y_getR (pc := 62) hC sc_9 fl_La_22 rfl d_La_isLaid_62 ?_
      refine Y_getR (pc := 65) hC sc_6 fl_La_101 rfl d_La_isLaid_65 ?_
      refine Y_iload_n (pc := 68) hC d_La_isLaid_68 rfl 1 rfl ?_
      obtain ⟨hi, h⟩ := ck_some h
      refine Y_iald (pc := 69) hC sc_41 rfl hi d_La_isLaid_69 ?_
      obtain ⟨hi, h⟩ := ck_some h
      refine Y_zald (pc := 70) hC sc_44 rfl hi d_La_isLaid_70 ?_
      obtain ⟨hbb, h⟩ := ck_some h
      exact Y_zret (pc := 71) hC hE d_La_isLaid_71 hbb h
    · have h := ifn cs_9_1 h
      have cn_0 := i32_ne cs_9_0
      have cn_1 := i32_ne cs_9_1
      simp only [i32lit_1, i32lit_3] at cn_0 cn_1
      refine Y_lookup (pc := 9) hC (off := 63) 72 d_La_isLaid_9 (by decide) (by simp [Op.lookupswitch.offset, Ne.symm cn_0, cn_0, Ne.symm cn_1, cn_1]) rfl ?_
      refine Y_aload_n (pc := 72) hC d_La_isLaid_72 rfl 0 rfl ?_
      refine Y_getR (pc := 73) hC sc_9 fl_La_22 rfl d_La_isLaid_73 ?_
      refine Y_getR (pc := 76) hC sc_6 fl_La_98 rfl d_La_isLaid_76 ?_
      refine Y_iload_n (pc := 79) hC d_La_isLaid_79 rfl 1 rfl ?_
      obtain ⟨hi, h⟩ := ck_some h
      refine Y_iald (pc := 80) hC sc_40 rfl hi d_La_isLaid_80 ?_
      refine Y_iconst (pc := 81) hC d_La_isLaid_81 ki_2 ?_
      refine Y_icmp_ne (pc := 82) hC 89 d_La_isLaid_82 rfl (fun cc_82 => ?_) (fun cc_82 => ?_)
      · have h := ifn cc_82 h
        refine Y_iconst (pc := 89) hC d_La_isLaid_89 ki_0 ?_
        exact Y_zret (pc := 90) hC hE d_La_isLaid_90 rfl h
      · have h := ifp cc_82 h
        refine Y_iconst (pc := 85) hC d_La_isLaid_85 ki_1 ?_
        refine Y_goto (pc := 86) hC 90 d_La_isLaid_86 rfl ?_
        exact Y_zret (pc := 90) hC hE d_La_isLaid_90 rfl h
set_option maxHeartbeats 4000000 in
set_option maxRecDepth 100000 in
theorem ylp_La_sectionAt_2 {C : YC} {r : Int32} {V' : Sto} {x1 : Int32} {k51 : Int32 → Sto → RT} {k59 : Sto → RT} (hC : YF C R_La b_La_sectionAt 3 rm_La_sectionAt) (hE : YEi C .int shpC r V') (hk51 : ∀ (y2 : Int32) (V1 : Sto), k51 y2 V1 = some (r, V') → Y C shpC 3 51 [(2, .int y2)] [] V1) (hk59 : ∀ (V1 : Sto), k59 V1 = some (r, V') → Y C shpC 3 59 [] [] V1) : ∀ (n : Nat) (x2 : Int32) (V : Sto), lp_La_sectionAt_2 x1 k51 k59 n x2 V = some (r, V') → Y C shpC 3 2 [(0, .ref (C.a 9)), (1, .int x1), (2, .int x2)] [] V := by
  intro n
  induction n with
  | zero =>
    intro x2 V h
    rw [lp_La_sectionAt_2] at h
    cases h
  | succ n ih =>
    intro x2 V h
    rw [lp_La_sectionAt_2] at h
    refine Y_iload_n (pc := 2) hC d_La_sectionAt_2 rfl 2 rfl ?_
    refine Y_aload_n (pc := 3) hC d_La_sectionAt_3 rfl 0 rfl ?_
    refine Y_getR (pc := 4) hC sc_9 fl_La_18 rfl d_La_sectionAt_4 ?_
    refine Y_getI (pc := 7) hC sc_2 fl_La_72 rfl d_La_sectionAt_7 ?_
    refine Y_icmp_ge (pc := 10) hC 59 d_La_sectionAt_10 rfl (fun cc_10 => ?_) (fun cc_10 => ?_)
    · have h := ifp cc_10 h
      refine Y_sub (pc := 59) [] rfl ?_
      exact hk59 _ h
    · have h := ifn cc_10 h
      refine Y_aload_n (pc := 13) hC d_La_sectionAt_13 rfl 0 rfl ?_
      refine Y_iload_n (pc := 14) hC d_La_sectionAt_14 rfl 2 rfl ?_
      obtain ⟨r1, V1, hc_r1, h⟩ := cl_some h
      refine Y_callV (pc := 15) hC (c_La_isStanding C.l C.D C.cI C.cZ C.a hc_r1) (fun q => nomatch q) sc_9 cls_La ml_La_110 mv_La_isStanding (by decide) (Nat.le_of_ble_eq_true rfl) rfl d_La_sectionAt_15 ?_
      refine Y_if_eq (pc := 18) hC 53 d_La_sectionAt_18 rfl (fun cc_18 => ?_) (fun cc_18 => ?_)
      · have h := ifp cc_18 h
        refine Y_iinc (pc := 53) hC (v := x2 + 1) (L' := [(2, .int (x2 + 1)), (0, .ref (C.a 9)), (1, .int x1)]) d_La_sectionAt_53 2 rfl rfl (by decide) rfl ?_
        refine Y_goto (pc := 56) hC 2 d_La_sectionAt_56 rfl ?_
        refine Y_sub (pc := 2) [1, 2, 0] rfl ?_
        exact ih _ _ h
      · have h := ifn cc_18 h
        refine Y_iload_n (pc := 21) hC d_La_sectionAt_21 rfl 1 rfl ?_
        refine Y_aload_n (pc := 22) hC d_La_sectionAt_22 rfl 0 rfl ?_
        refine Y_getR (pc := 23) hC sc_9 fl_La_9 rfl d_La_sectionAt_23 ?_
        refine Y_iload_n (pc := 26) hC d_La_sectionAt_26 rfl 2 rfl ?_
        obtain ⟨hi, h⟩ := ck_some h
        refine Y_iald (pc := 27) hC sc_48 rfl hi d_La_sectionAt_27 ?_
        refine Y_icmp_lt (pc := 28) hC 53 d_La_sectionAt_28 rfl (fun cc_28 => ?_) (fun cc_28 => ?_)
        · have h := ifp cc_28 h
          refine Y_iinc (pc := 53) hC (v := x2 + 1) (L' := [(2, .int (x2 + 1)), (0, .ref (C.a 9)), (1, .int x1)]) d_La_sectionAt_53 2 rfl rfl (by decide) rfl ?_
          refine Y_goto (pc := 56) hC 2 d_La_sectionAt_56 rfl ?_
          refine Y_sub (pc := 2) [1, 2, 0] rfl ?_
          exact ih _ _ h
        · have h := ifn cc_28 h
          refine Y_iload_n (pc := 31) hC d_La_sectionAt_31 rfl 1 rfl ?_
          refine Y_aload_n (pc := 32) hC d_La_sectionAt_32 rfl 0 rfl ?_
          refine Y_getR (pc := 33) hC sc_9 fl_La_9 rfl d_La_sectionAt_33 ?_
          refine Y_iload_n (pc := 36) hC d_La_sectionAt_36 rfl 2 rfl ?_
          obtain ⟨hi, h⟩ := ck_some h
          refine Y_iald (pc := 37) hC sc_48 rfl hi d_La_sectionAt_37 ?_
          refine Y_aload_n (pc := 38) hC d_La_sectionAt_38 rfl 0 rfl ?_
          refine Y_getR (pc := 39) hC sc_9 fl_La_18 rfl d_La_sectionAt_39 ?_
          refine Y_getR (pc := 42) hC sc_2 fl_La_92 rfl d_La_sectionAt_42 ?_
          refine Y_iload_n (pc := 45) hC d_La_sectionAt_45 rfl 2 rfl ?_
          obtain ⟨hi, h⟩ := ck_some h
          refine Y_iald (pc := 46) hC sc_17 rfl hi d_La_sectionAt_46 ?_
          refine Y_iadd (pc := 47) hC d_La_sectionAt_47 ?_
          refine Y_icmp_ge (pc := 48) hC 53 d_La_sectionAt_48 rfl (fun cc_48 => ?_) (fun cc_48 => ?_)
          · have h := ifp cc_48 h
            refine Y_iinc (pc := 53) hC (v := x2 + 1) (L' := [(2, .int (x2 + 1)), (0, .ref (C.a 9)), (1, .int x1)]) d_La_sectionAt_53 2 rfl rfl (by decide) rfl ?_
            refine Y_goto (pc := 56) hC 2 d_La_sectionAt_56 rfl ?_
            refine Y_sub (pc := 2) [1, 2, 0] rfl ?_
            exact ih _ _ h
          · have h := ifn cc_48 h
            refine Y_sub (pc := 51) [2] rfl ?_
            exact hk51 _ _ h
set_option maxHeartbeats 4000000 in
set_option maxRecDepth 100000 in
theorem c_La_sectionAt (l : Launch) (D : va_G) (cI cZ : ClassId) (a : Nat → Nat) {V : Sto} {p1 : Int32} {r : Int32} {V' : Sto} (h : f_La_sectionAt V p1 = some (r, V')) : YMi l D cI cZ a shpC y_La_sectionAt b_La_sectionAt 3 (some .int) rm_La_sectionAt false [.ref (a 9), .int p1] V r V' := by
  refine YMi_of (by decide) (Nat.le_of_ble_eq_true rfl) ?_
  intro C hl hDD hcI hcZ ha hC hw hE
  subst hl hDD hcI hcZ ha
  show Y C shpC 3 0 [(0, .ref (C.a 9)), (1, .int p1)] [] V
  rw [f_La_sectionAt] at h
  refine Y_iconst (pc := 0) hC d_La_sectionAt_0 ki_0 ?_
  refine Y_istore_n (pc := 1) hC (L' := [(2, .int 0), (0, .ref (C.a 9)), (1, .int p1)]) d_La_sectionAt_1 rfl (by decide) rfl ?_
  refine Y_sub (pc := 2) [1, 2, 0] rfl ?_
  refine ylp_La_sectionAt_2 hC hE (fun y1 V2 h => ?_) (fun V3 h => ?_) FU _ _ h
  · have h := h
    refine Y_iload_n (pc := 51) hC d_La_sectionAt_51 rfl 0 rfl ?_
    exact Y_iret (pc := 52) hC hE d_La_sectionAt_52 h
  · have h := h
    refine Y_iconst (pc := 59) hC d_La_sectionAt_59 ki_m1 ?_
    exact Y_iret (pc := 60) hC hE d_La_sectionAt_60 h
set_option maxHeartbeats 4000000 in
set_option maxRecDepth 100000 in
theorem c_Is_covers (l : Launch) (D : va_G) (cI cZ : ClassId) (a : Nat → Nat) {V : Sto} {p1 : Int32} {r : Int32} {V' : Sto} (h : f_Is_covers V p1 = some (r, V')) : YMi l D cI cZ a shpC y_Is_covers b_Is_covers 2 (some .boolean) rm_Is_covers false [.ref (a 10), .int p1] V r V' := by
  refine YMi_of (by decide) (Nat.le_of_ble_eq_true rfl) ?_
  intro C hl hDD hcI hcZ ha hC hw hE
  subst hl hDD hcI hcZ ha
  show Y C shpC 2 0 [(0, .ref (C.a 10)), (1, .int p1)] [] V
  rw [f_Is_covers] at h
  refine Y_iload_n (pc := 0) hC d_Is_covers_0 rfl 1 rfl ?_
  refine Y_aload_n (pc := 1) hC d_Is_covers_1 rfl 0 rfl ?_
  refine Y_getR (pc := 2) hC sc_10 fl_Is_40 rfl d_Is_covers_2 ?_
  refine Y_getI (pc := 5) hC sc_9 fl_Is_134 rfl d_Is_covers_5 ?_
  refine Y_icmp_lt (pc := 8) hC 34 d_Is_covers_8 rfl (fun cc_8 => ?_) (fun cc_8 => ?_)
  · have h := ifp cc_8 h
    refine Y_iconst (pc := 34) hC d_Is_covers_34 ki_0 ?_
    exact Y_zret (pc := 35) hC hE d_Is_covers_35 rfl h
  · have h := ifn cc_8 h
    refine Y_iload_n (pc := 11) hC d_Is_covers_11 rfl 1 rfl ?_
    refine Y_aload_n (pc := 12) hC d_Is_covers_12 rfl 0 rfl ?_
    refine Y_getR (pc := 13) hC sc_10 fl_Is_40 rfl d_Is_covers_13 ?_
    refine Y_getI (pc := 16) hC sc_9 fl_Is_134 rfl d_Is_covers_16 ?_
    refine Y_aload_n (pc := 19) hC d_Is_covers_19 rfl 0 rfl ?_
    refine Y_getI (pc := 20) hC sc_10 fl_Is_44 rfl d_Is_covers_20 ?_
    refine Y_bipush (pc := 23) hC d_Is_covers_23 kb_8 ?_
    refine Y_imul (pc := 25) hC d_Is_covers_25 ?_
    refine Y_iadd (pc := 26) hC d_Is_covers_26 ?_
    refine Y_icmp_ge (pc := 27) hC 34 d_Is_covers_27 rfl (fun cc_27 => ?_) (fun cc_27 => ?_)
    · have h := ifp cc_27 h
      refine Y_iconst (pc := 34) hC d_Is_covers_34 ki_0 ?_
      exact Y_zret (pc := 35) hC hE d_Is_covers_35 rfl h
    · have h := ifn cc_27 h
      refine Y_iconst (pc := 30) hC d_Is_covers_30 ki_1 ?_
      refine Y_goto (pc := 31) hC 35 d_Is_covers_31 rfl ?_
      exact Y_zret (pc := 35) hC hE d_Is_covers_35 rfl h
set_option maxHeartbeats 4000000 in
set_option maxRecDepth 100000 in
theorem c_Is_read (l : Launch) (D : va_G) (cI cZ : ClassId) (a : Nat → Nat) {V : Sto} {p1 : Int32} {r : Int32} {V' : Sto} (h : f_Is_read V p1 = some (r, V')) : YMi l D cI cZ a shpC y_Is_read b_Is_read 4 (some .int) rm_Is_read false [.ref (a 10), .int p1] V r V' := by
  refine YMi_of (by decide) (Nat.le_of_ble_eq_true rfl) ?_
  intro C hl hDD hcI hcZ ha hC hw hE
  subst hl hDD hcI hcZ ha
  show Y C shpC 4 0 [(0, .ref (C.a 10)), (1, .int p1)] [] V
  rw [f_Is_read] at h
  refine Y_iload_n (pc := 0) hC d_Is_read_0 rfl 1 rfl ?_
  refine Y_aload_n (pc := 1) hC d_Is_read_1 rfl 0 rfl ?_
  refine Y_getR (pc := 2) hC sc_10 fl_Is_40 rfl d_Is_read_2 ?_
  refine Y_getI (pc := 5) hC sc_9 fl_Is_134 rfl d_Is_read_5 ?_
  refine Y_isub (pc := 8) hC d_Is_read_8 ?_
  refine Y_istore_n (pc := 9) hC (L' := [(2, .int (p1 - (V 9 7))), (0, .ref (C.a 10)), (1, .int p1)]) d_Is_read_9 rfl (by decide) rfl ?_
  refine Y_iload_n (pc := 10) hC d_Is_read_10 rfl 0 rfl ?_
  refine Y_bipush (pc := 11) hC d_Is_read_11 kb_8 ?_
  refine Y_irem (pc := 13) hC d_Is_read_13 (by decide) ?_
  refine Y_if_eq (pc := 14) hC 19 d_Is_read_14 rfl (fun cc_14 => ?_) (fun cc_14 => ?_)
  · have h := ifp cc_14 h
    refine Y_iload_n (pc := 19) hC d_Is_read_19 rfl 0 rfl ?_
    refine Y_bipush (pc := 20) hC d_Is_read_20 kb_8 ?_
    refine Y_idiv (pc := 22) hC d_Is_read_22 (by decide) ?_
    refine Y_istore_n (pc := 23) hC (L' := [(3, .int ((p1 - (V 9 7)) / 8)), (2, .int (p1 - (V 9 7))), (0, .ref (C.a 10)), (1, .int p1)]) d_Is_read_23 rfl (by decide) rfl ?_
    refine Y_aload_n (pc := 24) hC d_Is_read_24 rfl 2 rfl ?_
    refine Y_getR (pc := 25) hC sc_10 fl_Is_40 rfl d_Is_read_25 ?_
    refine Y_aload_n (pc := 28) hC d_Is_read_28 rfl 2 rfl ?_
    refine Y_getR (pc := 29) hC sc_10 fl_Is_9 rfl d_Is_read_29 ?_
    refine Y_iload_n (pc := 32) hC d_Is_read_32 rfl 0 rfl ?_
    obtain ⟨hi, h⟩ := ck_some h
    refine Y_iald (pc := 33) hC sc_50 rfl hi d_Is_read_33 ?_
    refine Y_aload_n (pc := 34) hC d_Is_read_34 rfl 2 rfl ?_
    refine Y_getR (pc := 35) hC sc_10 fl_Is_15 rfl d_Is_read_35 ?_
    refine Y_iload_n (pc := 38) hC d_Is_read_38 rfl 0 rfl ?_
    obtain ⟨hi, h⟩ := ck_some h
    refine Y_iald (pc := 39) hC sc_51 rfl hi d_Is_read_39 ?_
    obtain ⟨r1, V1, hc_r1, h⟩ := cl_some h
    refine Y_callV (pc := 40) hC (c_La_startOf C.l C.D C.cI C.cZ C.a hc_r1) (fun q => nomatch q) sc_9 cls_La ml_Is_146 mv_La_startOf (by decide) (Nat.le_of_ble_eq_true rfl) rfl d_Is_read_40 ?_
    refine Y_aload_n (pc := 43) hC d_Is_read_43 rfl 2 rfl ?_
    refine Y_getR (pc := 44) hC sc_10 fl_Is_18 rfl d_Is_read_44 ?_
    refine Y_iload_n (pc := 47) hC d_Is_read_47 rfl 0 rfl ?_
    obtain ⟨hi, h⟩ := ck_some h
    refine Y_iald (pc := 48) hC sc_52 rfl hi d_Is_read_48 ?_
    refine Y_iadd (pc := 49) hC d_Is_read_49 ?_
    exact Y_iret (pc := 50) hC hE d_Is_read_50 h
  · have h := ifn cc_14 h
    refine Y_iconst (pc := 17) hC d_Is_read_17 ki_0 ?_
    exact Y_iret (pc := 18) hC hE d_Is_read_18 h
set_option maxHeartbeats 4000000 in
set_option maxRecDepth 100000 in
theorem c_Me_withLowerHalf (l : Launch) (D : va_G) (cI cZ : ClassId) (a : Nat → Nat) {V : Sto} {p0 : Int32} {p1 : Int32} {r : Int32} {V' : Sto} (h : f_Me_withLowerHalf V p0 p1 = some (r, V')) : YMi l D cI cZ a shpC y_Me_withLowerHalf b_Me_withLowerHalf 2 (some .int) rm_Me_withLowerHalf false [.int p0, .int p1] V r V' := by
  refine YMi_of (by decide) (Nat.le_of_ble_eq_true rfl) ?_
  intro C hl hDD hcI hcZ ha hC hw hE
  subst hl hDD hcI hcZ ha
  show Y C shpC 2 0 [(0, .int p0), (1, .int p1)] [] V
  rw [f_Me_withLowerHalf] at h
  refine Y_iload_n (pc := 0) hC d_Me_withLowerHalf_0 rfl 0 rfl ?_
  refine Y_ldc (pc := 1) hC kc_Me_112 d_Me_withLowerHalf_1 ?_
  refine Y_iand (pc := 3) hC d_Me_withLowerHalf_3 ?_
  refine Y_iload_n (pc := 4) hC d_Me_withLowerHalf_4 rfl 1 rfl ?_
  refine Y_ldc (pc := 5) hC kc_Me_113 d_Me_withLowerHalf_5 ?_
  refine Y_iand (pc := 7) hC d_Me_withLowerHalf_7 ?_
  refine Y_ior (pc := 8) hC d_Me_withLowerHalf_8 ?_
  exact Y_iret (pc := 9) hC hE d_Me_withLowerHalf_9 h
set_option maxHeartbeats 4000000 in
set_option maxRecDepth 100000 in
theorem c_Me_wordsBetween (l : Launch) (D : va_G) (cI cZ : ClassId) (a : Nat → Nat) {V : Sto} {p0 : Int32} {p1 : Int32} {r : Int32} {V' : Sto} (h : f_Me_wordsBetween V p0 p1 = some (r, V')) : YMi l D cI cZ a shpC y_Me_wordsBetween b_Me_wordsBetween 2 (some .int) rm_Me_wordsBetween false [.int p0, .int p1] V r V' := by
  refine YMi_of (by decide) (Nat.le_of_ble_eq_true rfl) ?_
  intro C hl hDD hcI hcZ ha hC hw hE
  subst hl hDD hcI hcZ ha
  show Y C shpC 2 0 [(0, .int p0), (1, .int p1)] [] V
  rw [f_Me_wordsBetween] at h
  refine Y_iload_n (pc := 0) hC d_Me_wordsBetween_0 rfl 1 rfl ?_
  refine Y_iload_n (pc := 1) hC d_Me_wordsBetween_1 rfl 0 rfl ?_
  refine Y_isub (pc := 2) hC d_Me_wordsBetween_2 ?_
  refine Y_iconst (pc := 3) hC d_Me_wordsBetween_3 ki_4 ?_
  refine Y_idiv (pc := 4) hC d_Me_wordsBetween_4 (by decide) ?_
  exact Y_iret (pc := 5) hC hE d_Me_wordsBetween_5 h
set_option maxHeartbeats 4000000 in
set_option maxRecDepth 100000 in
theorem c_Me_mend (l : Launch) (D : va_G) (cI cZ : ClassId) (a : Nat → Nat) {V : Sto} {p1 : Int32} {p2 : Int32} {r : Int32} {V' : Sto} (h : f_Me_mend V p1 p2 = some (r, V')) : YMi l D cI cZ a shpC y_Me_mend b_Me_mend 5 (some .int) rm_Me_mend false [.ref (a 11), .int p1, .int p2] V r V' := by
  refine YMi_of (by decide) (Nat.le_of_ble_eq_true rfl) ?_
  intro C hl hDD hcI hcZ ha hC hw hE
  subst hl hDD hcI hcZ ha
  show Y C shpC 5 0 [(0, .ref (C.a 11)), (1, .int p1), (2, .int p2)] [] V
  rw [f_Me_mend] at h
  refine Y_aload_n (pc := 0) hC d_Me_mend_0 rfl 0 rfl ?_
  refine Y_getR (pc := 1) hC sc_11 fl_Me_23 rfl d_Me_mend_1 ?_
  refine Y_iload_n (pc := 4) hC d_Me_mend_4 rfl 2 rfl ?_
  obtain ⟨r1, V1, hc_r1, h⟩ := cl_some h
  refine Y_callV (pc := 5) hC (c_Is_targetOf C.l C.D C.cI C.cZ C.a hc_r1) (fun q => nomatch q) sc_10 cls_Is ml_Me_41 mv_Is_targetOf (by decide) (Nat.le_of_ble_eq_true rfl) rfl d_Me_mend_5 ?_
  refine Y_istore_n (pc := 8) hC (L' := [(3, .int r1), (0, .ref (C.a 11)), (1, .int p1), (2, .int p2)]) d_Me_mend_8 rfl (by decide) rfl ?_
  refine Y_aload_n (pc := 9) hC d_Me_mend_9 rfl 1 rfl ?_
  refine Y_getR (pc := 10) hC sc_11 fl_Me_23 rfl d_Me_mend_10 ?_
  refine Y_iload_n (pc := 13) hC d_Me_mend_13 rfl 3 rfl ?_
  obtain ⟨r2, V2, hc_r2, h⟩ := cl_some h
  refine Y_callV (pc := 14) hC (c_Is_placeOf C.l C.D C.cI C.cZ C.a hc_r2) (fun q => nomatch q) sc_10 cls_Is ml_Me_100 mv_Is_placeOf (by decide) (Nat.le_of_ble_eq_true rfl) rfl d_Me_mend_14 ?_
  refine Y_istore (pc := 17) hC (L' := [(4, .int r2), (3, .int r1), (0, .ref (C.a 11)), (1, .int p1), (2, .int p2)]) d_Me_mend_17 (by decide) rfl ?_
  refine Y_aload_n (pc := 19) hC d_Me_mend_19 rfl 2 rfl ?_
  refine Y_getR (pc := 20) hC sc_11 fl_Me_15 rfl d_Me_mend_20 ?_
  refine Y_getR (pc := 23) hC sc_4 fl_Me_54 rfl d_Me_mend_23 ?_
  refine Y_iload_n (pc := 26) hC d_Me_mend_26 rfl 4 rfl ?_
  obtain ⟨hi, h⟩ := ck_some h
  refine Y_iald (pc := 27) hC sc_29 rfl hi d_Me_mend_27 ?_
  by_cases cs_28_0 : (V2 29 p2.toNatClampNeg) = 0
  · have h := ifp cs_28_0 h
    refine Y_tableIn (pc := 28) hC (off := 36) 64 d_Me_mend_28 (by rw [cs_28_0]; decide) (by rw [cs_28_0]; decide) (by rw [cs_28_0]; try rfl) rfl ?_
    refine Y_iload_n (pc := 64) hC d_Me_mend_64 rfl 3 rfl ?_
    refine Y_iload_n (pc := 65) hC d_Me_mend_65 rfl 1 rfl ?_
    refine Y_iadd (pc := 66) hC d_Me_mend_66 ?_
    exact Y_iret (pc := 67) hC hE d_Me_mend_67 h
  · have h := ifn cs_28_0 h
    by_cases cs_28_1 : (V2 29 p2.toNatClampNeg) = 1
    · have h := ifp cs_28_1 h
      refine Y_tableIn (pc := 28) hC (off := 40) 68 d_Me_mend_28 (by rw [cs_28_1]; decide) (by rw [cs_28_1]; decide) (by rw [cs_28_1]; try rfl) rfl ?_
      refine Y_iload_n (pc := 68) hC d_Me_mend_68 rfl 3 rfl ?_
      refine Y_iload_n (pc := 69) hC d_Me_mend_69 rfl 1 rfl ?_
      refine Y_iadd (pc := 70) hC d_Me_mend_70 ?_
      refine Y_iload (pc := 71) hC d_Me_mend_71 0 rfl ?_
      refine Y_isub (pc := 73) hC d_Me_mend_73 ?_
      exact Y_iret (pc := 74) hC hE d_Me_mend_74 h
    · have h := ifn cs_28_1 h
      by_cases cs_28_2 : (V2 29 p2.toNatClampNeg) = 2
      · have h := ifp cs_28_2 h
        refine Y_tableIn (pc := 28) hC (off := 47) 75 d_Me_mend_28 (by rw [cs_28_2]; decide) (by rw [cs_28_2]; decide) (by rw [cs_28_2]; try rfl) rfl ?_
        refine Y_iload_n (pc := 75) hC d_Me_mend_75 rfl 3 rfl ?_
        refine Y_iload_n (pc := 76) hC d_Me_mend_76 rfl 1 rfl ?_
        refine Y_ldc (pc := 77) hC kc_Me_103 d_Me_mend_77 ?_
        refine Y_iadd (pc := 79) hC d_Me_mend_79 ?_
        refine Y_bipush (pc := 80) hC d_Me_mend_80 kb_16 ?_
        refine Y_iushr (pc := 82) hC d_Me_mend_82 rfl ?_
        obtain ⟨r3, V3, hc_r3, h⟩ := cl_some h
        refine Y_callS (pc := 83) hC (c_Me_withLowerHalf C.l C.D C.cI C.cZ C.a hc_r3) (fun q => nomatch q) ml_Me_104 ms_Me_withLowerHalf (by decide) (Nat.le_of_ble_eq_true rfl) rfl d_Me_mend_83 ?_
        exact Y_iret (pc := 86) hC hE d_Me_mend_86 h
      · have h := ifn cs_28_2 h
        by_cases cs_28_3 : (V2 29 p2.toNatClampNeg) = 3
        · have h := ifp cs_28_3 h
          refine Y_tableIn (pc := 28) hC (off := 59) 87 d_Me_mend_28 (by rw [cs_28_3]; decide) (by rw [cs_28_3]; decide) (by rw [cs_28_3]; try rfl) rfl ?_
          refine Y_iload_n (pc := 87) hC d_Me_mend_87 rfl 3 rfl ?_
          refine Y_iload_n (pc := 88) hC d_Me_mend_88 rfl 1 rfl ?_
          obtain ⟨r4, V4, hc_r4, h⟩ := cl_some h
          refine Y_callS (pc := 89) hC (c_Me_withLowerHalf C.l C.D C.cI C.cZ C.a hc_r4) (fun q => nomatch q) ml_Me_104 ms_Me_withLowerHalf (by decide) (Nat.le_of_ble_eq_true rfl) rfl d_Me_mend_89 ?_
          exact Y_iret (pc := 92) hC hE d_Me_mend_92 h
        · have h := ifn cs_28_3 h
          by_cases cs_28_4 : (V2 29 p2.toNatClampNeg) = 4
          · have h := ifp cs_28_4 h
            refine Y_tableIn (pc := 28) hC (off := 65) 93 d_Me_mend_28 (by rw [cs_28_4]; decide) (by rw [cs_28_4]; decide) (by rw [cs_28_4]; try rfl) rfl ?_
            refine Y_iload_n (pc := 93) hC d_Me_mend_93 rfl 3 rfl ?_
            refine Y_iload (pc := 94) hC d_Me_mend_94 0 rfl ?_
            refine Y_iconst (pc := 96) hC d_Me_mend_96 ki_4 ?_
            refine Y_iadd (pc := 97) hC d_Me_mend_97 ?_
            refine Y_aload_n (pc := 98) hC d_Me_mend_98 rfl 2 rfl ?_
            refine Y_getR (pc := 99) hC sc_11 fl_Me_23 rfl d_Me_mend_99 ?_
            refine Y_iload_n (pc := 102) hC d_Me_mend_102 rfl 4 rfl ?_
            refine Y_iload_n (pc := 103) hC d_Me_mend_103 rfl 1 rfl ?_
            obtain ⟨r5, V5, hc_r5, h⟩ := cl_some h
            refine Y_callV (pc := 104) hC (c_Is_goalOf C.l C.D C.cI C.cZ C.a hc_r5) (fun q => nomatch q) sc_10 cls_Is ml_Me_47 mv_Is_goalOf (by decide) (Nat.le_of_ble_eq_true rfl) rfl d_Me_mend_104 ?_
            obtain ⟨r6, V6, hc_r6, h⟩ := cl_some h
            refine Y_callS (pc := 107) hC (c_Me_wordsBetween C.l C.D C.cI C.cZ C.a hc_r6) (fun q => nomatch q) ml_Me_107 ms_Me_wordsBetween (by decide) (Nat.le_of_ble_eq_true rfl) rfl d_Me_mend_107 ?_
            obtain ⟨r7, V7, hc_r7, h⟩ := cl_some h
            refine Y_callS (pc := 110) hC (c_Me_withLowerHalf C.l C.D C.cI C.cZ C.a hc_r7) (fun q => nomatch q) ml_Me_104 ms_Me_withLowerHalf (by decide) (Nat.le_of_ble_eq_true rfl) rfl d_Me_mend_110 ?_
            exact Y_iret (pc := 113) hC hE d_Me_mend_113 h
          · have h := ifn cs_28_4 h
            have cn_0 := i32_ne cs_28_0
            have cn_1 := i32_ne cs_28_1
            have cn_2 := i32_ne cs_28_2
            have cn_3 := i32_ne cs_28_3
            have cn_4 := i32_ne cs_28_4
            simp only [i32lit_0, i32lit_1, i32lit_2, i32lit_3, i32lit_4] at cn_0 cn_1 cn_2 cn_3 cn_4
            refine Y_tableOut (pc := 28) hC 114 d_Me_mend_28 (by omega) rfl ?_
            refine Y_iload_n (pc := 114) hC d_Me_mend_114 rfl 3 rfl ?_
            refine Y_ldc (pc := 115) hC kc_Me_110 d_Me_mend_115 ?_
            refine Y_iand (pc := 117) hC d_Me_mend_117 ?_
            refine Y_iload_n (pc := 118) hC d_Me_mend_118 rfl 1 rfl ?_
            refine Y_iconst (pc := 119) hC d_Me_mend_119 ki_2 ?_
            refine Y_iushr (pc := 120) hC d_Me_mend_120 rfl ?_
            refine Y_ldc (pc := 121) hC kc_Me_111 d_Me_mend_121 ?_
            refine Y_iand (pc := 123) hC d_Me_mend_123 ?_
            refine Y_ior (pc := 124) hC d_Me_mend_124 ?_
            exact Y_iret (pc := 125) hC hE d_Me_mend_125 h
set_option maxHeartbeats 4000000 in
set_option maxRecDepth 100000 in
theorem ylp_Me_mended_13 {C : YC} {r : Int32} {V' : Sto} {x1 : Int32} {x2 : Int32} {k66 : Int32 → Sto → RT} (hC : YF C R_Me b_Me_mended 6 rm_Me_mended) (hE : YEi C .int shpC r V') (hk66 : ∀ (y3 : Int32) (V1 : Sto), k66 y3 V1 = some (r, V') → Y C shpC 6 66 [(3, .int y3)] [] V1) : ∀ (n : Nat) (x3 x4 : Int32) (V : Sto), lp_Me_mended_13 x1 x2 k66 n x3 x4 V = some (r, V') → Y C shpC 6 13 [(0, .ref (C.a 11)), (1, .int x1), (2, .int x2), (3, .int x3), (4, .int x4)] [] V := by
  intro n
  induction n with
  | zero =>
    intro x3 x4 V h
    rw [lp_Me_mended_13] at h
    cases h
  | succ n ih =>
    intro x3 x4 V h
    rw [lp_Me_mended_13] at h
    refine Y_iload (pc := 13) hC d_Me_mended_13 4 rfl ?_
    refine Y_aload_n (pc := 15) hC d_Me_mended_15 rfl 0 rfl ?_
    refine Y_getR (pc := 16) hC sc_11 fl_Me_15 rfl d_Me_mended_16 ?_
    refine Y_iload_n (pc := 19) hC d_Me_mended_19 rfl 1 rfl ?_
    obtain ⟨r2, V2, hc_r2, h⟩ := cl_some h
    refine Y_callV (pc := 20) hC (c_Re_countOf C.l C.D C.cI C.cZ C.a hc_r2) (fun q => nomatch q) sc_4 cls_Re ml_Me_88 mv_Re_countOf (by decide) (Nat.le_of_ble_eq_true rfl) rfl d_Me_mended_20 ?_
    refine Y_icmp_ge (pc := 23) hC 66 d_Me_mended_23 rfl (fun cc_23 => ?_) (fun cc_23 => ?_)
    · have h := ifp cc_23 h
      refine Y_sub (pc := 66) [3] rfl ?_
      exact hk66 _ _ h
    · have h := ifn cc_23 h
      refine Y_aload_n (pc := 26) hC d_Me_mended_26 rfl 0 rfl ?_
      refine Y_getR (pc := 27) hC sc_11 fl_Me_15 rfl d_Me_mended_27 ?_
      refine Y_iload_n (pc := 30) hC d_Me_mended_30 rfl 1 rfl ?_
      refine Y_iload (pc := 31) hC d_Me_mended_31 4 rfl ?_
      obtain ⟨r3, V3, hc_r3, h⟩ := cl_some h
      refine Y_callV (pc := 33) hC (c_Re_pick C.l C.D C.cI C.cZ C.a hc_r3) (fun q => nomatch q) sc_4 cls_Re ml_Me_91 mv_Re_pick (by decide) (Nat.le_of_ble_eq_true rfl) rfl d_Me_mended_33 ?_
      refine Y_istore (pc := 36) hC (L' := [(5, .int r3), (0, .ref (C.a 11)), (1, .int x1), (2, .int x2), (3, .int x3), (4, .int x4)]) d_Me_mended_36 (by decide) rfl ?_
      refine Y_aload_n (pc := 38) hC d_Me_mended_38 rfl 1 rfl ?_
      refine Y_getR (pc := 39) hC sc_11 fl_Me_15 rfl d_Me_mended_39 ?_
      refine Y_getR (pc := 42) hC sc_4 fl_Me_94 rfl d_Me_mended_42 ?_
      refine Y_iload (pc := 45) hC d_Me_mended_45 0 rfl ?_
      obtain ⟨hi, h⟩ := ck_some h
      refine Y_iald (pc := 47) hC sc_28 rfl hi d_Me_mended_47 ?_
      refine Y_iload_n (pc := 48) hC d_Me_mended_48 rfl 3 rfl ?_
      refine Y_icmp_ne (pc := 49) hC 60 d_Me_mended_49 rfl (fun cc_49 => ?_) (fun cc_49 => ?_)
      · have h := ifn cc_49 h
        refine Y_iinc (pc := 60) hC (v := x4 + 1) (L' := [(4, .int (x4 + 1)), (5, .int r3), (0, .ref (C.a 11)), (1, .int x1), (2, .int x2), (3, .int x3)]) d_Me_mended_60 5 rfl rfl (by decide) rfl ?_
        refine Y_goto (pc := 63) hC 13 d_Me_mended_63 rfl ?_
        refine Y_sub (pc := 13) [2, 3, 4, 5, 0] rfl ?_
        exact ih _ _ _ h
      · have h := ifp cc_49 h
        refine Y_aload_n (pc := 52) hC d_Me_mended_52 rfl 1 rfl ?_
        refine Y_iload_n (pc := 53) hC d_Me_mended_53 rfl 4 rfl ?_
        refine Y_iload (pc := 54) hC d_Me_mended_54 0 rfl ?_
        obtain ⟨r4, V4, hc_r4, h⟩ := cl_some h
        refine Y_callV (pc := 56) hC (c_Me_mend C.l C.D C.cI C.cZ C.a hc_r4) (fun q => nomatch q) sc_11 cls_Me ml_Me_97 mv_Me_mend (by decide) (Nat.le_of_ble_eq_true rfl) rfl d_Me_mended_56 ?_
        refine Y_istore_n (pc := 59) hC (L' := [(3, .int r4), (5, .int r3), (0, .ref (C.a 11)), (1, .int x1), (2, .int x2), (4, .int x4)]) d_Me_mended_59 rfl (by decide) rfl ?_
        refine Y_iinc (pc := 60) hC (v := x4 + 1) (L' := [(4, .int (x4 + 1)), (3, .int r4), (5, .int r3), (0, .ref (C.a 11)), (1, .int x1), (2, .int x2)]) d_Me_mended_60 5 rfl rfl (by decide) rfl ?_
        refine Y_goto (pc := 63) hC 13 d_Me_mended_63 rfl ?_
        refine Y_sub (pc := 13) [3, 4, 5, 1, 0] rfl ?_
        exact ih _ _ _ h
set_option maxHeartbeats 4000000 in
set_option maxRecDepth 100000 in
theorem c_Me_mended (l : Launch) (D : va_G) (cI cZ : ClassId) (a : Nat → Nat) {V : Sto} {p1 : Int32} {p2 : Int32} {r : Int32} {V' : Sto} (h : f_Me_mended V p1 p2 = some (r, V')) : YMi l D cI cZ a shpC y_Me_mended b_Me_mended 6 (some .int) rm_Me_mended false [.ref (a 11), .int p1, .int p2] V r V' := by
  refine YMi_of (by decide) (Nat.le_of_ble_eq_true rfl) ?_
  intro C hl hDD hcI hcZ ha hC hw hE
  subst hl hDD hcI hcZ ha
  show Y C shpC 6 0 [(0, .ref (C.a 11)), (1, .int p1), (2, .int p2)] [] V
  rw [f_Me_mended] at h
  refine Y_aload_n (pc := 0) hC d_Me_mended_0 rfl 0 rfl ?_
  refine Y_getR (pc := 1) hC sc_11 fl_Me_9 rfl d_Me_mended_1 ?_
  refine Y_iload_n (pc := 4) hC d_Me_mended_4 rfl 1 rfl ?_
  refine Y_iload_n (pc := 5) hC d_Me_mended_5 rfl 2 rfl ?_
  obtain ⟨r1, V1, hc_r1, h⟩ := cl_some h
  refine Y_callV (pc := 6) hC (c_Se_read C.l C.D C.cI C.cZ C.a hc_r1) (fun q => nomatch q) sc_2 cls_Se ml_Me_86 mv_Se_read (by decide) (Nat.le_of_ble_eq_true rfl) rfl d_Me_mended_6 ?_
  refine Y_istore_n (pc := 9) hC (L' := [(3, .int r1), (0, .ref (C.a 11)), (1, .int p1), (2, .int p2)]) d_Me_mended_9 rfl (by decide) rfl ?_
  refine Y_iconst (pc := 10) hC d_Me_mended_10 ki_0 ?_
  refine Y_istore (pc := 11) hC (L' := [(4, .int 0), (3, .int r1), (0, .ref (C.a 11)), (1, .int p1), (2, .int p2)]) d_Me_mended_11 (by decide) rfl ?_
  refine Y_sub (pc := 13) [2, 3, 4, 1, 0] rfl ?_
  refine ylp_Me_mended_13 hC hE (fun y1 V5 h => ?_) FU _ _ _ h
  refine Y_iload_n (pc := 66) hC d_Me_mended_66 rfl 0 rfl ?_
  exact Y_iret (pc := 67) hC hE d_Me_mended_67 h
set_option maxHeartbeats 4000000 in
set_option maxRecDepth 100000 in
theorem c_Me_read (l : Launch) (D : va_G) (cI cZ : ClassId) (a : Nat → Nat) {V : Sto} {p1 : Int32} {r : Int32} {V' : Sto} (h : f_Me_read V p1 = some (r, V')) : YMi l D cI cZ a shpC y_Me_read b_Me_read 3 (some .int) rm_Me_read false [.ref (a 11), .int p1] V r V' := by
  refine YMi_of (by decide) (Nat.le_of_ble_eq_true rfl) ?_
  intro C hl hDD hcI hcZ ha hC hw hE
  subst hl hDD hcI hcZ ha
  show Y C shpC 3 0 [(0, .ref (C.a 11)), (1, .int p1)] [] V
  rw [f_Me_read] at h
  refine Y_aload_n (pc := 0) hC d_Me_read_0 rfl 0 rfl ?_
  refine Y_getR (pc := 1) hC sc_11 fl_Me_19 rfl d_Me_read_1 ?_
  refine Y_iload_n (pc := 4) hC d_Me_read_4 rfl 1 rfl ?_
  obtain ⟨r1, V1, hc_r1, h⟩ := cl_some h
  refine Y_callV (pc := 5) hC (c_La_sectionAt C.l C.D C.cI C.cZ C.a hc_r1) (fun q => nomatch q) sc_9 cls_La ml_Me_66 mv_La_sectionAt (by decide) (Nat.le_of_ble_eq_true rfl) rfl d_Me_read_5 ?_
  refine Y_istore_n (pc := 8) hC (L' := [(2, .int r1), (0, .ref (C.a 11)), (1, .int p1)]) d_Me_read_8 rfl (by decide) rfl ?_
  refine Y_iload_n (pc := 9) hC d_Me_read_9 rfl 0 rfl ?_
  refine Y_iconst (pc := 10) hC d_Me_read_10 ki_m1 ?_
  refine Y_icmp_ne (pc := 11) hC 38 d_Me_read_11 rfl (fun cc_11 => ?_) (fun cc_11 => ?_)
  · have h := ifn cc_11 h
    refine Y_aload_n (pc := 38) hC d_Me_read_38 rfl 1 rfl ?_
    refine Y_getR (pc := 39) hC sc_11 fl_Me_9 rfl d_Me_read_39 ?_
    refine Y_getR (pc := 42) hC sc_2 fl_Me_75 rfl d_Me_read_42 ?_
    refine Y_iload_n (pc := 45) hC d_Me_read_45 rfl 0 rfl ?_
    obtain ⟨hi, h⟩ := ck_some h
    refine Y_iald (pc := 46) hC sc_16 rfl hi d_Me_read_46 ?_
    refine Y_iconst (pc := 47) hC d_Me_read_47 ki_2 ?_
    refine Y_icmp_ne (pc := 48) hC 53 d_Me_read_48 rfl (fun cc_48 => ?_) (fun cc_48 => ?_)
    · have h := ifn cc_48 h
      refine Y_aload_n (pc := 53) hC d_Me_read_53 rfl 1 rfl ?_
      refine Y_iload_n (pc := 54) hC d_Me_read_54 rfl 0 rfl ?_
      refine Y_iload_n (pc := 55) hC d_Me_read_55 rfl 2 rfl ?_
      refine Y_aload_n (pc := 56) hC d_Me_read_56 rfl 1 rfl ?_
      refine Y_getR (pc := 57) hC sc_11 fl_Me_19 rfl d_Me_read_57 ?_
      refine Y_getR (pc := 60) hC sc_9 fl_Me_80 rfl d_Me_read_60 ?_
      refine Y_iload_n (pc := 63) hC d_Me_read_63 rfl 0 rfl ?_
      obtain ⟨hi, h⟩ := ck_some h
      refine Y_iald (pc := 64) hC sc_48 rfl hi d_Me_read_64 ?_
      refine Y_isub (pc := 65) hC d_Me_read_65 ?_
      obtain ⟨r2, V2, hc_r2, h⟩ := cl_some h
      refine Y_callV (pc := 66) hC (c_Me_mended C.l C.D C.cI C.cZ C.a hc_r2) (fun q => nomatch q) sc_11 cls_Me ml_Me_83 mv_Me_mended (by decide) (Nat.le_of_ble_eq_true rfl) rfl d_Me_read_66 ?_
      exact Y_iret (pc := 69) hC hE d_Me_read_69 h
    · have h := ifp cc_48 h
      refine Y_iconst (pc := 51) hC d_Me_read_51 ki_0 ?_
      exact Y_iret (pc := 52) hC hE d_Me_read_52 h
  · have h := ifp cc_11 h
    refine Y_aload_n (pc := 14) hC d_Me_read_14 rfl 1 rfl ?_
    refine Y_getR (pc := 15) hC sc_11 fl_Me_23 rfl d_Me_read_15 ?_
    refine Y_iload_n (pc := 18) hC d_Me_read_18 rfl 2 rfl ?_
    obtain ⟨r3, V3, hc_r3, h⟩ := cl_some h
    refine Y_callV (pc := 19) hC (c_Is_covers C.l C.D C.cI C.cZ C.a hc_r3) (fun q => nomatch q) sc_10 cls_Is ml_Me_69 mv_Is_covers (by decide) (Nat.le_of_ble_eq_true rfl) rfl d_Me_read_19 ?_
    refine Y_if_eq (pc := 22) hC 36 d_Me_read_22 rfl (fun cc_22 => ?_) (fun cc_22 => ?_)
    · have h := ifp cc_22 h
      refine Y_iconst (pc := 36) hC d_Me_read_36 ki_0 ?_
      exact Y_iret (pc := 37) hC hE d_Me_read_37 h
    · have h := ifn cc_22 h
      refine Y_aload_n (pc := 25) hC d_Me_read_25 rfl 1 rfl ?_
      refine Y_getR (pc := 26) hC sc_11 fl_Me_23 rfl d_Me_read_26 ?_
      refine Y_iload_n (pc := 29) hC d_Me_read_29 rfl 2 rfl ?_
      obtain ⟨r4, V4, hc_r4, h⟩ := cl_some h
      refine Y_callV (pc := 30) hC (c_Is_read C.l C.D C.cI C.cZ C.a hc_r4) (fun q => nomatch q) sc_10 cls_Is ml_Me_72 mv_Is_read (by decide) (Nat.le_of_ble_eq_true rfl) rfl d_Me_read_30 ?_
      refine Y_goto (pc := 33) hC 37 d_Me_read_33 rfl ?_
      exact Y_iret (pc := 37) hC hE d_Me_read_37 h
