set_option maxHeartbeats 4000000 in
set_option maxRecDepth 100000 in
theorem ylp_Me_firstMisplacedJump_2 {C : YC} {r : Int32} {V' : Sto} {k45 : Int32 → Sto → RT} {k53 : Sto → RT} (hC : YF C R_Me b_Me_firstMisplacedJump 3 rm_Me_firstMisplacedJump) (hE : YEi C .int shpC r V') (hk45 : ∀ (y2 : Int32) (V1 : Sto), k45 y2 V1 = some (r, V') → Y C shpC 3 45 [(2, .int y2)] [] V1) (hk53 : ∀ (V1 : Sto), k53 V1 = some (r, V') → Y C shpC 3 53 [] [] V1) : ∀ (n : Nat) (x1 : Int32) (V : Sto), lp_Me_firstMisplacedJump_2 k45 k53 n x1 V = some (r, V') → Y C shpC 3 2 [(0, .ref (C.a 11)), (1, .int x1)] [] V := by
  intro n
  induction n with
  | zero =>
    intro x1 V h
    rw [lp_Me_firstMisplacedJump_2] at h
    cases h
  | succ n ih =>
    intro x1 V h
    rw [lp_Me_firstMisplacedJump_2] at h
    refine Y_iload_n (pc := 2) hC d_Me_firstMisplacedJump_2 rfl 1 rfl ?_
    refine Y_aload_n (pc := 3) hC d_Me_firstMisplacedJump_3 rfl 0 rfl ?_
    refine Y_getR (pc := 4) hC sc_11 fl_Me_15 rfl d_Me_firstMisplacedJump_4 ?_
    refine Y_getI (pc := 7) hC sc_4 fl_Me_27 rfl d_Me_firstMisplacedJump_7 ?_
    refine Y_icmp_ge (pc := 10) hC 53 d_Me_firstMisplacedJump_10 rfl (fun cc_10 => ?_) (fun cc_10 => ?_)
    · have h := ifp cc_10 h
      refine Y_sub (pc := 53) [] rfl ?_
      exact hk53 _ h
    · have h := ifn cc_10 h
      refine Y_aload_n (pc := 13) hC d_Me_firstMisplacedJump_13 rfl 0 rfl ?_
      refine Y_getR (pc := 14) hC sc_11 fl_Me_15 rfl d_Me_firstMisplacedJump_14 ?_
      refine Y_getR (pc := 17) hC sc_4 fl_Me_33 rfl d_Me_firstMisplacedJump_17 ?_
      refine Y_iload_n (pc := 20) hC d_Me_firstMisplacedJump_20 rfl 1 rfl ?_
      obtain ⟨hi, h⟩ := ck_some h
      refine Y_iald (pc := 21) hC sc_32 rfl hi d_Me_firstMisplacedJump_21 ?_
      refine Y_istore_n (pc := 22) hC (L' := [(2, .int (V 32 x1.toNatClampNeg)), (0, .ref (C.a 11)), (1, .int x1)]) d_Me_firstMisplacedJump_22 rfl (by decide) rfl ?_
      refine Y_aload_n (pc := 23) hC d_Me_firstMisplacedJump_23 rfl 1 rfl ?_
      refine Y_iload_n (pc := 24) hC d_Me_firstMisplacedJump_24 rfl 0 rfl ?_
      refine Y_iconst (pc := 25) hC d_Me_firstMisplacedJump_25 ki_5 ?_
      obtain ⟨r1, V1, hc_r1, h⟩ := cl_some h
      refine Y_callV (pc := 26) hC (c_Me_isMended C.l C.D C.cI C.cZ C.a hc_r1) (fun q => nomatch q) sc_11 cls_Me ml_Me_37 mv_Me_isMended (by decide) (Nat.le_of_ble_eq_true rfl) rfl d_Me_firstMisplacedJump_26 ?_
      refine Y_if_eq (pc := 29) hC 47 d_Me_firstMisplacedJump_29 rfl (fun cc_29 => ?_) (fun cc_29 => ?_)
      · have h := ifp cc_29 h
        refine Y_iinc (pc := 47) hC (v := x1 + 1) (L' := [(1, .int (x1 + 1)), (2, .int (V 32 x1.toNatClampNeg)), (0, .ref (C.a 11))]) d_Me_firstMisplacedJump_47 2 rfl rfl (by decide) rfl ?_
        refine Y_goto (pc := 50) hC 2 d_Me_firstMisplacedJump_50 rfl ?_
        refine Y_sub (pc := 2) [2, 0] rfl ?_
        exact ih _ _ h
      · have h := ifn cc_29 h
        refine Y_aload_n (pc := 32) hC d_Me_firstMisplacedJump_32 rfl 1 rfl ?_
        refine Y_getR (pc := 33) hC sc_11 fl_Me_23 rfl d_Me_firstMisplacedJump_33 ?_
        refine Y_iload_n (pc := 36) hC d_Me_firstMisplacedJump_36 rfl 0 rfl ?_
        obtain ⟨r2, V2, hc_r2, h⟩ := cl_some h
        refine Y_callV (pc := 37) hC (c_Is_targetOf C.l C.D C.cI C.cZ C.a hc_r2) (fun q => nomatch q) sc_10 cls_Is ml_Me_41 mv_Is_targetOf (by decide) (Nat.le_of_ble_eq_true rfl) rfl d_Me_firstMisplacedJump_37 ?_
        refine Y_iconst (pc := 40) hC d_Me_firstMisplacedJump_40 ki_4 ?_
        refine Y_irem (pc := 41) hC d_Me_firstMisplacedJump_41 (by decide) ?_
        refine Y_if_eq (pc := 42) hC 47 d_Me_firstMisplacedJump_42 rfl (fun cc_42 => ?_) (fun cc_42 => ?_)
        · have h := ifp cc_42 h
          refine Y_iinc (pc := 47) hC (v := x1 + 1) (L' := [(1, .int (x1 + 1)), (2, .int (V 32 x1.toNatClampNeg)), (0, .ref (C.a 11))]) d_Me_firstMisplacedJump_47 2 rfl rfl (by decide) rfl ?_
          refine Y_goto (pc := 50) hC 2 d_Me_firstMisplacedJump_50 rfl ?_
          refine Y_sub (pc := 2) [2, 0] rfl ?_
          exact ih _ _ h
        · have h := ifn cc_42 h
          refine Y_sub (pc := 45) [0] rfl ?_
          exact hk45 _ _ h
set_option maxHeartbeats 4000000 in
set_option maxRecDepth 100000 in
theorem c_Me_firstMisplacedJump (l : Launch) (D : va_G) (cI cZ : ClassId) (a : Nat → Nat) {V : Sto} {r : Int32} {V' : Sto} (h : f_Me_firstMisplacedJump V = some (r, V')) : YMi l D cI cZ a shpC y_Me_firstMisplacedJump b_Me_firstMisplacedJump 3 (some .int) rm_Me_firstMisplacedJump false [.ref (a 11)] V r V' := by
  refine YMi_of (by decide) (Nat.le_of_ble_eq_true rfl) ?_
  intro C hl hDD hcI hcZ ha hC hw hE
  subst hl hDD hcI hcZ ha
  show Y C shpC 3 0 [(0, .ref (C.a 11))] [] V
  rw [f_Me_firstMisplacedJump] at h
  refine Y_iconst (pc := 0) hC d_Me_firstMisplacedJump_0 ki_0 ?_
  refine Y_istore_n (pc := 1) hC (L' := [(1, .int 0), (0, .ref (C.a 11))]) d_Me_firstMisplacedJump_1 rfl (by decide) rfl ?_
  refine Y_sub (pc := 2) [1, 0] rfl ?_
  refine ylp_Me_firstMisplacedJump_2 hC hE (fun y1 V3 h => ?_) (fun V4 h => ?_) FU _ _ h
  · have h := h
    refine Y_iload_n (pc := 45) hC d_Me_firstMisplacedJump_45 rfl 0 rfl ?_
    exact Y_iret (pc := 46) hC hE d_Me_firstMisplacedJump_46 h
  · have h := h
    refine Y_iconst (pc := 53) hC d_Me_firstMisplacedJump_53 ki_m1 ?_
    exact Y_iret (pc := 54) hC hE d_Me_firstMisplacedJump_54 h
set_option maxHeartbeats 4000000 in
set_option maxRecDepth 100000 in
theorem c_Ly_linksPlaces (l : Launch) (D : va_G) (cI cZ : ClassId) (a : Nat → Nat) {V : Sto} {p1 : Int32} {r : Int32} {V' : Sto} (h : f_Ly_linksPlaces V p1 = some (r, V')) : YMi l D cI cZ a shpC y_Ly_linksPlaces b_Ly_linksPlaces 4 (some .boolean) rm_Ly_linksPlaces true [.ref (a 0), .int p1] V r V' := by
  refine YMi_of (by decide) (Nat.le_of_ble_eq_true rfl) ?_
  intro C hl hDD hcI hcZ ha hC hw hE
  subst hl hDD hcI hcZ ha
  show Y C shpC 4 0 [(0, .ref (C.a 0)), (1, .int p1)] [] V
  have hw := hw rfl
  rw [f_Ly_linksPlaces] at h
  refine Y_aload_n (pc := 0) hC d_Ly_linksPlaces_0 rfl 0 rfl ?_
  refine Y_getR (pc := 1) hC sc_0 fl_Ly_67 rfl d_Ly_linksPlaces_1 ?_
  refine Y_aload_n (pc := 4) hC d_Ly_linksPlaces_4 rfl 0 rfl ?_
  refine Y_getI (pc := 5) hC sc_0 fl_Ly_223 rfl d_Ly_linksPlaces_5 ?_
  obtain ⟨r1, V1, hc_r1, h⟩ := cl_some h
  refine Y_callVv (pc := 8) hC (c_Fo_settle C.l C.D C.cI C.cZ C.a hc_r1) (fun _ => hw) sc_8 cls_Fo ml_Ly_362 mv_Fo_settle (by decide) (Nat.le_of_ble_eq_true rfl) rfl d_Ly_linksPlaces_8 ?_
  refine Y_aload_n (pc := 11) hC d_Ly_linksPlaces_11 rfl 0 rfl ?_
  refine Y_getR (pc := 12) hC sc_0 fl_Ly_76 rfl d_Ly_linksPlaces_12 ?_
  refine Y_iload_n (pc := 15) hC d_Ly_linksPlaces_15 rfl 1 rfl ?_
  obtain ⟨r2, V2, hc_r2, h⟩ := cl_some h
  refine Y_callVv (pc := 16) hC (c_La_begin C.l C.D C.cI C.cZ C.a hc_r2) (fun _ => hw) sc_9 cls_La ml_Ly_365 mv_La_begin (by decide) (Nat.le_of_ble_eq_true rfl) rfl d_Ly_linksPlaces_16 ?_
  refine Y_aload_n (pc := 19) hC d_Ly_linksPlaces_19 rfl 0 rfl ?_
  refine Y_getR (pc := 20) hC sc_0 fl_Ly_85 rfl d_Ly_linksPlaces_20 ?_
  obtain ⟨r3, V3, hc_r3, h⟩ := cl_some h
  refine Y_callV (pc := 23) hC (c_Is_settle C.l C.D C.cI C.cZ C.a hc_r3) (fun _ => hw) sc_10 cls_Is ml_Ly_368 mv_Is_settle (by decide) (Nat.le_of_ble_eq_true rfl) rfl d_Ly_linksPlaces_23 ?_
  refine Y_if_ne (pc := 26) hC 37 d_Ly_linksPlaces_26 rfl (fun cc_26 => ?_) (fun cc_26 => ?_)
  · have h := ifn cc_26 h
    refine Y_aload_n (pc := 37) hC d_Ly_linksPlaces_37 rfl 0 rfl ?_
    refine Y_getR (pc := 38) hC sc_0 fl_Ly_94 rfl d_Ly_linksPlaces_38 ?_
    obtain ⟨r4, V4, hc_r4, h⟩ := cl_some h
    refine Y_callV (pc := 41) hC (c_Me_firstFar C.l C.D C.cI C.cZ C.a hc_r4) (fun q => nomatch q) sc_11 cls_Me ml_Ly_370 mv_Me_firstFar (by decide) (Nat.le_of_ble_eq_true rfl) rfl d_Ly_linksPlaces_41 ?_
    refine Y_istore_n (pc := 44) hC (L' := [(2, .int r4), (0, .ref (C.a 0)), (1, .int p1)]) d_Ly_linksPlaces_44 rfl (by decide) rfl ?_
    refine Y_iload_n (pc := 45) hC d_Ly_linksPlaces_45 rfl 0 rfl ?_
    refine Y_iconst (pc := 46) hC d_Ly_linksPlaces_46 ki_m1 ?_
    refine Y_icmp_eq (pc := 47) hC 58 d_Ly_linksPlaces_47 rfl (fun cc_47 => ?_) (fun cc_47 => ?_)
    · have h := ifp cc_47 h
      refine Y_aload_n (pc := 58) hC d_Ly_linksPlaces_58 rfl 1 rfl ?_
      refine Y_getR (pc := 59) hC sc_0 fl_Ly_94 rfl d_Ly_linksPlaces_59 ?_
      obtain ⟨r5, V5, hc_r5, h⟩ := cl_some h
      refine Y_callV (pc := 62) hC (c_Me_firstMisplacedJump C.l C.D C.cI C.cZ C.a hc_r5) (fun q => nomatch q) sc_11 cls_Me ml_Ly_373 mv_Me_firstMisplacedJump (by decide) (Nat.le_of_ble_eq_true rfl) rfl d_Ly_linksPlaces_62 ?_
      refine Y_istore_n (pc := 65) hC (L' := [(3, .int r5), (2, .int r4), (0, .ref (C.a 0)), (1, .int p1)]) d_Ly_linksPlaces_65 rfl (by decide) rfl ?_
      refine Y_iload_n (pc := 66) hC d_Ly_linksPlaces_66 rfl 0 rfl ?_
      refine Y_iconst (pc := 67) hC d_Ly_linksPlaces_67 ki_m1 ?_
      refine Y_icmp_eq (pc := 68) hC 79 d_Ly_linksPlaces_68 rfl (fun cc_68 => ?_) (fun cc_68 => ?_)
      · have h := ifp cc_68 h
        refine Y_iconst (pc := 79) hC d_Ly_linksPlaces_79 ki_1 ?_
        exact Y_zret (pc := 80) hC hE d_Ly_linksPlaces_80 rfl h
      · have h := ifn cc_68 h
        refine Y_aload_n (pc := 71) hC d_Ly_linksPlaces_71 rfl 2 rfl ?_
        refine Y_iconst (pc := 72) hC d_Ly_linksPlaces_72 ki_5 ?_
        refine Y_iconst (pc := 73) hC d_Ly_linksPlaces_73 ki_m1 ?_
        refine Y_iload_n (pc := 74) hC d_Ly_linksPlaces_74 rfl 0 rfl ?_
        obtain ⟨r6, V6, hc_r6, h⟩ := cl_some h
        refine Y_callV (pc := 75) hC (c_Ly_fails C.l C.D C.cI C.cZ C.a hc_r6) (fun _ => hw) sc_0 cls_Ly ml_Ly_341 mv_Ly_fails (by decide) (Nat.le_of_ble_eq_true rfl) rfl d_Ly_linksPlaces_75 ?_
        obtain ⟨hbb, h⟩ := ck_some h
        exact Y_zret (pc := 78) hC hE d_Ly_linksPlaces_78 hbb h
    · have h := ifn cc_47 h
      refine Y_aload_n (pc := 50) hC d_Ly_linksPlaces_50 rfl 1 rfl ?_
      refine Y_iconst (pc := 51) hC d_Ly_linksPlaces_51 ki_3 ?_
      refine Y_iconst (pc := 52) hC d_Ly_linksPlaces_52 ki_m1 ?_
      refine Y_iload_n (pc := 53) hC d_Ly_linksPlaces_53 rfl 0 rfl ?_
      obtain ⟨r7, V7, hc_r7, h⟩ := cl_some h
      refine Y_callV (pc := 54) hC (c_Ly_fails C.l C.D C.cI C.cZ C.a hc_r7) (fun _ => hw) sc_0 cls_Ly ml_Ly_341 mv_Ly_fails (by decide) (Nat.le_of_ble_eq_true rfl) rfl d_Ly_linksPlaces_54 ?_
      obtain ⟨hbb, h⟩ := ck_some h
      exact Y_zret (pc := 57) hC hE d_Ly_linksPlaces_57 hbb h
  · have h := ifp cc_26 h
    refine Y_aload_n (pc := 29) hC d_Ly_linksPlaces_29 rfl 0 rfl ?_
    refine Y_iconst (pc := 30) hC d_Ly_linksPlaces_30 ki_4 ?_
    refine Y_iconst (pc := 31) hC d_Ly_linksPlaces_31 ki_m1 ?_
    refine Y_iconst (pc := 32) hC d_Ly_linksPlaces_32 ki_m1 ?_
    obtain ⟨r8, V8, hc_r8, h⟩ := cl_some h
    refine Y_callV (pc := 33) hC (c_Ly_fails C.l C.D C.cI C.cZ C.a hc_r8) (fun _ => hw) sc_0 cls_Ly ml_Ly_341 mv_Ly_fails (by decide) (Nat.le_of_ble_eq_true rfl) rfl d_Ly_linksPlaces_33 ?_
    obtain ⟨hbb, h⟩ := ck_some h
    exact Y_zret (pc := 36) hC hE d_Ly_linksPlaces_36 hbb h
set_option maxHeartbeats 4000000 in
set_option maxRecDepth 100000 in
theorem c_Ly_isName (l : Launch) (D : va_G) (cI cZ : ClassId) (a : Nat → Nat) {V : Sto} {p0 : Int32} {r : Int32} {V' : Sto} (h : f_Ly_isName V p0 = some (r, V')) : YMi l D cI cZ a shpC y_Ly_isName b_Ly_isName 1 (some .boolean) rm_Ly_isName false [.int p0] V r V' := by
  refine YMi_of (by decide) (Nat.le_of_ble_eq_true rfl) ?_
  intro C hl hDD hcI hcZ ha hC hw hE
  subst hl hDD hcI hcZ ha
  show Y C shpC 1 0 [(0, .int p0)] [] V
  rw [f_Ly_isName] at h
  refine Y_iload_n (pc := 0) hC d_Ly_isName_0 rfl 0 rfl ?_
  refine Y_if_lt (pc := 1) hC 15 d_Ly_isName_1 rfl (fun cc_1 => ?_) (fun cc_1 => ?_)
  · have h := ifp cc_1 h
    refine Y_iconst (pc := 15) hC d_Ly_isName_15 ki_0 ?_
    exact Y_zret (pc := 16) hC hE d_Ly_isName_16 rfl h
  · have h := ifn cc_1 h
    refine Y_iload_n (pc := 4) hC d_Ly_isName_4 rfl 0 rfl ?_
    refine Y_sipush (pc := 5) hC d_Ly_isName_5 ks_200 ?_
    refine Y_icmp_ge (pc := 8) hC 15 d_Ly_isName_8 rfl (fun cc_8 => ?_) (fun cc_8 => ?_)
    · have h := ifp cc_8 h
      refine Y_iconst (pc := 15) hC d_Ly_isName_15 ki_0 ?_
      exact Y_zret (pc := 16) hC hE d_Ly_isName_16 rfl h
    · have h := ifn cc_8 h
      refine Y_iconst (pc := 11) hC d_Ly_isName_11 ki_1 ?_
      refine Y_goto (pc := 12) hC 16 d_Ly_isName_12 rfl ?_
      exact Y_zret (pc := 16) hC hE d_Ly_isName_16 rfl h
set_option maxHeartbeats 4000000 in
set_option maxRecDepth 100000 in
theorem c_Ly_isSize (l : Launch) (D : va_G) (cI cZ : ClassId) (a : Nat → Nat) {V : Sto} {p0 : Int32} {p1 : Int32} {r : Int32} {V' : Sto} (h : f_Ly_isSize V p0 p1 = some (r, V')) : YMi l D cI cZ a shpC y_Ly_isSize b_Ly_isSize 2 (some .boolean) rm_Ly_isSize false [.int p0, .int p1] V r V' := by
  refine YMi_of (by decide) (Nat.le_of_ble_eq_true rfl) ?_
  intro C hl hDD hcI hcZ ha hC hw hE
  subst hl hDD hcI hcZ ha
  show Y C shpC 2 0 [(0, .int p0), (1, .int p1)] [] V
  rw [f_Ly_isSize] at h
  refine Y_iload_n (pc := 0) hC d_Ly_isSize_0 rfl 0 rfl ?_
  refine Y_iload_n (pc := 1) hC d_Ly_isSize_1 rfl 1 rfl ?_
  refine Y_icmp_lt (pc := 2) hC 22 d_Ly_isSize_2 rfl (fun cc_2 => ?_) (fun cc_2 => ?_)
  · have h := ifp cc_2 h
    refine Y_iconst (pc := 22) hC d_Ly_isSize_22 ki_0 ?_
    exact Y_zret (pc := 23) hC hE d_Ly_isSize_23 rfl h
  · have h := ifn cc_2 h
    refine Y_iload_n (pc := 5) hC d_Ly_isSize_5 rfl 0 rfl ?_
    refine Y_sipush (pc := 6) hC d_Ly_isSize_6 ks_8192 ?_
    refine Y_icmp_gt (pc := 9) hC 22 d_Ly_isSize_9 rfl (fun cc_9 => ?_) (fun cc_9 => ?_)
    · have h := ifp cc_9 h
      refine Y_iconst (pc := 22) hC d_Ly_isSize_22 ki_0 ?_
      exact Y_zret (pc := 23) hC hE d_Ly_isSize_23 rfl h
    · have h := ifn cc_9 h
      refine Y_iload_n (pc := 12) hC d_Ly_isSize_12 rfl 0 rfl ?_
      refine Y_iconst (pc := 13) hC d_Ly_isSize_13 ki_4 ?_
      refine Y_irem (pc := 14) hC d_Ly_isSize_14 (by decide) ?_
      refine Y_if_ne (pc := 15) hC 22 d_Ly_isSize_15 rfl (fun cc_15 => ?_) (fun cc_15 => ?_)
      · have h := ifn cc_15 h
        refine Y_iconst (pc := 22) hC d_Ly_isSize_22 ki_0 ?_
        exact Y_zret (pc := 23) hC hE d_Ly_isSize_23 rfl h
      · have h := ifp cc_15 h
        refine Y_iconst (pc := 18) hC d_Ly_isSize_18 ki_1 ?_
        refine Y_goto (pc := 19) hC 23 d_Ly_isSize_19 rfl ?_
        exact Y_zret (pc := 23) hC hE d_Ly_isSize_23 rfl h
set_option maxHeartbeats 4000000 in
set_option maxRecDepth 100000 in
theorem c_bitCount (l : Launch) (D : va_G) (cI cZ : ClassId) (a : Nat → Nat) {V : Sto} {p0 : Int32} {r : Int32} {V' : Sto} (h : f_bitCount V p0 = some (r, V')) : YMi l D cI cZ a shpC y_bitCount b_bitCount 1 (some .int) rm_bitCount false [.int p0] V r V' := by
  refine YMi_of (by decide) (Nat.le_of_ble_eq_true rfl) ?_
  intro C hl hDD hcI hcZ ha hC hw hE
  subst hl hDD hcI hcZ ha
  show Y C shpC 1 0 [(0, .int p0)] [] V
  rw [f_bitCount] at h
  refine Y_iload_n (pc := 0) hC d_bitCount_0 rfl 0 rfl ?_
  refine Y_iload_n (pc := 1) hC d_bitCount_1 rfl 0 rfl ?_
  refine Y_iconst (pc := 2) hC d_bitCount_2 ki_1 ?_
  refine Y_iushr (pc := 3) hC d_bitCount_3 rfl ?_
  refine Y_ldcw (pc := 4) hC kc_Integer_265 d_bitCount_4 ?_
  refine Y_iand (pc := 7) hC d_bitCount_7 ?_
  refine Y_isub (pc := 8) hC d_bitCount_8 ?_
  refine Y_istore_n (pc := 9) hC (L' := [(0, .int (p0 - (((p0.toUInt32 >>> (Int32.toUInt32 1 &&& Int32.toUInt32 31)).toInt32) &&& 1431655765)))]) d_bitCount_9 rfl (by decide) rfl ?_
  refine Y_iload_n (pc := 10) hC d_bitCount_10 rfl 0 rfl ?_
  refine Y_ldcw (pc := 11) hC kc_Integer_266 d_bitCount_11 ?_
  refine Y_iand (pc := 14) hC d_bitCount_14 ?_
  refine Y_iload_n (pc := 15) hC d_bitCount_15 rfl 0 rfl ?_
  refine Y_iconst (pc := 16) hC d_bitCount_16 ki_2 ?_
  refine Y_iushr (pc := 17) hC d_bitCount_17 rfl ?_
  refine Y_ldcw (pc := 18) hC kc_Integer_266 d_bitCount_18 ?_
  refine Y_iand (pc := 21) hC d_bitCount_21 ?_
  refine Y_iadd (pc := 22) hC d_bitCount_22 ?_
  refine Y_istore_n (pc := 23) hC (L' := [(0, .int (((p0 - (((p0.toUInt32 >>> (Int32.toUInt32 1 &&& Int32.toUInt32 31)).toInt32) &&& 1431655765)) &&& 858993459) + ((((p0 - (((p0.toUInt32 >>> (Int32.toUInt32 1 &&& Int32.toUInt32 31)).toInt32) &&& 1431655765)).toUInt32 >>> (Int32.toUInt32 2 &&& Int32.toUInt32 31)).toInt32) &&& 858993459)))]) d_bitCount_23 rfl (by decide) rfl ?_
  refine Y_iload_n (pc := 24) hC d_bitCount_24 rfl 0 rfl ?_
  refine Y_iload_n (pc := 25) hC d_bitCount_25 rfl 0 rfl ?_
  refine Y_iconst (pc := 26) hC d_bitCount_26 ki_4 ?_
  refine Y_iushr (pc := 27) hC d_bitCount_27 rfl ?_
  refine Y_iadd (pc := 28) hC d_bitCount_28 ?_
  refine Y_ldcw (pc := 29) hC kc_Integer_267 d_bitCount_29 ?_
  refine Y_iand (pc := 32) hC d_bitCount_32 ?_
  refine Y_istore_n (pc := 33) hC (L' := [(0, .int (((((p0 - (((p0.toUInt32 >>> (Int32.toUInt32 1 &&& Int32.toUInt32 31)).toInt32) &&& 1431655765)) &&& 858993459) + ((((p0 - (((p0.toUInt32 >>> (Int32.toUInt32 1 &&& Int32.toUInt32 31)).toInt32) &&& 1431655765)).toUInt32 >>> (Int32.toUInt32 2 &&& Int32.toUInt32 31)).toInt32) &&& 858993459)) + (((((p0 - (((p0.toUInt32 >>> (Int32.toUInt32 1 &&& Int32.toUInt32 31)).toInt32) &&& 1431655765)) &&& 858993459) + ((((p0 - (((p0.toUInt32 >>> (Int32.toUInt32 1 &&& Int32.toUInt32 31)).toInt32) &&& 1431655765)).toUInt32 >>> (Int32.toUInt32 2 &&& Int32.toUInt32 31)).toInt32) &&& 858993459)).toUInt32 >>> (Int32.toUInt32 4 &&& Int32.toUInt32 31)).toInt32)) &&& 252645135))]) d_bitCount_33 rfl (by decide) rfl ?_
  refine Y_iload_n (pc := 34) hC d_bitCount_34 rfl 0 rfl ?_
  refine Y_iload_n (pc := 35) hC d_bitCount_35 rfl 0 rfl ?_
  refine Y_bipush (pc := 36) hC d_bitCount_36 kb_8 ?_
  refine Y_iushr (pc := 38) hC d_bitCount_38 rfl ?_
  refine Y_iadd (pc := 39) hC d_bitCount_39 ?_
  refine Y_istore_n (pc := 40) hC (L' := [(0, .int ((((((p0 - (((p0.toUInt32 >>> (Int32.toUInt32 1 &&& Int32.toUInt32 31)).toInt32) &&& 1431655765)) &&& 858993459) + ((((p0 - (((p0.toUInt32 >>> (Int32.toUInt32 1 &&& Int32.toUInt32 31)).toInt32) &&& 1431655765)).toUInt32 >>> (Int32.toUInt32 2 &&& Int32.toUInt32 31)).toInt32) &&& 858993459)) + (((((p0 - (((p0.toUInt32 >>> (Int32.toUInt32 1 &&& Int32.toUInt32 31)).toInt32) &&& 1431655765)) &&& 858993459) + ((((p0 - (((p0.toUInt32 >>> (Int32.toUInt32 1 &&& Int32.toUInt32 31)).toInt32) &&& 1431655765)).toUInt32 >>> (Int32.toUInt32 2 &&& Int32.toUInt32 31)).toInt32) &&& 858993459)).toUInt32 >>> (Int32.toUInt32 4 &&& Int32.toUInt32 31)).toInt32)) &&& 252645135) + (((((((p0 - (((p0.toUInt32 >>> (Int32.toUInt32 1 &&& Int32.toUInt32 31)).toInt32) &&& 1431655765)) &&& 858993459) + ((((p0 - (((p0.toUInt32 >>> (Int32.toUInt32 1 &&& Int32.toUInt32 31)).toInt32) &&& 1431655765)).toUInt32 >>> (Int32.toUInt32 2 &&& Int32.toUInt32 31)).toInt32) &&& 858993459)) + (((((p0 - (((p0.toUInt32 >>> (Int32.toUInt32 1 &&& Int32.toUInt32 31)).toInt32) &&& 1431655765)) &&& 858993459) + ((((p0 - (((p0.toUInt32 >>> (Int32.toUInt32 1 &&& Int32.toUInt32 31)).toInt32) &&& 1431655765)).toUInt32 >>> (Int32.toUInt32 2 &&& Int32.toUInt32 31)).toInt32) &&& 858993459)).toUInt32 >>> (Int32.toUInt32 4 &&& Int32.toUInt32 31)).toInt32)) &&& 252645135).toUInt32 >>> (Int32.toUInt32 8 &&& Int32.toUInt32 31)).toInt32)))]) d_bitCount_40 rfl (by decide) rfl ?_
  refine Y_iload_n (pc := 41) hC d_bitCount_41 rfl 0 rfl ?_
  refine Y_iload_n (pc := 42) hC d_bitCount_42 rfl 0 rfl ?_
  refine Y_bipush (pc := 43) hC d_bitCount_43 kb_16 ?_
  refine Y_iushr (pc := 45) hC d_bitCount_45 rfl ?_
  refine Y_iadd (pc := 46) hC d_bitCount_46 ?_
  refine Y_istore_n (pc := 47) hC (L' := [(0, .int (((((((p0 - (((p0.toUInt32 >>> (Int32.toUInt32 1 &&& Int32.toUInt32 31)).toInt32) &&& 1431655765)) &&& 858993459) + ((((p0 - (((p0.toUInt32 >>> (Int32.toUInt32 1 &&& Int32.toUInt32 31)).toInt32) &&& 1431655765)).toUInt32 >>> (Int32.toUInt32 2 &&& Int32.toUInt32 31)).toInt32) &&& 858993459)) + (((((p0 - (((p0.toUInt32 >>> (Int32.toUInt32 1 &&& Int32.toUInt32 31)).toInt32) &&& 1431655765)) &&& 858993459) + ((((p0 - (((p0.toUInt32 >>> (Int32.toUInt32 1 &&& Int32.toUInt32 31)).toInt32) &&& 1431655765)).toUInt32 >>> (Int32.toUInt32 2 &&& Int32.toUInt32 31)).toInt32) &&& 858993459)).toUInt32 >>> (Int32.toUInt32 4 &&& Int32.toUInt32 31)).toInt32)) &&& 252645135) + (((((((p0 - (((p0.toUInt32 >>> (Int32.toUInt32 1 &&& Int32.toUInt32 31)).toInt32) &&& 1431655765)) &&& 858993459) + ((((p0 - (((p0.toUInt32 >>> (Int32.toUInt32 1 &&& Int32.toUInt32 31)).toInt32) &&& 1431655765)).toUInt32 >>> (Int32.toUInt32 2 &&& Int32.toUInt32 31)).toInt32) &&& 858993459)) + (((((p0 - (((p0.toUInt32 >>> (Int32.toUInt32 1 &&& Int32.toUInt32 31)).toInt32) &&& 1431655765)) &&& 858993459) + ((((p0 - (((p0.toUInt32 >>> (Int32.toUInt32 1 &&& Int32.toUInt32 31)).toInt32) &&& 1431655765)).toUInt32 >>> (Int32.toUInt32 2 &&& Int32.toUInt32 31)).toInt32) &&& 858993459)).toUInt32 >>> (Int32.toUInt32 4 &&& Int32.toUInt32 31)).toInt32)) &&& 252645135).toUInt32 >>> (Int32.toUInt32 8 &&& Int32.toUInt32 31)).toInt32)) + ((((((((p0 - (((p0.toUInt32 >>> (Int32.toUInt32 1 &&& Int32.toUInt32 31)).toInt32) &&& 1431655765)) &&& 858993459) + ((((p0 - (((p0.toUInt32 >>> (Int32.toUInt32 1 &&& Int32.toUInt32 31)).toInt32) &&& 1431655765)).toUInt32 >>> (Int32.toUInt32 2 &&& Int32.toUInt32 31)).toInt32) &&& 858993459)) + (((((p0 - (((p0.toUInt32 >>> (Int32.toUInt32 1 &&& Int32.toUInt32 31)).toInt32) &&& 1431655765)) &&& 858993459) + ((((p0 - (((p0.toUInt32 >>> (Int32.toUInt32 1 &&& Int32.toUInt32 31)).toInt32) &&& 1431655765)).toUInt32 >>> (Int32.toUInt32 2 &&& Int32.toUInt32 31)).toInt32) &&& 858993459)).toUInt32 >>> (Int32.toUInt32 4 &&& Int32.toUInt32 31)).toInt32)) &&& 252645135) + (((((((p0 - (((p0.toUInt32 >>> (Int32.toUInt32 1 &&& Int32.toUInt32 31)).toInt32) &&& 1431655765)) &&& 858993459) + ((((p0 - (((p0.toUInt32 >>> (Int32.toUInt32 1 &&& Int32.toUInt32 31)).toInt32) &&& 1431655765)).toUInt32 >>> (Int32.toUInt32 2 &&& Int32.toUInt32 31)).toInt32) &&& 858993459)) + (((((p0 - (((p0.toUInt32 >>> (Int32.toUInt32 1 &&& Int32.toUInt32 31)).toInt32) &&& 1431655765)) &&& 858993459) + ((((p0 - (((p0.toUInt32 >>> (Int32.toUInt32 1 &&& Int32.toUInt32 31)).toInt32) &&& 1431655765)).toUInt32 >>> (Int32.toUInt32 2 &&& Int32.toUInt32 31)).toInt32) &&& 858993459)).toUInt32 >>> (Int32.toUInt32 4 &&& Int32.toUInt32 31)).toInt32)) &&& 252645135).toUInt32 >>> (Int32.toUInt32 8 &&& Int32.toUInt32 31)).toInt32)).toUInt32 >>> (Int32.toUInt32 16 &&& Int32.toUInt32 31)).toInt32)))]) d_bitCount_47 rfl (by decide) rfl ?_
  refine Y_iload_n (pc := 48) hC d_bitCount_48 rfl 0 rfl ?_
  refine Y_bipush (pc := 49) hC d_bitCount_49 kb_63 ?_
  refine Y_iand (pc := 51) hC d_bitCount_51 ?_
  exact Y_iret (pc := 52) hC hE d_bitCount_52 h
set_option maxHeartbeats 4000000 in
set_option maxRecDepth 100000 in
theorem c_Ly_isAlignment (l : Launch) (D : va_G) (cI cZ : ClassId) (a : Nat → Nat) {V : Sto} {p0 : Int32} {r : Int32} {V' : Sto} (h : f_Ly_isAlignment V p0 = some (r, V')) : YMi l D cI cZ a shpC y_Ly_isAlignment b_Ly_isAlignment 1 (some .boolean) rm_Ly_isAlignment false [.int p0] V r V' := by
  refine YMi_of (by decide) (Nat.le_of_ble_eq_true rfl) ?_
  intro C hl hDD hcI hcZ ha hC hw hE
  subst hl hDD hcI hcZ ha
  show Y C shpC 1 0 [(0, .int p0)] [] V
  rw [f_Ly_isAlignment] at h
  refine Y_iload_n (pc := 0) hC d_Ly_isAlignment_0 rfl 0 rfl ?_
  refine Y_iconst (pc := 1) hC d_Ly_isAlignment_1 ki_4 ?_
  refine Y_icmp_lt (pc := 2) hC 24 d_Ly_isAlignment_2 rfl (fun cc_2 => ?_) (fun cc_2 => ?_)
  · have h := ifp cc_2 h
    refine Y_iconst (pc := 24) hC d_Ly_isAlignment_24 ki_0 ?_
    exact Y_zret (pc := 25) hC hE d_Ly_isAlignment_25 rfl h
  · have h := ifn cc_2 h
    refine Y_iload_n (pc := 5) hC d_Ly_isAlignment_5 rfl 0 rfl ?_
    refine Y_sipush (pc := 6) hC d_Ly_isAlignment_6 ks_4096 ?_
    refine Y_icmp_gt (pc := 9) hC 24 d_Ly_isAlignment_9 rfl (fun cc_9 => ?_) (fun cc_9 => ?_)
    · have h := ifp cc_9 h
      refine Y_iconst (pc := 24) hC d_Ly_isAlignment_24 ki_0 ?_
      exact Y_zret (pc := 25) hC hE d_Ly_isAlignment_25 rfl h
    · have h := ifn cc_9 h
      refine Y_iload_n (pc := 12) hC d_Ly_isAlignment_12 rfl 0 rfl ?_
      obtain ⟨r1, V1, hc_r1, h⟩ := cl_some h
      refine Y_callS (pc := 13) hC (c_bitCount C.l C.D C.cI C.cZ C.a hc_r1) (fun q => nomatch q) ml_Ly_376 ms_bitCount (by decide) (Nat.le_of_ble_eq_true rfl) rfl d_Ly_isAlignment_13 ?_
      refine Y_iconst (pc := 16) hC d_Ly_isAlignment_16 ki_1 ?_
      refine Y_icmp_ne (pc := 17) hC 24 d_Ly_isAlignment_17 rfl (fun cc_17 => ?_) (fun cc_17 => ?_)
      · have h := ifn cc_17 h
        refine Y_iconst (pc := 24) hC d_Ly_isAlignment_24 ki_0 ?_
        exact Y_zret (pc := 25) hC hE d_Ly_isAlignment_25 rfl h
      · have h := ifp cc_17 h
        refine Y_iconst (pc := 20) hC d_Ly_isAlignment_20 ki_1 ?_
        refine Y_goto (pc := 21) hC 25 d_Ly_isAlignment_21 rfl ?_
        exact Y_zret (pc := 25) hC hE d_Ly_isAlignment_25 rfl h
set_option maxHeartbeats 4000000 in
set_option maxRecDepth 100000 in
theorem c_Ly_isOther (l : Launch) (D : va_G) (cI cZ : ClassId) (a : Nat → Nat) {V : Sto} {p0 : Int32} {p1 : Int32} {p2 : Int32} {r : Int32} {V' : Sto} (h : f_Ly_isOther V p0 p1 p2 = some (r, V')) : YMi l D cI cZ a shpC y_Ly_isOther b_Ly_isOther 3 (some .boolean) rm_Ly_isOther false [.int p0, .int p1, .int p2] V r V' := by
  refine YMi_of (by decide) (Nat.le_of_ble_eq_true rfl) ?_
  intro C hl hDD hcI hcZ ha hC hw hE
  subst hl hDD hcI hcZ ha
  show Y C shpC 3 0 [(0, .int p0), (1, .int p1), (2, .int p2)] [] V
  rw [f_Ly_isOther] at h
  refine Y_iload_n (pc := 0) hC d_Ly_isOther_0 rfl 0 rfl ?_
  by_cases cs_1_0 : p0 = 0
  · have h := ifp cs_1_0 h
    refine Y_tableIn (pc := 1) hC (off := 27) 28 d_Ly_isOther_1 (by rw [cs_1_0]; decide) (by rw [cs_1_0]; decide) (by rw [cs_1_0]; try rfl) rfl ?_
    refine Y_iload_n (pc := 28) hC d_Ly_isOther_28 rfl 2 rfl ?_
    refine Y_iconst (pc := 29) hC d_Ly_isOther_29 ki_1 ?_
    refine Y_icmp_eq (pc := 30) hC 38 d_Ly_isOther_30 rfl (fun cc_30 => ?_) (fun cc_30 => ?_)
    · have h := ifp cc_30 h
      refine Y_iconst (pc := 38) hC d_Ly_isOther_38 ki_1 ?_
      refine Y_goto (pc := 39) hC 43 d_Ly_isOther_39 rfl ?_
      exact Y_zret (pc := 43) hC hE d_Ly_isOther_43 rfl h
    · have h := ifn cc_30 h
      refine Y_iload_n (pc := 33) hC d_Ly_isOther_33 rfl 2 rfl ?_
      refine Y_iconst (pc := 34) hC d_Ly_isOther_34 ki_2 ?_
      refine Y_icmp_ne (pc := 35) hC 42 d_Ly_isOther_35 rfl (fun cc_35 => ?_) (fun cc_35 => ?_)
      · have h := ifn cc_35 h
        refine Y_iconst (pc := 42) hC d_Ly_isOther_42 ki_0 ?_
        exact Y_zret (pc := 43) hC hE d_Ly_isOther_43 rfl h
      · have h := ifp cc_35 h
        refine Y_iconst (pc := 38) hC d_Ly_isOther_38 ki_1 ?_
        refine Y_goto (pc := 39) hC 43 d_Ly_isOther_39 rfl ?_
        exact Y_zret (pc := 43) hC hE d_Ly_isOther_43 rfl h
  · have h := ifn cs_1_0 h
    by_cases cs_1_1 : p0 = 1
    · have h := ifp cs_1_1 h
      refine Y_tableIn (pc := 1) hC (off := 43) 44 d_Ly_isOther_1 (by rw [cs_1_1]; decide) (by rw [cs_1_1]; decide) (by rw [cs_1_1]; try rfl) rfl ?_
      refine Y_iload_n (pc := 44) hC d_Ly_isOther_44 rfl 2 rfl ?_
      refine Y_if_lt (pc := 45) hC 57 d_Ly_isOther_45 rfl (fun cc_45 => ?_) (fun cc_45 => ?_)
      · have h := ifp cc_45 h
        refine Y_iconst (pc := 57) hC d_Ly_isOther_57 ki_0 ?_
        exact Y_zret (pc := 58) hC hE d_Ly_isOther_58 rfl h
      · have h := ifn cc_45 h
        refine Y_iload_n (pc := 48) hC d_Ly_isOther_48 rfl 2 rfl ?_
        refine Y_iconst (pc := 49) hC d_Ly_isOther_49 ki_2 ?_
        refine Y_icmp_gt (pc := 50) hC 57 d_Ly_isOther_50 rfl (fun cc_50 => ?_) (fun cc_50 => ?_)
        · have h := ifp cc_50 h
          refine Y_iconst (pc := 57) hC d_Ly_isOther_57 ki_0 ?_
          exact Y_zret (pc := 58) hC hE d_Ly_isOther_58 rfl h
        · have h := ifn cc_50 h
          refine Y_iconst (pc := 53) hC d_Ly_isOther_53 ki_1 ?_
          refine Y_goto (pc := 54) hC 58 d_Ly_isOther_54 rfl ?_
          exact Y_zret (pc := 58) hC hE d_Ly_isOther_58 rfl h
    · have h := ifn cs_1_1 h
      by_cases cs_1_2 : p0 = 2
      · have h := ifp cs_1_2 h
        refine Y_tableIn (pc := 1) hC (off := 58) 59 d_Ly_isOther_1 (by rw [cs_1_2]; decide) (by rw [cs_1_2]; decide) (by rw [cs_1_2]; try rfl) rfl ?_
        refine Y_iload_n (pc := 59) hC d_Ly_isOther_59 rfl 2 rfl ?_
        refine Y_iconst (pc := 60) hC d_Ly_isOther_60 ki_3 ?_
        refine Y_icmp_ne (pc := 61) hC 76 d_Ly_isOther_61 rfl (fun cc_61 => ?_) (fun cc_61 => ?_)
        · have h := ifn cc_61 h
          refine Y_iconst (pc := 76) hC d_Ly_isOther_76 ki_0 ?_
          exact Y_zret (pc := 77) hC hE d_Ly_isOther_77 rfl h
        · have h := ifp cc_61 h
          refine Y_iload_n (pc := 64) hC d_Ly_isOther_64 rfl 1 rfl ?_
          refine Y_iconst (pc := 65) hC d_Ly_isOther_65 ki_4 ?_
          obtain ⟨r1, V1, hc_r1, h⟩ := cl_some h
          refine Y_callS (pc := 66) hC (c_Ly_isSize C.l C.D C.cI C.cZ C.a hc_r1) (fun q => nomatch q) ml_Ly_136 ms_Ly_isSize (by decide) (Nat.le_of_ble_eq_true rfl) rfl d_Ly_isOther_66 ?_
          refine Y_if_eq (pc := 69) hC 76 d_Ly_isOther_69 rfl (fun cc_69 => ?_) (fun cc_69 => ?_)
          · have h := ifp cc_69 h
            refine Y_iconst (pc := 76) hC d_Ly_isOther_76 ki_0 ?_
            exact Y_zret (pc := 77) hC hE d_Ly_isOther_77 rfl h
          · have h := ifn cc_69 h
            refine Y_iconst (pc := 72) hC d_Ly_isOther_72 ki_1 ?_
            refine Y_goto (pc := 73) hC 77 d_Ly_isOther_73 rfl ?_
            exact Y_zret (pc := 77) hC hE d_Ly_isOther_77 rfl h
      · have h := ifn cs_1_2 h
        have cn_0 := i32_ne cs_1_0
        have cn_1 := i32_ne cs_1_1
        have cn_2 := i32_ne cs_1_2
        simp only [i32lit_0, i32lit_1, i32lit_2] at cn_0 cn_1 cn_2
        refine Y_tableOut (pc := 1) hC 78 d_Ly_isOther_1 (by omega) rfl ?_
        refine Y_iconst (pc := 78) hC d_Ly_isOther_78 ki_0 ?_
        exact Y_zret (pc := 79) hC hE d_Ly_isOther_79 rfl h
set_option maxHeartbeats 4000000 in
set_option maxRecDepth 100000 in
theorem c_Ly_formOfOther (l : Launch) (D : va_G) (cI cZ : ClassId) (a : Nat → Nat) {V : Sto} {p0 : Int32} {r : Int32} {V' : Sto} (h : f_Ly_formOfOther V p0 = some (r, V')) : YMi l D cI cZ a shpC y_Ly_formOfOther b_Ly_formOfOther 1 (some .int) rm_Ly_formOfOther false [.int p0] V r V' := by
  refine YMi_of (by decide) (Nat.le_of_ble_eq_true rfl) ?_
  intro C hl hDD hcI hcZ ha hC hw hE
  subst hl hDD hcI hcZ ha
  show Y C shpC 1 0 [(0, .int p0)] [] V
  rw [f_Ly_formOfOther] at h
  refine Y_iload_n (pc := 0) hC d_Ly_formOfOther_0 rfl 0 rfl ?_
  by_cases cs_1_0 : p0 = 1
  · have h := ifp cs_1_0 h
    refine Y_lookup (pc := 1) hC (off := 27) 28 d_Ly_formOfOther_1 (by decide) (by rw [cs_1_0]; try rfl) rfl ?_
    refine Y_iconst (pc := 28) hC d_Ly_formOfOther_28 ki_2 ?_
    exact Y_iret (pc := 29) hC hE d_Ly_formOfOther_29 h
  · have h := ifn cs_1_0 h
    by_cases cs_1_1 : p0 = 2
    · have h := ifp cs_1_1 h
      refine Y_lookup (pc := 1) hC (off := 29) 30 d_Ly_formOfOther_1 (by decide) (by rw [cs_1_1]; try rfl) rfl ?_
      refine Y_iconst (pc := 30) hC d_Ly_formOfOther_30 ki_3 ?_
      exact Y_iret (pc := 31) hC hE d_Ly_formOfOther_31 h
    · have h := ifn cs_1_1 h
      have cn_0 := i32_ne cs_1_0
      have cn_1 := i32_ne cs_1_1
      simp only [i32lit_1, i32lit_2] at cn_0 cn_1
      refine Y_lookup (pc := 1) hC (off := 31) 32 d_Ly_formOfOther_1 (by decide) (by simp [Op.lookupswitch.offset, Ne.symm cn_0, cn_0, Ne.symm cn_1, cn_1]) rfl ?_
      refine Y_iconst (pc := 32) hC d_Ly_formOfOther_32 ki_0 ?_
      exact Y_iret (pc := 33) hC hE d_Ly_formOfOther_33 h
set_option maxHeartbeats 4000000 in
set_option maxRecDepth 100000 in
theorem c_Un_has (l : Launch) (D : va_G) (cI cZ : ClassId) (a : Nat → Nat) {V : Sto} {p1 : Int32} {r : Int32} {V' : Sto} (h : f_Un_has V p1 = some (r, V')) : YMi l D cI cZ a shpC y_Un_has b_Un_has 2 (some .boolean) rm_Un_has false [.ref (a 1), .int p1] V r V' := by
  refine YMi_of (by decide) (Nat.le_of_ble_eq_true rfl) ?_
  intro C hl hDD hcI hcZ ha hC hw hE
  subst hl hDD hcI hcZ ha
  show Y C shpC 2 0 [(0, .ref (C.a 1)), (1, .int p1)] [] V
  rw [f_Un_has] at h
  refine Y_iload_n (pc := 0) hC d_Un_has_0 rfl 1 rfl ?_
  refine Y_if_lt (pc := 1) hC 16 d_Un_has_1 rfl (fun cc_1 => ?_) (fun cc_1 => ?_)
  · have h := ifp cc_1 h
    refine Y_iconst (pc := 16) hC d_Un_has_16 ki_0 ?_
    exact Y_zret (pc := 17) hC hE d_Un_has_17 rfl h
  · have h := ifn cc_1 h
    refine Y_iload_n (pc := 4) hC d_Un_has_4 rfl 1 rfl ?_
    refine Y_aload_n (pc := 5) hC d_Un_has_5 rfl 0 rfl ?_
    refine Y_getI (pc := 6) hC sc_1 fl_Un_19 rfl d_Un_has_6 ?_
    refine Y_icmp_ge (pc := 9) hC 16 d_Un_has_9 rfl (fun cc_9 => ?_) (fun cc_9 => ?_)
    · have h := ifp cc_9 h
      refine Y_iconst (pc := 16) hC d_Un_has_16 ki_0 ?_
      exact Y_zret (pc := 17) hC hE d_Un_has_17 rfl h
    · have h := ifn cc_9 h
      refine Y_iconst (pc := 12) hC d_Un_has_12 ki_1 ?_
      refine Y_goto (pc := 13) hC 17 d_Un_has_13 rfl ?_
      exact Y_zret (pc := 17) hC hE d_Un_has_17 rfl h
set_option maxHeartbeats 4000000 in
set_option maxRecDepth 100000 in
theorem c_Un_add (l : Launch) (D : va_G) (cI cZ : ClassId) (a : Nat → Nat) {V : Sto} {p1 : Int32} {r : Int32} {V' : Sto} (h : f_Un_add V p1 = some (r, V')) : YMi l D cI cZ a shpC y_Un_add b_Un_add 2 (some .int) rm_Un_add true [.ref (a 1), .int p1] V r V' := by
  refine YMi_of (by decide) (Nat.le_of_ble_eq_true rfl) ?_
  intro C hl hDD hcI hcZ ha hC hw hE
  subst hl hDD hcI hcZ ha
  show Y C shpC 2 0 [(0, .ref (C.a 1)), (1, .int p1)] [] V
  have hw := hw rfl
  rw [f_Un_add] at h
  refine Y_aload_n (pc := 0) hC d_Un_add_0 rfl 0 rfl ?_
  refine Y_getR (pc := 1) hC sc_1 fl_Un_9 rfl d_Un_add_1 ?_
  refine Y_aload_n (pc := 4) hC d_Un_add_4 rfl 0 rfl ?_
  refine Y_getI (pc := 5) hC sc_1 fl_Un_19 rfl d_Un_add_5 ?_
  refine Y_iload_n (pc := 8) hC d_Un_add_8 rfl 1 rfl ?_
  obtain ⟨hi, h⟩ := ck_some h
  obtain ⟨V1, hV1, h⟩ := nm_some h
  refine Y_iast (pc := 9) hC sc_12 (by decide) rfl hi hw rfl hV1 d_Un_add_9 ?_
  refine Y_aload_n (pc := 10) hC d_Un_add_10 rfl 0 rfl ?_
  refine Y_getR (pc := 11) hC sc_1 fl_Un_15 rfl d_Un_add_11 ?_
  refine Y_aload_n (pc := 14) hC d_Un_add_14 rfl 0 rfl ?_
  refine Y_getI (pc := 15) hC sc_1 fl_Un_19 rfl d_Un_add_15 ?_
  refine Y_iconst (pc := 18) hC d_Un_add_18 ki_0 ?_
  obtain ⟨hi, h⟩ := ck_some h
  obtain ⟨V2, hV2, h⟩ := nm_some h
  refine Y_zast (pc := 19) hC sc_13 (by decide) rfl hi hw rfl hV2 d_Un_add_19 ?_
  refine Y_aload_n (pc := 20) hC d_Un_add_20 rfl 0 rfl ?_
  refine Y_dup (pc := 21) hC d_Un_add_21 rfl ?_
  refine Y_getI (pc := 22) hC sc_1 fl_Un_19 rfl d_Un_add_22 ?_
  refine Y_dup_x1 (pc := 25) hC d_Un_add_25 rfl rfl ?_
  refine Y_iconst (pc := 26) hC d_Un_add_26 ki_1 ?_
  refine Y_iadd (pc := 27) hC d_Un_add_27 ?_
  obtain ⟨V3, hV3, h⟩ := nm_some h
  refine Y_put (pc := 28) hC sc_1 fl_Un_19 rfl (by decide) fp_Un ft_Un_0 rfl rfl hw hV3 d_Un_add_28 ?_
  exact Y_iret (pc := 31) hC hE d_Un_add_31 h
set_option maxHeartbeats 4000000 in
set_option maxRecDepth 100000 in
theorem ylp_Un_countIn_4 {C : YC} {r : Int32} {V' : Sto} {k30 : Int32 → Sto → RT} (hC : YF C R_Un b_Un_countIn 3 rm_Un_countIn) (hE : YEi C .int shpC r V') (hk30 : ∀ (y1 : Int32) (V1 : Sto), k30 y1 V1 = some (r, V') → Y C shpC 3 30 [(1, .int y1)] [] V1) : ∀ (n : Nat) (x1 x2 : Int32) (V : Sto), lp_Un_countIn_4 k30 n x1 x2 V = some (r, V') → Y C shpC 3 4 [(0, .ref (C.a 1)), (1, .int x1), (2, .int x2)] [] V := by
  intro n
  induction n with
  | zero =>
    intro x1 x2 V h
    rw [lp_Un_countIn_4] at h
    cases h
  | succ n ih =>
    intro x1 x2 V h
    rw [lp_Un_countIn_4] at h
    refine Y_iload_n (pc := 4) hC d_Un_countIn_4 rfl 2 rfl ?_
    refine Y_aload_n (pc := 5) hC d_Un_countIn_5 rfl 0 rfl ?_
    refine Y_getI (pc := 6) hC sc_1 fl_Un_19 rfl d_Un_countIn_6 ?_
    refine Y_icmp_ge (pc := 9) hC 30 d_Un_countIn_9 rfl (fun cc_9 => ?_) (fun cc_9 => ?_)
    · have h := ifp cc_9 h
      refine Y_sub (pc := 30) [1] rfl ?_
      exact hk30 _ _ h
    · have h := ifn cc_9 h
      refine Y_aload_n (pc := 12) hC d_Un_countIn_12 rfl 0 rfl ?_
      refine Y_getR (pc := 13) hC sc_1 fl_Un_15 rfl d_Un_countIn_13 ?_
      refine Y_iload_n (pc := 16) hC d_Un_countIn_16 rfl 2 rfl ?_
      obtain ⟨hi, h⟩ := ck_some h
      refine Y_zald (pc := 17) hC sc_13 rfl hi d_Un_countIn_17 ?_
      refine Y_if_eq (pc := 18) hC 24 d_Un_countIn_18 rfl (fun cc_18 => ?_) (fun cc_18 => ?_)
      · have h := ifp cc_18 h
        refine Y_iinc (pc := 24) hC (v := x2 + 1) (L' := [(2, .int (x2 + 1)), (0, .ref (C.a 1)), (1, .int x1)]) d_Un_countIn_24 2 rfl rfl (by decide) rfl ?_
        refine Y_goto (pc := 27) hC 4 d_Un_countIn_27 rfl ?_
        refine Y_sub (pc := 4) [1, 2, 0] rfl ?_
        exact ih _ _ _ h
      · have h := ifn cc_18 h
        refine Y_iinc (pc := 21) hC (v := x1 + 1) (L' := [(1, .int (x1 + 1)), (0, .ref (C.a 1)), (2, .int x2)]) d_Un_countIn_21 1 rfl rfl (by decide) rfl ?_
        refine Y_iinc (pc := 24) hC (v := x2 + 1) (L' := [(2, .int (x2 + 1)), (1, .int (x1 + 1)), (0, .ref (C.a 1))]) d_Un_countIn_24 2 rfl rfl (by decide) rfl ?_
        refine Y_goto (pc := 27) hC 4 d_Un_countIn_27 rfl ?_
        refine Y_sub (pc := 4) [2, 1, 0] rfl ?_
        exact ih _ _ _ h
set_option maxHeartbeats 4000000 in
set_option maxRecDepth 100000 in
theorem c_Un_countIn (l : Launch) (D : va_G) (cI cZ : ClassId) (a : Nat → Nat) {V : Sto} {r : Int32} {V' : Sto} (h : f_Un_countIn V = some (r, V')) : YMi l D cI cZ a shpC y_Un_countIn b_Un_countIn 3 (some .int) rm_Un_countIn false [.ref (a 1)] V r V' := by
  refine YMi_of (by decide) (Nat.le_of_ble_eq_true rfl) ?_
  intro C hl hDD hcI hcZ ha hC hw hE
  subst hl hDD hcI hcZ ha
  show Y C shpC 3 0 [(0, .ref (C.a 1))] [] V
  rw [f_Un_countIn] at h
  refine Y_iconst (pc := 0) hC d_Un_countIn_0 ki_0 ?_
  refine Y_istore_n (pc := 1) hC (L' := [(1, .int 0), (0, .ref (C.a 1))]) d_Un_countIn_1 rfl (by decide) rfl ?_
  refine Y_iconst (pc := 2) hC d_Un_countIn_2 ki_0 ?_
  refine Y_istore_n (pc := 3) hC (L' := [(2, .int 0), (1, .int 0), (0, .ref (C.a 1))]) d_Un_countIn_3 rfl (by decide) rfl ?_
  refine Y_sub (pc := 4) [2, 1, 0] rfl ?_
  refine ylp_Un_countIn_4 hC hE (fun y1 V1 h => ?_) FU _ _ _ h
  refine Y_iload_n (pc := 30) hC d_Un_countIn_30 rfl 0 rfl ?_
  exact Y_iret (pc := 31) hC hE d_Un_countIn_31 h
set_option maxHeartbeats 4000000 in
set_option maxRecDepth 100000 in
theorem c_Se_has (l : Launch) (D : va_G) (cI cZ : ClassId) (a : Nat → Nat) {V : Sto} {p1 : Int32} {r : Int32} {V' : Sto} (h : f_Se_has V p1 = some (r, V')) : YMi l D cI cZ a shpC y_Se_has b_Se_has 2 (some .boolean) rm_Se_has false [.ref (a 2), .int p1] V r V' := by
  refine YMi_of (by decide) (Nat.le_of_ble_eq_true rfl) ?_
  intro C hl hDD hcI hcZ ha hC hw hE
  subst hl hDD hcI hcZ ha
  show Y C shpC 2 0 [(0, .ref (C.a 2)), (1, .int p1)] [] V
  rw [f_Se_has] at h
  refine Y_iload_n (pc := 0) hC d_Se_has_0 rfl 1 rfl ?_
  refine Y_if_lt (pc := 1) hC 16 d_Se_has_1 rfl (fun cc_1 => ?_) (fun cc_1 => ?_)
  · have h := ifp cc_1 h
    refine Y_iconst (pc := 16) hC d_Se_has_16 ki_0 ?_
    exact Y_zret (pc := 17) hC hE d_Se_has_17 rfl h
  · have h := ifn cc_1 h
    refine Y_iload_n (pc := 4) hC d_Se_has_4 rfl 1 rfl ?_
    refine Y_aload_n (pc := 5) hC d_Se_has_5 rfl 0 rfl ?_
    refine Y_getI (pc := 6) hC sc_2 fl_Se_34 rfl d_Se_has_6 ?_
    refine Y_icmp_ge (pc := 9) hC 16 d_Se_has_9 rfl (fun cc_9 => ?_) (fun cc_9 => ?_)
    · have h := ifp cc_9 h
      refine Y_iconst (pc := 16) hC d_Se_has_16 ki_0 ?_
      exact Y_zret (pc := 17) hC hE d_Se_has_17 rfl h
    · have h := ifn cc_9 h
      refine Y_iconst (pc := 12) hC d_Se_has_12 ki_1 ?_
      refine Y_goto (pc := 13) hC 17 d_Se_has_13 rfl ?_
      exact Y_zret (pc := 17) hC hE d_Se_has_17 rfl h
set_option maxHeartbeats 4000000 in
set_option maxRecDepth 100000 in
theorem c_Se_hasWord (l : Launch) (D : va_G) (cI cZ : ClassId) (a : Nat → Nat) {V : Sto} {p1 : Int32} {p2 : Int32} {r : Int32} {V' : Sto} (h : f_Se_hasWord V p1 p2 = some (r, V')) : YMi l D cI cZ a shpC y_Se_hasWord b_Se_hasWord 3 (some .boolean) rm_Se_hasWord false [.ref (a 2), .int p1, .int p2] V r V' := by
  refine YMi_of (by decide) (Nat.le_of_ble_eq_true rfl) ?_
  intro C hl hDD hcI hcZ ha hC hw hE
  subst hl hDD hcI hcZ ha
  show Y C shpC 3 0 [(0, .ref (C.a 2)), (1, .int p1), (2, .int p2)] [] V
  rw [f_Se_hasWord] at h
  refine Y_aload_n (pc := 0) hC d_Se_hasWord_0 rfl 0 rfl ?_
  refine Y_iload_n (pc := 1) hC d_Se_hasWord_1 rfl 1 rfl ?_
  obtain ⟨r1, V1, hc_r1, h⟩ := cl_some h
  refine Y_callV (pc := 2) hC (c_Se_has C.l C.D C.cI C.cZ C.a hc_r1) (fun q => nomatch q) sc_2 cls_Se ml_Se_38 mv_Se_has (by decide) (Nat.le_of_ble_eq_true rfl) rfl d_Se_hasWord_2 ?_
  refine Y_if_eq (pc := 5) hC 42 d_Se_hasWord_5 rfl (fun cc_5 => ?_) (fun cc_5 => ?_)
  · have h := ifp cc_5 h
    refine Y_iconst (pc := 42) hC d_Se_hasWord_42 ki_0 ?_
    exact Y_zret (pc := 43) hC hE d_Se_hasWord_43 rfl h
  · have h := ifn cc_5 h
    refine Y_aload_n (pc := 8) hC d_Se_hasWord_8 rfl 0 rfl ?_
    refine Y_getR (pc := 9) hC sc_2 fl_Se_18 rfl d_Se_hasWord_9 ?_
    refine Y_iload_n (pc := 12) hC d_Se_hasWord_12 rfl 1 rfl ?_
    obtain ⟨hi, h⟩ := ck_some h
    refine Y_iald (pc := 13) hC sc_16 rfl hi d_Se_hasWord_13 ?_
    refine Y_iconst (pc := 14) hC d_Se_hasWord_14 ki_2 ?_
    refine Y_icmp_eq (pc := 15) hC 42 d_Se_hasWord_15 rfl (fun cc_15 => ?_) (fun cc_15 => ?_)
    · have h := ifp cc_15 h
      refine Y_iconst (pc := 42) hC d_Se_hasWord_42 ki_0 ?_
      exact Y_zret (pc := 43) hC hE d_Se_hasWord_43 rfl h
    · have h := ifn cc_15 h
      refine Y_iload_n (pc := 18) hC d_Se_hasWord_18 rfl 2 rfl ?_
      refine Y_if_lt (pc := 19) hC 42 d_Se_hasWord_19 rfl (fun cc_19 => ?_) (fun cc_19 => ?_)
      · have h := ifp cc_19 h
        refine Y_iconst (pc := 42) hC d_Se_hasWord_42 ki_0 ?_
        exact Y_zret (pc := 43) hC hE d_Se_hasWord_43 rfl h
      · have h := ifn cc_19 h
        refine Y_iload_n (pc := 22) hC d_Se_hasWord_22 rfl 2 rfl ?_
        refine Y_aload_n (pc := 23) hC d_Se_hasWord_23 rfl 0 rfl ?_
        refine Y_getR (pc := 24) hC sc_2 fl_Se_21 rfl d_Se_hasWord_24 ?_
        refine Y_iload_n (pc := 27) hC d_Se_hasWord_27 rfl 1 rfl ?_
        obtain ⟨hi, h⟩ := ck_some h
        refine Y_iald (pc := 28) hC sc_17 rfl hi d_Se_hasWord_28 ?_
        refine Y_icmp_ge (pc := 29) hC 42 d_Se_hasWord_29 rfl (fun cc_29 => ?_) (fun cc_29 => ?_)
        · have h := ifp cc_29 h
          refine Y_iconst (pc := 42) hC d_Se_hasWord_42 ki_0 ?_
          exact Y_zret (pc := 43) hC hE d_Se_hasWord_43 rfl h
        · have h := ifn cc_29 h
          refine Y_iload_n (pc := 32) hC d_Se_hasWord_32 rfl 2 rfl ?_
          refine Y_iconst (pc := 33) hC d_Se_hasWord_33 ki_4 ?_
          refine Y_irem (pc := 34) hC d_Se_hasWord_34 (by decide) ?_
          refine Y_if_ne (pc := 35) hC 42 d_Se_hasWord_35 rfl (fun cc_35 => ?_) (fun cc_35 => ?_)
          · have h := ifn cc_35 h
            refine Y_iconst (pc := 42) hC d_Se_hasWord_42 ki_0 ?_
            exact Y_zret (pc := 43) hC hE d_Se_hasWord_43 rfl h
          · have h := ifp cc_35 h
            refine Y_iconst (pc := 38) hC d_Se_hasWord_38 ki_1 ?_
            refine Y_goto (pc := 39) hC 43 d_Se_hasWord_39 rfl ?_
            exact Y_zret (pc := 43) hC hE d_Se_hasWord_43 rfl h
set_option maxHeartbeats 4000000 in
set_option maxRecDepth 100000 in
theorem c_Se_roomier (l : Launch) (D : va_G) (cI cZ : ClassId) (a : Nat → Nat) {V : Sto} {p0 : Int32} {r : Int32} {V' : Sto} (h : f_Se_roomier V p0 = some (r, V')) : YMi l D cI cZ a shpC y_Se_roomier b_Se_roomier 1 (some .int) rm_Se_roomier false [.int p0] V r V' := by
  refine YMi_of (by decide) (Nat.le_of_ble_eq_true rfl) ?_
  intro C hl hDD hcI hcZ ha hC hw hE
  subst hl hDD hcI hcZ ha
  show Y C shpC 1 0 [(0, .int p0)] [] V
  rw [f_Se_roomier] at h
  refine Y_iconst (pc := 0) hC d_Se_roomier_0 ki_2 ?_
  refine Y_iload_n (pc := 1) hC d_Se_roomier_1 rfl 0 rfl ?_
  refine Y_imul (pc := 2) hC d_Se_roomier_2 ?_
  refine Y_ldc (pc := 3) hC kc_Se_72 d_Se_roomier_3 ?_
  refine Y_mmin (pc := 5) hC mm_Se_73 (by decide) (Nat.le_of_ble_eq_true rfl) d_Se_roomier_5 ?_
  exact Y_iret (pc := 8) hC hE d_Se_roomier_8 h
set_option maxHeartbeats 4000000 in
set_option maxRecDepth 100000 in
theorem c_Se_write (l : Launch) (D : va_G) (cI cZ : ClassId) (a : Nat → Nat) {V : Sto} {p1 : Int32} {p2 : Int32} {p3 : Int32} {r : Int32} {V' : Sto} (h : f_Se_write V p1 p2 p3 = some (r, V')) : YMv l D cI cZ a shpC y_Se_write b_Se_write 4 rm_Se_write true [.ref (a 2), .int p1, .int p2, .int p3] V V' := by
  refine YMv_of (by decide) (Nat.le_of_ble_eq_true rfl) ?_
  intro C hl hDD hcI hcZ ha hC hw hE
  subst hl hDD hcI hcZ ha
  show Y C shpC 4 0 [(0, .ref (C.a 2)), (1, .int p1), (2, .int p2), (3, .int p3)] [] V
  have hw := hw rfl
  rw [f_Se_write] at h
  refine Y_aload_n (pc := 0) hC d_Se_write_0 rfl 0 rfl ?_
  refine Y_getR (pc := 1) hC sc_2 fl_Se_9 rfl d_Se_write_1 ?_
  refine Y_aload_n (pc := 4) hC d_Se_write_4 rfl 0 rfl ?_
  refine Y_getR (pc := 5) hC sc_2 fl_Se_27 rfl d_Se_write_5 ?_
  refine Y_iload_n (pc := 8) hC d_Se_write_8 rfl 1 rfl ?_
  obtain ⟨hi, h⟩ := ck_some h
  refine Y_iald (pc := 9) hC sc_19 rfl hi d_Se_write_9 ?_
  refine Y_iload_n (pc := 10) hC d_Se_write_10 rfl 2 rfl ?_
  refine Y_iconst (pc := 11) hC d_Se_write_11 ki_4 ?_
  refine Y_idiv (pc := 12) hC d_Se_write_12 (by decide) ?_
  refine Y_iadd (pc := 13) hC d_Se_write_13 ?_
  refine Y_iload_n (pc := 14) hC d_Se_write_14 rfl 3 rfl ?_
  obtain ⟨hi, h⟩ := ck_some h
  obtain ⟨V1, hV1, h⟩ := nm_some h
  refine Y_iast (pc := 15) hC sc_14 (by decide) rfl hi hw rfl hV1 d_Se_write_15 ?_
  exact Y_vret (pc := 16) hC hE d_Se_write_16 h
set_option maxHeartbeats 4000000 in
set_option maxRecDepth 100000 in
theorem c_Sy_has (l : Launch) (D : va_G) (cI cZ : ClassId) (a : Nat → Nat) {V : Sto} {p1 : Int32} {r : Int32} {V' : Sto} (h : f_Sy_has V p1 = some (r, V')) : YMi l D cI cZ a shpC y_Sy_has b_Sy_has 2 (some .boolean) rm_Sy_has false [.ref (a 3), .int p1] V r V' := by
  refine YMi_of (by decide) (Nat.le_of_ble_eq_true rfl) ?_
  intro C hl hDD hcI hcZ ha hC hw hE
  subst hl hDD hcI hcZ ha
  show Y C shpC 2 0 [(0, .ref (C.a 3)), (1, .int p1)] [] V
  rw [f_Sy_has] at h
  refine Y_iload_n (pc := 0) hC d_Sy_has_0 rfl 1 rfl ?_
  refine Y_if_lt (pc := 1) hC 16 d_Sy_has_1 rfl (fun cc_1 => ?_) (fun cc_1 => ?_)
  · have h := ifp cc_1 h
    refine Y_iconst (pc := 16) hC d_Sy_has_16 ki_0 ?_
    exact Y_zret (pc := 17) hC hE d_Sy_has_17 rfl h
  · have h := ifn cc_1 h
    refine Y_iload_n (pc := 4) hC d_Sy_has_4 rfl 1 rfl ?_
    refine Y_aload_n (pc := 5) hC d_Sy_has_5 rfl 0 rfl ?_
    refine Y_getI (pc := 6) hC sc_3 fl_Sy_30 rfl d_Sy_has_6 ?_
    refine Y_icmp_ge (pc := 9) hC 16 d_Sy_has_9 rfl (fun cc_9 => ?_) (fun cc_9 => ?_)
    · have h := ifp cc_9 h
      refine Y_iconst (pc := 16) hC d_Sy_has_16 ki_0 ?_
      exact Y_zret (pc := 17) hC hE d_Sy_has_17 rfl h
    · have h := ifn cc_9 h
      refine Y_iconst (pc := 12) hC d_Sy_has_12 ki_1 ?_
      refine Y_goto (pc := 13) hC 17 d_Sy_has_13 rfl ?_
      exact Y_zret (pc := 17) hC hE d_Sy_has_17 rfl h
set_option maxHeartbeats 4000000 in
set_option maxRecDepth 100000 in
theorem ylp_Sy_clashes_9 {C : YC} {r : Int32} {V' : Sto} {x1 : Int32} {x2 : Int32} {k50 : Sto → RT} {k58 : Sto → RT} (hC : YF C R_Sy b_Sy_clashes 5 rm_Sy_clashes) (hE : YEi C .boolean shpC r V') (hk50 : ∀ (V1 : Sto), k50 V1 = some (r, V') → Y C shpC 5 50 [] [] V1) (hk58 : ∀ (V1 : Sto), k58 V1 = some (r, V') → Y C shpC 5 58 [] [] V1) : ∀ (n : Nat) (x4 : Int32) (V : Sto), lp_Sy_clashes_9 x1 x2 k50 k58 n x4 V = some (r, V') → Y C shpC 5 9 [(0, .ref (C.a 3)), (1, .int x1), (2, .int x2), (4, .int x4)] [] V := by
  intro n
  induction n with
  | zero =>
    intro x4 V h
    rw [lp_Sy_clashes_9] at h
    cases h
  | succ n ih =>
    intro x4 V h
    rw [lp_Sy_clashes_9] at h
    refine Y_iload (pc := 9) hC d_Sy_clashes_9 3 rfl ?_
    refine Y_aload_n (pc := 11) hC d_Sy_clashes_11 rfl 0 rfl ?_
    refine Y_getI (pc := 12) hC sc_3 fl_Sy_30 rfl d_Sy_clashes_12 ?_
    refine Y_icmp_ge (pc := 15) hC 58 d_Sy_clashes_15 rfl (fun cc_15 => ?_) (fun cc_15 => ?_)
    · have h := ifp cc_15 h
      refine Y_sub (pc := 58) [] rfl ?_
      exact hk58 _ h
    · have h := ifn cc_15 h
      refine Y_aload_n (pc := 18) hC d_Sy_clashes_18 rfl 0 rfl ?_
      refine Y_getR (pc := 19) hC sc_3 fl_Sy_9 rfl d_Sy_clashes_19 ?_
      refine Y_iload (pc := 22) hC d_Sy_clashes_22 3 rfl ?_
      obtain ⟨hi, h⟩ := ck_some h
      refine Y_iald (pc := 24) hC sc_21 rfl hi d_Sy_clashes_24 ?_
      refine Y_iload_n (pc := 25) hC d_Sy_clashes_25 rfl 1 rfl ?_
      refine Y_icmp_ne (pc := 26) hC 52 d_Sy_clashes_26 rfl (fun cc_26 => ?_) (fun cc_26 => ?_)
      · have h := ifn cc_26 h
        refine Y_iinc (pc := 52) hC (v := x4 + 1) (L' := [(4, .int (x4 + 1)), (0, .ref (C.a 3)), (1, .int x1), (2, .int x2)]) d_Sy_clashes_52 3 rfl rfl (by decide) rfl ?_
        refine Y_goto (pc := 55) hC 9 d_Sy_clashes_55 rfl ?_
        refine Y_sub (pc := 9) [1, 2, 3, 0] rfl ?_
        exact ih _ _ h
      · have h := ifp cc_26 h
        refine Y_aload_n (pc := 29) hC d_Sy_clashes_29 rfl 0 rfl ?_
        refine Y_getR (pc := 30) hC sc_3 fl_Sy_15 rfl d_Sy_clashes_30 ?_
        refine Y_iload (pc := 33) hC d_Sy_clashes_33 3 rfl ?_
        obtain ⟨hi, h⟩ := ck_some h
        refine Y_iald (pc := 35) hC sc_22 rfl hi d_Sy_clashes_35 ?_
        refine Y_iload_n (pc := 36) hC d_Sy_clashes_36 rfl 2 rfl ?_
        refine Y_icmp_ne (pc := 37) hC 52 d_Sy_clashes_37 rfl (fun cc_37 => ?_) (fun cc_37 => ?_)
        · have h := ifn cc_37 h
          refine Y_iinc (pc := 52) hC (v := x4 + 1) (L' := [(4, .int (x4 + 1)), (0, .ref (C.a 3)), (1, .int x1), (2, .int x2)]) d_Sy_clashes_52 3 rfl rfl (by decide) rfl ?_
          refine Y_goto (pc := 55) hC 9 d_Sy_clashes_55 rfl ?_
          refine Y_sub (pc := 9) [1, 2, 3, 0] rfl ?_
          exact ih _ _ h
        · have h := ifp cc_37 h
          refine Y_aload_n (pc := 40) hC d_Sy_clashes_40 rfl 0 rfl ?_
          refine Y_getR (pc := 41) hC sc_3 fl_Sy_18 rfl d_Sy_clashes_41 ?_
          refine Y_iload (pc := 44) hC d_Sy_clashes_44 3 rfl ?_
          obtain ⟨hi, h⟩ := ck_some h
          refine Y_iald (pc := 46) hC sc_23 rfl hi d_Sy_clashes_46 ?_
          refine Y_if_eq (pc := 47) hC 52 d_Sy_clashes_47 rfl (fun cc_47 => ?_) (fun cc_47 => ?_)
          · have h := ifp cc_47 h
            refine Y_iinc (pc := 52) hC (v := x4 + 1) (L' := [(4, .int (x4 + 1)), (0, .ref (C.a 3)), (1, .int x1), (2, .int x2)]) d_Sy_clashes_52 3 rfl rfl (by decide) rfl ?_
            refine Y_goto (pc := 55) hC 9 d_Sy_clashes_55 rfl ?_
            refine Y_sub (pc := 9) [1, 2, 3, 0] rfl ?_
            exact ih _ _ h
          · have h := ifn cc_47 h
            refine Y_sub (pc := 50) [] rfl ?_
            exact hk50 _ h
set_option maxHeartbeats 4000000 in
set_option maxRecDepth 100000 in
theorem c_Sy_clashes (l : Launch) (D : va_G) (cI cZ : ClassId) (a : Nat → Nat) {V : Sto} {p1 : Int32} {p2 : Int32} {p3 : Int32} {r : Int32} {V' : Sto} (h : f_Sy_clashes V p1 p2 p3 = some (r, V')) : YMi l D cI cZ a shpC y_Sy_clashes b_Sy_clashes 5 (some .boolean) rm_Sy_clashes false [.ref (a 3), .int p1, .int p2, .int p3] V r V' := by
  refine YMi_of (by decide) (Nat.le_of_ble_eq_true rfl) ?_
  intro C hl hDD hcI hcZ ha hC hw hE
  subst hl hDD hcI hcZ ha
  show Y C shpC 5 0 [(0, .ref (C.a 3)), (1, .int p1), (2, .int p2), (3, .int p3)] [] V
  rw [f_Sy_clashes] at h
  refine Y_iload_n (pc := 0) hC d_Sy_clashes_0 rfl 3 rfl ?_
  refine Y_if_ne (pc := 1) hC 6 d_Sy_clashes_1 rfl (fun cc_1 => ?_) (fun cc_1 => ?_)
  · have h := ifn cc_1 h
    refine Y_iconst (pc := 6) hC d_Sy_clashes_6 ki_0 ?_
    refine Y_istore (pc := 7) hC (L' := [(4, .int 0), (0, .ref (C.a 3)), (1, .int p1), (2, .int p2), (3, .int p3)]) d_Sy_clashes_7 (by decide) rfl ?_
    refine Y_sub (pc := 9) [1, 2, 3, 0] rfl ?_
    refine ylp_Sy_clashes_9 hC hE (fun V1 h => ?_) (fun V2 h => ?_) FU _ _ h
    · have h := h
      refine Y_iconst (pc := 50) hC d_Sy_clashes_50 ki_1 ?_
      exact Y_zret (pc := 51) hC hE d_Sy_clashes_51 rfl h
    · have h := h
      refine Y_iconst (pc := 58) hC d_Sy_clashes_58 ki_0 ?_
      exact Y_zret (pc := 59) hC hE d_Sy_clashes_59 rfl h
  · have h := ifp cc_1 h
    refine Y_iconst (pc := 4) hC d_Sy_clashes_4 ki_0 ?_
    exact Y_zret (pc := 5) hC hE d_Sy_clashes_5 rfl h
set_option maxHeartbeats 4000000 in
set_option maxRecDepth 100000 in
theorem c_Sy_add (l : Launch) (D : va_G) (cI cZ : ClassId) (a : Nat → Nat) {V : Sto} {p1 : Int32} {p2 : Int32} {p3 : Int32} {r : Int32} {V' : Sto} (h : f_Sy_add V p1 p2 p3 = some (r, V')) : YMi l D cI cZ a shpC y_Sy_add b_Sy_add 4 (some .int) rm_Sy_add true [.ref (a 3), .int p1, .int p2, .int p3] V r V' := by
  refine YMi_of (by decide) (Nat.le_of_ble_eq_true rfl) ?_
  intro C hl hDD hcI hcZ ha hC hw hE
  subst hl hDD hcI hcZ ha
  show Y C shpC 4 0 [(0, .ref (C.a 3)), (1, .int p1), (2, .int p2), (3, .int p3)] [] V
  have hw := hw rfl
  rw [f_Sy_add] at h
  refine Y_aload_n (pc := 0) hC d_Sy_add_0 rfl 0 rfl ?_
  refine Y_getR (pc := 1) hC sc_3 fl_Sy_9 rfl d_Sy_add_1 ?_
  refine Y_aload_n (pc := 4) hC d_Sy_add_4 rfl 0 rfl ?_
  refine Y_getI (pc := 5) hC sc_3 fl_Sy_30 rfl d_Sy_add_5 ?_
  refine Y_iload_n (pc := 8) hC d_Sy_add_8 rfl 1 rfl ?_
  obtain ⟨hi, h⟩ := ck_some h
  obtain ⟨V1, hV1, h⟩ := nm_some h
  refine Y_iast (pc := 9) hC sc_21 (by decide) rfl hi hw rfl hV1 d_Sy_add_9 ?_
  refine Y_aload_n (pc := 10) hC d_Sy_add_10 rfl 0 rfl ?_
  refine Y_getR (pc := 11) hC sc_3 fl_Sy_15 rfl d_Sy_add_11 ?_
  refine Y_aload_n (pc := 14) hC d_Sy_add_14 rfl 0 rfl ?_
  refine Y_getI (pc := 15) hC sc_3 fl_Sy_30 rfl d_Sy_add_15 ?_
  refine Y_iload_n (pc := 18) hC d_Sy_add_18 rfl 2 rfl ?_
  obtain ⟨hi, h⟩ := ck_some h
  obtain ⟨V2, hV2, h⟩ := nm_some h
  refine Y_iast (pc := 19) hC sc_22 (by decide) rfl hi hw rfl hV2 d_Sy_add_19 ?_
  refine Y_aload_n (pc := 20) hC d_Sy_add_20 rfl 0 rfl ?_
  refine Y_getR (pc := 21) hC sc_3 fl_Sy_18 rfl d_Sy_add_21 ?_
  refine Y_aload_n (pc := 24) hC d_Sy_add_24 rfl 0 rfl ?_
  refine Y_getI (pc := 25) hC sc_3 fl_Sy_30 rfl d_Sy_add_25 ?_
  refine Y_iload_n (pc := 28) hC d_Sy_add_28 rfl 3 rfl ?_
  obtain ⟨hi, h⟩ := ck_some h
  obtain ⟨V3, hV3, h⟩ := nm_some h
  refine Y_iast (pc := 29) hC sc_23 (by decide) rfl hi hw rfl hV3 d_Sy_add_29 ?_
  refine Y_aload_n (pc := 30) hC d_Sy_add_30 rfl 0 rfl ?_
  refine Y_dup (pc := 31) hC d_Sy_add_31 rfl ?_
  refine Y_getI (pc := 32) hC sc_3 fl_Sy_30 rfl d_Sy_add_32 ?_
  refine Y_dup_x1 (pc := 35) hC d_Sy_add_35 rfl rfl ?_
  refine Y_iconst (pc := 36) hC d_Sy_add_36 ki_1 ?_
  refine Y_iadd (pc := 37) hC d_Sy_add_37 ?_
  obtain ⟨V4, hV4, h⟩ := nm_some h
  refine Y_put (pc := 38) hC sc_3 fl_Sy_30 rfl (by decide) fp_Sy ft_Sy_0 rfl rfl hw hV4 d_Sy_add_38 ?_
  exact Y_iret (pc := 41) hC hE d_Sy_add_41 h
set_option maxHeartbeats 4000000 in
set_option maxRecDepth 100000 in
theorem c_Sy_define (l : Launch) (D : va_G) (cI cZ : ClassId) (a : Nat → Nat) {V : Sto} {p1 : Int32} {p2 : Int32} {p3 : Int32} {p4 : Int32} {r : Int32} {V' : Sto} (h : f_Sy_define V p1 p2 p3 p4 = some (r, V')) : YMv l D cI cZ a shpC y_Sy_define b_Sy_define 5 rm_Sy_define true [.ref (a 3), .int p1, .int p2, .int p3, .int p4] V V' := by
  refine YMv_of (by decide) (Nat.le_of_ble_eq_true rfl) ?_
  intro C hl hDD hcI hcZ ha hC hw hE
  subst hl hDD hcI hcZ ha
  show Y C shpC 5 0 [(0, .ref (C.a 3)), (1, .int p1), (2, .int p2), (3, .int p3), (4, .int p4)] [] V
  have hw := hw rfl
  rw [f_Sy_define] at h
  refine Y_aload_n (pc := 0) hC d_Sy_define_0 rfl 0 rfl ?_
  refine Y_getR (pc := 1) hC sc_3 fl_Sy_21 rfl d_Sy_define_1 ?_
  refine Y_iload_n (pc := 4) hC d_Sy_define_4 rfl 1 rfl ?_
  refine Y_iload_n (pc := 5) hC d_Sy_define_5 rfl 2 rfl ?_
  obtain ⟨hi, h⟩ := ck_some h
  obtain ⟨V1, hV1, h⟩ := nm_some h
  refine Y_iast (pc := 6) hC sc_24 (by decide) rfl hi hw rfl hV1 d_Sy_define_6 ?_
  refine Y_aload_n (pc := 7) hC d_Sy_define_7 rfl 0 rfl ?_
  refine Y_getR (pc := 8) hC sc_3 fl_Sy_24 rfl d_Sy_define_8 ?_
  refine Y_iload_n (pc := 11) hC d_Sy_define_11 rfl 1 rfl ?_
  refine Y_iload_n (pc := 12) hC d_Sy_define_12 rfl 3 rfl ?_
  obtain ⟨hi, h⟩ := ck_some h
  obtain ⟨V2, hV2, h⟩ := nm_some h
  refine Y_iast (pc := 13) hC sc_25 (by decide) rfl hi hw rfl hV2 d_Sy_define_13 ?_
  refine Y_aload_n (pc := 14) hC d_Sy_define_14 rfl 0 rfl ?_
  refine Y_getR (pc := 15) hC sc_3 fl_Sy_27 rfl d_Sy_define_15 ?_
  refine Y_iload_n (pc := 18) hC d_Sy_define_18 rfl 1 rfl ?_
  refine Y_iload (pc := 19) hC d_Sy_define_19 4 rfl ?_
  obtain ⟨hi, h⟩ := ck_some h
  obtain ⟨V3, hV3, h⟩ := nm_some h
  refine Y_iast (pc := 21) hC sc_26 (by decide) rfl hi hw rfl hV3 d_Sy_define_21 ?_
  exact Y_vret (pc := 22) hC hE d_Sy_define_22 h
set_option maxHeartbeats 4000000 in
set_option maxRecDepth 100000 in
theorem c_Re_add (l : Launch) (D : va_G) (cI cZ : ClassId) (a : Nat → Nat) {V : Sto} {p1 : Int32} {p2 : Int32} {p3 : Int32} {p4 : Int32} {p5 : Int32} {r : Int32} {V' : Sto} (h : f_Re_add V p1 p2 p3 p4 p5 = some (r, V')) : YMi l D cI cZ a shpC y_Re_add b_Re_add 6 (some .int) rm_Re_add true [.ref (a 4), .int p1, .int p2, .int p3, .int p4, .int p5] V r V' := by
  refine YMi_of (by decide) (Nat.le_of_ble_eq_true rfl) ?_
  intro C hl hDD hcI hcZ ha hC hw hE
  subst hl hDD hcI hcZ ha
  show Y C shpC 6 0 [(0, .ref (C.a 4)), (1, .int p1), (2, .int p2), (3, .int p3), (4, .int p4), (5, .int p5)] [] V
  have hw := hw rfl
  rw [f_Re_add] at h
  refine Y_aload_n (pc := 0) hC d_Re_add_0 rfl 0 rfl ?_
  refine Y_getR (pc := 1) hC sc_4 fl_Re_9 rfl d_Re_add_1 ?_
  refine Y_aload_n (pc := 4) hC d_Re_add_4 rfl 0 rfl ?_
  refine Y_getI (pc := 5) hC sc_4 fl_Re_36 rfl d_Re_add_5 ?_
  refine Y_iload_n (pc := 8) hC d_Re_add_8 rfl 1 rfl ?_
  obtain ⟨hi, h⟩ := ck_some h
  obtain ⟨V1, hV1, h⟩ := nm_some h
  refine Y_iast (pc := 9) hC sc_27 (by decide) rfl hi hw rfl hV1 d_Re_add_9 ?_
  refine Y_aload_n (pc := 10) hC d_Re_add_10 rfl 0 rfl ?_
  refine Y_getR (pc := 11) hC sc_4 fl_Re_15 rfl d_Re_add_11 ?_
  refine Y_aload_n (pc := 14) hC d_Re_add_14 rfl 0 rfl ?_
  refine Y_getI (pc := 15) hC sc_4 fl_Re_36 rfl d_Re_add_15 ?_
  refine Y_iload_n (pc := 18) hC d_Re_add_18 rfl 2 rfl ?_
  obtain ⟨hi, h⟩ := ck_some h
  obtain ⟨V2, hV2, h⟩ := nm_some h
  refine Y_iast (pc := 19) hC sc_28 (by decide) rfl hi hw rfl hV2 d_Re_add_19 ?_
  refine Y_aload_n (pc := 20) hC d_Re_add_20 rfl 0 rfl ?_
  refine Y_getR (pc := 21) hC sc_4 fl_Re_18 rfl d_Re_add_21 ?_
  refine Y_aload_n (pc := 24) hC d_Re_add_24 rfl 0 rfl ?_
  refine Y_getI (pc := 25) hC sc_4 fl_Re_36 rfl d_Re_add_25 ?_
  refine Y_iload_n (pc := 28) hC d_Re_add_28 rfl 3 rfl ?_
  obtain ⟨hi, h⟩ := ck_some h
  obtain ⟨V3, hV3, h⟩ := nm_some h
  refine Y_iast (pc := 29) hC sc_29 (by decide) rfl hi hw rfl hV3 d_Re_add_29 ?_
  refine Y_aload_n (pc := 30) hC d_Re_add_30 rfl 0 rfl ?_
  refine Y_getR (pc := 31) hC sc_4 fl_Re_21 rfl d_Re_add_31 ?_
  refine Y_aload_n (pc := 34) hC d_Re_add_34 rfl 0 rfl ?_
  refine Y_getI (pc := 35) hC sc_4 fl_Re_36 rfl d_Re_add_35 ?_
  refine Y_iload (pc := 38) hC d_Re_add_38 4 rfl ?_
  obtain ⟨hi, h⟩ := ck_some h
  obtain ⟨V4, hV4, h⟩ := nm_some h
  refine Y_iast (pc := 40) hC sc_30 (by decide) rfl hi hw rfl hV4 d_Re_add_40 ?_
  refine Y_aload_n (pc := 41) hC d_Re_add_41 rfl 0 rfl ?_
  refine Y_getR (pc := 42) hC sc_4 fl_Re_24 rfl d_Re_add_42 ?_
  refine Y_aload_n (pc := 45) hC d_Re_add_45 rfl 0 rfl ?_
  refine Y_getI (pc := 46) hC sc_4 fl_Re_36 rfl d_Re_add_46 ?_
  refine Y_iload (pc := 49) hC d_Re_add_49 5 rfl ?_
  obtain ⟨hi, h⟩ := ck_some h
  obtain ⟨V5, hV5, h⟩ := nm_some h
  refine Y_iast (pc := 51) hC sc_31 (by decide) rfl hi hw rfl hV5 d_Re_add_51 ?_
  refine Y_aload_n (pc := 52) hC d_Re_add_52 rfl 0 rfl ?_
  refine Y_dup (pc := 53) hC d_Re_add_53 rfl ?_
  refine Y_getI (pc := 54) hC sc_4 fl_Re_36 rfl d_Re_add_54 ?_
  refine Y_dup_x1 (pc := 57) hC d_Re_add_57 rfl rfl ?_
  refine Y_iconst (pc := 58) hC d_Re_add_58 ki_1 ?_
  refine Y_iadd (pc := 59) hC d_Re_add_59 ?_
  obtain ⟨V6, hV6, h⟩ := nm_some h
  refine Y_put (pc := 60) hC sc_4 fl_Re_36 rfl (by decide) fp_Re ft_Re_0 rfl rfl hw hV6 d_Re_add_60 ?_
  exact Y_iret (pc := 63) hC hE d_Re_add_63 h
set_option maxHeartbeats 4000000 in
set_option maxRecDepth 100000 in
theorem ylp_Fo_countFolded_4 {C : YC} {r : Int32} {V' : Sto} {k32 : Int32 → Sto → RT} (hC : YF C R_Fo b_Fo_countFolded 3 rm_Fo_countFolded) (hE : YEi C .int shpC r V') (hk32 : ∀ (y1 : Int32) (V1 : Sto), k32 y1 V1 = some (r, V') → Y C shpC 3 32 [(1, .int y1)] [] V1) : ∀ (n : Nat) (x1 x2 : Int32) (V : Sto), lp_Fo_countFolded_4 k32 n x1 x2 V = some (r, V') → Y C shpC 3 4 [(0, .ref (C.a 8)), (1, .int x1), (2, .int x2)] [] V := by
  intro n
  induction n with
  | zero =>
    intro x1 x2 V h
    rw [lp_Fo_countFolded_4] at h
    cases h
  | succ n ih =>
    intro x1 x2 V h
    rw [lp_Fo_countFolded_4] at h
    refine Y_iload_n (pc := 4) hC d_Fo_countFolded_4 rfl 2 rfl ?_
    refine Y_aload_n (pc := 5) hC d_Fo_countFolded_5 rfl 0 rfl ?_
    refine Y_getR (pc := 6) hC sc_8 fl_Fo_18 rfl d_Fo_countFolded_6 ?_
    refine Y_getI (pc := 9) hC sc_2 fl_Fo_34 rfl d_Fo_countFolded_9 ?_
    refine Y_icmp_ge (pc := 12) hC 32 d_Fo_countFolded_12 rfl (fun cc_12 => ?_) (fun cc_12 => ?_)
    · have h := ifp cc_12 h
      refine Y_sub (pc := 32) [1] rfl ?_
      exact hk32 _ _ h
    · have h := ifn cc_12 h
      refine Y_aload_n (pc := 15) hC d_Fo_countFolded_15 rfl 0 rfl ?_
      refine Y_iload_n (pc := 16) hC d_Fo_countFolded_16 rfl 2 rfl ?_
      obtain ⟨r1, V1, hc_r1, h⟩ := cl_some h
      refine Y_callV (pc := 17) hC (c_Fo_isFolded C.l C.D C.cI C.cZ C.a hc_r1) (fun q => nomatch q) sc_8 cls_Fo ml_Fo_52 mv_Fo_isFolded (by decide) (Nat.le_of_ble_eq_true rfl) rfl d_Fo_countFolded_17 ?_
      refine Y_if_eq (pc := 20) hC 26 d_Fo_countFolded_20 rfl (fun cc_20 => ?_) (fun cc_20 => ?_)
      · have h := ifp cc_20 h
        refine Y_iinc (pc := 26) hC (v := x2 + 1) (L' := [(2, .int (x2 + 1)), (0, .ref (C.a 8)), (1, .int x1)]) d_Fo_countFolded_26 2 rfl rfl (by decide) rfl ?_
        refine Y_goto (pc := 29) hC 4 d_Fo_countFolded_29 rfl ?_
        refine Y_sub (pc := 4) [1, 2, 0] rfl ?_
        exact ih _ _ _ h
      · have h := ifn cc_20 h
        refine Y_iinc (pc := 23) hC (v := x1 + 1) (L' := [(1, .int (x1 + 1)), (0, .ref (C.a 8)), (2, .int x2)]) d_Fo_countFolded_23 1 rfl rfl (by decide) rfl ?_
        refine Y_iinc (pc := 26) hC (v := x2 + 1) (L' := [(2, .int (x2 + 1)), (1, .int (x1 + 1)), (0, .ref (C.a 8))]) d_Fo_countFolded_26 2 rfl rfl (by decide) rfl ?_
        refine Y_goto (pc := 29) hC 4 d_Fo_countFolded_29 rfl ?_
        refine Y_sub (pc := 4) [2, 1, 0] rfl ?_
        exact ih _ _ _ h
set_option maxHeartbeats 4000000 in
set_option maxRecDepth 100000 in
theorem c_Fo_countFolded (l : Launch) (D : va_G) (cI cZ : ClassId) (a : Nat → Nat) {V : Sto} {r : Int32} {V' : Sto} (h : f_Fo_countFolded V = some (r, V')) : YMi l D cI cZ a shpC y_Fo_countFolded b_Fo_countFolded 3 (some .int) rm_Fo_countFolded false [.ref (a 8)] V r V' := by
  refine YMi_of (by decide) (Nat.le_of_ble_eq_true rfl) ?_
  intro C hl hDD hcI hcZ ha hC hw hE
  subst hl hDD hcI hcZ ha
  show Y C shpC 3 0 [(0, .ref (C.a 8))] [] V
  rw [f_Fo_countFolded] at h
  refine Y_iconst (pc := 0) hC d_Fo_countFolded_0 ki_0 ?_
  refine Y_istore_n (pc := 1) hC (L' := [(1, .int 0), (0, .ref (C.a 8))]) d_Fo_countFolded_1 rfl (by decide) rfl ?_
  refine Y_iconst (pc := 2) hC d_Fo_countFolded_2 ki_0 ?_
  refine Y_istore_n (pc := 3) hC (L' := [(2, .int 0), (1, .int 0), (0, .ref (C.a 8))]) d_Fo_countFolded_3 rfl (by decide) rfl ?_
  refine Y_sub (pc := 4) [2, 1, 0] rfl ?_
  refine ylp_Fo_countFolded_4 hC hE (fun y1 V2 h => ?_) FU _ _ _ h
  refine Y_iload_n (pc := 32) hC d_Fo_countFolded_32 rfl 0 rfl ?_
  exact Y_iret (pc := 33) hC hE d_Fo_countFolded_33 h
